theorem kw_311 : Cond.fieldLink RX8 104 "AlreadyJudged$Suit" "kind" "I" ∈ zW := zwI (i := 311) (by decide +kernel) (by decide +kernel)
theorem kw_316 : Cond.fieldLink RX8 113 "AlreadyJudged$Suit" "won" "I" ∈ zW := zwI (i := 316) (by decide +kernel) (by decide +kernel)
theorem kw_338 : Cond.fieldLink RX8 110 "AlreadyJudged$Suit" "askedCount" "I" ∈ zW := zwI (i := 338) (by decide +kernel) (by decide +kernel)
theorem kw_344 : Cond.fieldLink RX8 107 "AlreadyJudged$Suit" "first" "I" ∈ zW := zwI (i := 344) (by decide +kernel) (by decide +kernel)
theorem dX8_readEnding_0 : decode cX8_readEnding 0 = .ok (.aload_n 0, 1) := by decide +kernel
theorem dX8_readEnding_1 : decode cX8_readEnding 1 = .ok (.bipush 61, 2) := by decide +kernel
theorem dX8_readEnding_3 : decode cX8_readEnding 3 = .ok (.invokevirtual 72, 3) := by decide +kernel
theorem dX8_readEnding_6 : decode cX8_readEnding 6 = .ok (.aload_n 0, 1) := by decide +kernel
theorem dX8_readEnding_7 : decode cX8_readEnding 7 = .ok (.bipush 112, 2) := by decide +kernel
theorem dX8_readEnding_9 : decode cX8_readEnding 9 = .ok (.invokevirtual 86, 3) := by decide +kernel
theorem dX8_readEnding_12 : decode cX8_readEnding 12 = .ok (.ifCond .eq 53, 3) := by decide +kernel
theorem dX8_readEnding_15 : decode cX8_readEnding 15 = .ok (.aload_n 1, 1) := by decide +kernel
theorem dX8_readEnding_16 : decode cX8_readEnding 16 = .ok (.bipush 6, 2) := by decide +kernel
theorem dX8_readEnding_18 : decode cX8_readEnding 18 = .ok (.putfield 104, 3) := by decide +kernel
theorem dX8_readEnding_21 : decode cX8_readEnding 21 = .ok (.aload_n 1, 1) := by decide +kernel
theorem dX8_readEnding_22 : decode cX8_readEnding 22 = .ok (.aload_n 0, 1) := by decide +kernel
theorem dX8_readEnding_23 : decode cX8_readEnding 23 = .ok (.iconst 1, 1) := by decide +kernel
theorem dX8_readEnding_24 : decode cX8_readEnding 24 = .ok (.invokevirtual 62, 3) := by decide +kernel
theorem dX8_readEnding_27 : decode cX8_readEnding 27 = .ok (.putfield 107, 3) := by decide +kernel
theorem dX8_readEnding_30 : decode cX8_readEnding 30 = .ok (.aload_n 0, 1) := by decide +kernel
theorem dX8_readEnding_31 : decode cX8_readEnding 31 = .ok (.aload_n 1, 1) := by decide +kernel
theorem dX8_readEnding_32 : decode cX8_readEnding 32 = .ok (.getfield 107, 3) := by decide +kernel
theorem dX8_readEnding_35 : decode cX8_readEnding 35 = .ok (.iconst 1, 1) := by decide +kernel
theorem dX8_readEnding_36 : decode cX8_readEnding 36 = .ok (.if_icmp .lt 18, 3) := by decide +kernel
theorem dX8_readEnding_39 : decode cX8_readEnding 39 = .ok (.aload_n 1, 1) := by decide +kernel
theorem dX8_readEnding_40 : decode cX8_readEnding 40 = .ok (.getfield 107, 3) := by decide +kernel
theorem dX8_readEnding_43 : decode cX8_readEnding 43 = .ok (.aload_n 1, 1) := by decide +kernel
theorem dX8_readEnding_44 : decode cX8_readEnding 44 = .ok (.getfield 110, 3) := by decide +kernel
theorem dX8_readEnding_47 : decode cX8_readEnding 47 = .ok (.if_icmp .gt 7, 3) := by decide +kernel
theorem dX8_readEnding_50 : decode cX8_readEnding 50 = .ok (.iconst 1, 1) := by decide +kernel
theorem dX8_readEnding_51 : decode cX8_readEnding 51 = .ok (.goto 4, 3) := by decide +kernel
theorem dX8_readEnding_54 : decode cX8_readEnding 54 = .ok (.iconst 0, 1) := by decide +kernel
theorem dX8_readEnding_55 : decode cX8_readEnding 55 = .ok (.aload_n 0, 1) := by decide +kernel
theorem dX8_readEnding_56 : decode cX8_readEnding 56 = .ok (.getfield 69, 3) := by decide +kernel
theorem dX8_readEnding_59 : decode cX8_readEnding 59 = .ok (.invokevirtual 48, 3) := by decide +kernel
theorem dX8_readEnding_62 : decode cX8_readEnding 62 = .ok (.goto 61, 3) := by decide +kernel
theorem dX8_readEnding_65 : decode cX8_readEnding 65 = .ok (.aload_n 1, 1) := by decide +kernel
theorem dX8_readEnding_66 : decode cX8_readEnding 66 = .ok (.aload_n 0, 1) := by decide +kernel
theorem dX8_readEnding_67 : decode cX8_readEnding 67 = .ok (.bipush 109, 2) := by decide +kernel
theorem dX8_readEnding_69 : decode cX8_readEnding 69 = .ok (.invokevirtual 86, 3) := by decide +kernel
theorem dX8_readEnding_72 : decode cX8_readEnding 72 = .ok (.ifCond .eq 7, 3) := by decide +kernel
theorem dX8_readEnding_75 : decode cX8_readEnding 75 = .ok (.iconst 1, 1) := by decide +kernel
theorem dX8_readEnding_76 : decode cX8_readEnding 76 = .ok (.goto 30, 3) := by decide +kernel
theorem dX8_readEnding_79 : decode cX8_readEnding 79 = .ok (.aload_n 0, 1) := by decide +kernel
theorem dX8_readEnding_80 : decode cX8_readEnding 80 = .ok (.bipush 102, 2) := by decide +kernel
theorem dX8_readEnding_82 : decode cX8_readEnding 82 = .ok (.invokevirtual 86, 3) := by decide +kernel
theorem dX8_readEnding_85 : decode cX8_readEnding 85 = .ok (.ifCond .eq 7, 3) := by decide +kernel
theorem dX8_readEnding_88 : decode cX8_readEnding 88 = .ok (.iconst 2, 1) := by decide +kernel
theorem dX8_readEnding_89 : decode cX8_readEnding 89 = .ok (.goto 17, 3) := by decide +kernel
theorem dX8_readEnding_92 : decode cX8_readEnding 92 = .ok (.aload_n 0, 1) := by decide +kernel
theorem dX8_readEnding_93 : decode cX8_readEnding 93 = .ok (.bipush 97, 2) := by decide +kernel
theorem dX8_readEnding_95 : decode cX8_readEnding 95 = .ok (.invokevirtual 86, 3) := by decide +kernel
theorem dX8_readEnding_98 : decode cX8_readEnding 98 = .ok (.ifCond .eq 7, 3) := by decide +kernel
theorem dX8_readEnding_101 : decode cX8_readEnding 101 = .ok (.iconst 3, 1) := by decide +kernel
theorem dX8_readEnding_102 : decode cX8_readEnding 102 = .ok (.goto 4, 3) := by decide +kernel
theorem dX8_readEnding_105 : decode cX8_readEnding 105 = .ok (.iconst 4, 1) := by decide +kernel
theorem dX8_readEnding_106 : decode cX8_readEnding 106 = .ok (.putfield 104, 3) := by decide +kernel
theorem dX8_readEnding_109 : decode cX8_readEnding 109 = .ok (.aload_n 1, 1) := by decide +kernel
theorem dX8_readEnding_110 : decode cX8_readEnding 110 = .ok (.getfield 104, 3) := by decide +kernel
theorem dX8_readEnding_113 : decode cX8_readEnding 113 = .ok (.iconst 4, 1) := by decide +kernel
theorem dX8_readEnding_114 : decode cX8_readEnding 114 = .ok (.if_icmp .ne 9, 3) := by decide +kernel
theorem dX8_readEnding_117 : decode cX8_readEnding 117 = .ok (.aload_n 0, 1) := by decide +kernel
theorem dX8_readEnding_118 : decode cX8_readEnding 118 = .ok (.bipush 100, 2) := by decide +kernel
theorem dX8_readEnding_120 : decode cX8_readEnding 120 = .ok (.invokevirtual 72, 3) := by decide +kernel
theorem dX8_readEnding_123 : decode cX8_readEnding 123 = .ok (.aload_n 1, 1) := by decide +kernel
theorem dX8_readEnding_124 : decode cX8_readEnding 124 = .ok (.aload_n 0, 1) := by decide +kernel
theorem dX8_readEnding_125 : decode cX8_readEnding 125 = .ok (.bipush 119, 2) := by decide +kernel
theorem dX8_readEnding_127 : decode cX8_readEnding 127 = .ok (.invokevirtual 86, 3) := by decide +kernel
theorem dX8_readEnding_130 : decode cX8_readEnding 130 = .ok (.ifCond .eq 7, 3) := by decide +kernel
theorem dX8_readEnding_133 : decode cX8_readEnding 133 = .ok (.iconst 1, 1) := by decide +kernel
theorem dX8_readEnding_134 : decode cX8_readEnding 134 = .ok (.goto 4, 3) := by decide +kernel
theorem dX8_readEnding_137 : decode cX8_readEnding 137 = .ok (.iconst 0, 1) := by decide +kernel
theorem dX8_readEnding_138 : decode cX8_readEnding 138 = .ok (.putfield 113, 3) := by decide +kernel
theorem dX8_readEnding_141 : decode cX8_readEnding 141 = .ok (.aload_n 1, 1) := by decide +kernel
theorem dX8_readEnding_142 : decode cX8_readEnding 142 = .ok (.getfield 113, 3) := by decide +kernel
theorem dX8_readEnding_145 : decode cX8_readEnding 145 = .ok (.ifCond .ne 9, 3) := by decide +kernel
theorem dX8_readEnding_148 : decode cX8_readEnding 148 = .ok (.aload_n 0, 1) := by decide +kernel
theorem dX8_readEnding_149 : decode cX8_readEnding 149 = .ok (.bipush 108, 2) := by decide +kernel
theorem dX8_readEnding_151 : decode cX8_readEnding 151 = .ok (.invokevirtual 72, 3) := by decide +kernel
theorem dX8_readEnding_154 : decode cX8_readEnding 154 = .ok (.return_, 1) := by decide +kernel
abbrev z_X8_readEnding : List Cond := .code yX8_readEnding cX8_readEnding 2 none :: zW
abbrev wl_X8_readEnding (ad : Nat → Nat) (cs : Nat → ClassId) (h_su : Nat) (h_su_asked : Nat) (tape_size : Int32) (tape_bytes : Nat → Int32) (sr_at : Int32) (sr_numberAt : Int32) (sr_fault : Int32) (su_who : Int32) (su_against : Int32) (su_kind : Int32) (su_won : Int32) (su_day : Int32) (su_land : Int32) (su_undoneFrom : Int32) (su_askedCount : Int32) (su_askedBits : Int32) (su_first : Int32) (su_foundSo : Int32) (su_foundNot : Int32) (su_fought : Int32) (su_needed : Int32) : va_W := [((ad 23), .inr (9, [.ref (ad 24), .int tape_size])), ((ad 24), .inl (cs 0, 120, .inl tape_bytes)), ((ad 25), .inr (8, [.ref (ad 23), .null, .int sr_at, .int sr_numberAt, .int sr_fault])), (h_su, .inr (7, [.int su_who, .int su_against, .int su_kind, .int su_won, .int su_day, .int su_land, .int su_undoneFrom, .ref h_su_asked, .int su_askedCount, .int su_askedBits, .int su_first, .int su_foundSo, .int su_foundNot, .int su_fought, .int su_needed]))]
def Q_X8_readEnding (D : va_G) (cs : Nat → ClassId) (ad : Nat → Nat) (h_su : Nat) (h_su_asked : Nat) (tape_size : Int32) (tape_bytes : Nat → Int32) (su_who : Int32) (su_against : Int32) (su_day : Int32) (su_land : Int32) (su_undoneFrom : Int32) (su_askedCount : Int32) (su_askedBits : Int32) (su_foundSo : Int32) (su_foundNot : Int32) (su_fought : Int32) (su_needed : Int32) (A : Nat → Prop) (R : Int32 × Int32 × Int32 × Int32 × Int32 × Int32) : Array Value → State → Outcome → State → Prop :=
  va_Qv (fun u : Int32 × Int32 × Int32 × Int32 × Int32 × Int32 => u = R) (fun (u : Int32 × Int32 × Int32 × Int32 × Int32 × Int32) (t : State) => va_P D classes (wl_X8_readEnding ad cs h_su h_su_asked tape_size tape_bytes u.1 u.2.1 u.2.2.1 su_who su_against u.2.2.2.1 u.2.2.2.2.1 su_day su_land su_undoneFrom su_askedCount su_askedBits u.2.2.2.2.2 su_foundSo su_foundNot su_fought su_needed) t.heap ∧ va_D A (wl_X8_readEnding ad cs h_su h_su_asked tape_size tape_bytes u.1 u.2.1 u.2.2.1 su_who su_against u.2.2.2.1 u.2.2.2.2.1 su_day su_land su_undoneFrom su_askedCount su_askedBits u.2.2.2.2.2 su_foundSo su_foundNot su_fought su_needed)) A
abbrev rm_X8_readEnding : Room := { frames := 3, cells := 0, slots := 0, locals := 66 }
def B_X8_readEnding_138    (tape_size : Int32) (tape_bytes : Nat → Int32) (su_who : Int32) (su_against : Int32) (su_day : Int32) (su_land : Int32) (su_undoneFrom : Int32) (su_askedCount : Int32) (su_askedBits : Int32) (su_foundSo : Int32) (su_foundNot : Int32) (su_fought : Int32) (su_needed : Int32) (s0 : Int32) (sr_at : Int32) (sr_numberAt : Int32) (sr_fault : Int32) (su_kind : Int32) (su_won : Int32) (su_first : Int32) : Option (Int32 × Int32 × Int32 × Int32 × Int32 × Int32) :=
  (if s0 = 0 then (zk_b2 (f_X8_expect (108 : Int32) tape_size tape_bytes sr_at sr_numberAt sr_fault) (fun u_38 u_39 => (some (u_38, sr_numberAt, u_39, su_kind, s0, su_first)))) else (some (sr_at, sr_numberAt, sr_fault, su_kind, s0, su_first)))
def B_X8_readEnding_123    (tape_size : Int32) (tape_bytes : Nat → Int32) (su_who : Int32) (su_against : Int32) (su_day : Int32) (su_land : Int32) (su_undoneFrom : Int32) (su_askedCount : Int32) (su_askedBits : Int32) (su_foundSo : Int32) (su_foundNot : Int32) (su_fought : Int32) (su_needed : Int32) (sr_at : Int32) (sr_numberAt : Int32) (sr_fault : Int32) (su_kind : Int32) (su_won : Int32) (su_first : Int32) : Option (Int32 × Int32 × Int32 × Int32 × Int32 × Int32) :=
  (zk_b2 (f_X8_accept (119 : Int32) tape_size tape_bytes sr_at sr_numberAt sr_fault) (fun r_33 u_34 => (if r_33 = 0 then (B_X8_readEnding_138 tape_size tape_bytes su_who su_against su_day su_land su_undoneFrom su_askedCount su_askedBits su_foundSo su_foundNot su_fought su_needed (0 : Int32) u_34 sr_numberAt sr_fault su_kind su_won su_first) else (B_X8_readEnding_138 tape_size tape_bytes su_who su_against su_day su_land su_undoneFrom su_askedCount su_askedBits su_foundSo su_foundNot su_fought su_needed (1 : Int32) u_34 sr_numberAt sr_fault su_kind su_won su_first))))
def B_X8_readEnding_106    (tape_size : Int32) (tape_bytes : Nat → Int32) (su_who : Int32) (su_against : Int32) (su_day : Int32) (su_land : Int32) (su_undoneFrom : Int32) (su_askedCount : Int32) (su_askedBits : Int32) (su_foundSo : Int32) (su_foundNot : Int32) (su_fought : Int32) (su_needed : Int32) (s0 : Int32) (sr_at : Int32) (sr_numberAt : Int32) (sr_fault : Int32) (su_kind : Int32) (su_won : Int32) (su_first : Int32) : Option (Int32 × Int32 × Int32 × Int32 × Int32 × Int32) :=
  (if s0 = (4 : Int32) then (zk_b2 (f_X8_expect (100 : Int32) tape_size tape_bytes sr_at sr_numberAt sr_fault) (fun u_30 u_31 => (B_X8_readEnding_123 tape_size tape_bytes su_who su_against su_day su_land su_undoneFrom su_askedCount su_askedBits su_foundSo su_foundNot su_fought su_needed u_30 sr_numberAt u_31 s0 su_won su_first))) else (B_X8_readEnding_123 tape_size tape_bytes su_who su_against su_day su_land su_undoneFrom su_askedCount su_askedBits su_foundSo su_foundNot su_fought su_needed sr_at sr_numberAt sr_fault s0 su_won su_first))
def B_X8_readEnding_55    (tape_size : Int32) (tape_bytes : Nat → Int32) (su_who : Int32) (su_against : Int32) (su_day : Int32) (su_land : Int32) (su_undoneFrom : Int32) (su_askedCount : Int32) (su_askedBits : Int32) (su_foundSo : Int32) (su_foundNot : Int32) (su_fought : Int32) (su_needed : Int32) (s0 : Int32) (sr_at : Int32) (sr_numberAt : Int32) (sr_fault : Int32) (su_kind : Int32) (su_won : Int32) (su_first : Int32) : Option (Int32 × Int32 × Int32 × Int32 × Int32 × Int32) :=
  (zk_b1 (f_X8_judge s0 sr_numberAt sr_at sr_numberAt sr_fault) (fun u_27 => (B_X8_readEnding_123 tape_size tape_bytes su_who su_against su_day su_land su_undoneFrom su_askedCount su_askedBits su_foundSo su_foundNot su_fought su_needed sr_at sr_numberAt u_27 su_kind su_won su_first)))
def B_X8_readEnding_54    (tape_size : Int32) (tape_bytes : Nat → Int32) (su_who : Int32) (su_against : Int32) (su_day : Int32) (su_land : Int32) (su_undoneFrom : Int32) (su_askedCount : Int32) (su_askedBits : Int32) (su_foundSo : Int32) (su_foundNot : Int32) (su_fought : Int32) (su_needed : Int32) (sr_at : Int32) (sr_numberAt : Int32) (sr_fault : Int32) (su_kind : Int32) (su_won : Int32) (su_first : Int32) : Option (Int32 × Int32 × Int32 × Int32 × Int32 × Int32) :=
  (B_X8_readEnding_55 tape_size tape_bytes su_who su_against su_day su_land su_undoneFrom su_askedCount su_askedBits su_foundSo su_foundNot su_fought su_needed (0 : Int32) sr_at sr_numberAt sr_fault su_kind su_won su_first)
def B_X8_readEnding_0    (tape_size : Int32) (tape_bytes : Nat → Int32) (su_who : Int32) (su_against : Int32) (su_day : Int32) (su_land : Int32) (su_undoneFrom : Int32) (su_askedCount : Int32) (su_askedBits : Int32) (su_foundSo : Int32) (su_foundNot : Int32) (su_fought : Int32) (su_needed : Int32) (sr_at : Int32) (sr_numberAt : Int32) (sr_fault : Int32) (su_kind : Int32) (su_won : Int32) (su_first : Int32) : Option (Int32 × Int32 × Int32 × Int32 × Int32 × Int32) :=
  (zk_b2 (f_X8_expect (61 : Int32) tape_size tape_bytes sr_at sr_numberAt sr_fault) (fun u_1 u_2 => (zk_b2 (f_X8_accept (112 : Int32) tape_size tape_bytes u_1 sr_numberAt u_2) (fun r_4 u_5 => (if r_4 = 0 then (zk_b2 (f_X8_accept (109 : Int32) tape_size tape_bytes u_5 sr_numberAt u_2) (fun r_8 u_9 => (if r_8 = 0 then (zk_b2 (f_X8_accept (102 : Int32) tape_size tape_bytes u_9 sr_numberAt u_2) (fun r_12 u_13 => (if r_12 = 0 then (zk_b2 (f_X8_accept (97 : Int32) tape_size tape_bytes u_13 sr_numberAt u_2) (fun r_16 u_17 => (if r_16 = 0 then (B_X8_readEnding_106 tape_size tape_bytes su_who su_against su_day su_land su_undoneFrom su_askedCount su_askedBits su_foundSo su_foundNot su_fought su_needed (4 : Int32) u_17 sr_numberAt u_2 su_kind su_won su_first) else (B_X8_readEnding_106 tape_size tape_bytes su_who su_against su_day su_land su_undoneFrom su_askedCount su_askedBits su_foundSo su_foundNot su_fought su_needed (3 : Int32) u_17 sr_numberAt u_2 su_kind su_won su_first)))) else (B_X8_readEnding_106 tape_size tape_bytes su_who su_against su_day su_land su_undoneFrom su_askedCount su_askedBits su_foundSo su_foundNot su_fought su_needed (2 : Int32) u_13 sr_numberAt u_2 su_kind su_won su_first)))) else (B_X8_readEnding_106 tape_size tape_bytes su_who su_against su_day su_land su_undoneFrom su_askedCount su_askedBits su_foundSo su_foundNot su_fought su_needed (1 : Int32) u_9 sr_numberAt u_2 su_kind su_won su_first)))) else (zk_b4 (f_X8_number 4000 (1 : Int32) tape_size tape_bytes u_5 sr_numberAt u_2) (fun r_20 u_21 u_22 u_23 => (if r_20 < (1 : Int32) then (B_X8_readEnding_54 tape_size tape_bytes su_who su_against su_day su_land su_undoneFrom su_askedCount su_askedBits su_foundSo su_foundNot su_fought su_needed u_21 u_22 u_23 (6 : Int32) su_won r_20) else (if su_askedCount < r_20 then (B_X8_readEnding_54 tape_size tape_bytes su_who su_against su_day su_land su_undoneFrom su_askedCount su_askedBits su_foundSo su_foundNot su_fought su_needed u_21 u_22 u_23 (6 : Int32) su_won r_20) else (B_X8_readEnding_55 tape_size tape_bytes su_who su_against su_day su_land su_undoneFrom su_askedCount su_askedBits su_foundSo su_foundNot su_fought su_needed (1 : Int32) u_21 u_22 u_23 (6 : Int32) su_won r_20))))))))))
def f_X8_readEnding    (tape_size : Int32) (tape_bytes : Nat → Int32) (sr_at : Int32) (sr_numberAt : Int32) (sr_fault : Int32) (su_who : Int32) (su_against : Int32) (su_kind : Int32) (su_won : Int32) (su_day : Int32) (su_land : Int32) (su_undoneFrom : Int32) (su_askedCount : Int32) (su_askedBits : Int32) (su_first : Int32) (su_foundSo : Int32) (su_foundNot : Int32) (su_fought : Int32) (su_needed : Int32) : Option (Int32 × Int32 × Int32 × Int32 × Int32 × Int32) := B_X8_readEnding_0   tape_size tape_bytes su_who su_against su_day su_land su_undoneFrom su_askedCount su_askedBits su_foundSo su_foundNot su_fought su_needed  sr_at sr_numberAt sr_fault su_kind su_won su_first
set_option maxHeartbeats 4000000 in
set_option maxRecDepth 100000 in
theorem L_X8_readEnding_138 {p : Program} {l : Launch} {e : Env} {s : State} {m : MethodId} {args : Array Value} {below : List Frame} {meth : Method} {c : Code} {A : Nat → Prop} {D : va_G} {cs : Nat → ClassId} {ad : Nat → Nat} {h_su : Nat} {h_su_asked : Nat} {tape_size : Int32} {tape_bytes : Nat → Int32} {su_who : Int32} {su_against : Int32} {su_day : Int32} {su_land : Int32} {su_undoneFrom : Int32} {su_askedCount : Int32} {su_askedBits : Int32} {su_foundSo : Int32} {su_foundNot : Int32} {su_fought : Int32} {su_needed : Int32} {R : Int32 × Int32 × Int32 × Int32 × Int32 × Int32} (C0 : zC p s m args meth c cX8_readEnding 2 none RX8 zW) (hK : va_K D classes (zT cs) s) (hA : ∀ q : Nat, s.heap.size ≤ q → A q) (s0 : Int32) (sr_at : Int32) (sr_numberAt : Int32) (sr_fault : Int32) (su_kind : Int32) (su_won : Int32) (su_first : Int32) (h : B_X8_readEnding_138 tape_size tape_bytes su_who su_against su_day su_land su_undoneFrom su_askedCount su_askedBits su_foundSo su_foundNot su_fought su_needed s0 sr_at sr_numberAt sr_fault su_kind su_won su_first = some R) (H : Heap) (locs : List Loc) (ls : Array Slot) (hP : va_P D classes (wl_X8_readEnding ad cs h_su h_su_asked tape_size tape_bytes sr_at sr_numberAt sr_fault su_who su_against su_kind su_won su_day su_land su_undoneFrom su_askedCount su_askedBits su_first su_foundSo su_foundNot su_fought su_needed) H) (hD : va_D A (wl_X8_readEnding ad cs h_su h_su_asked tape_size tape_bytes sr_at sr_numberAt sr_fault su_who su_against su_kind su_won su_day su_land su_undoneFrom su_askedCount su_askedBits su_first su_foundSo su_foundNot su_fought su_needed)) (hS : va_S A s.heap H locs) (hl : lv_has ls 2 [(0, .ref (ad 25)), (1, .ref h_su)]) : W p l e rm_X8_readEnding s m args below meth c H locs 0 0 (MQ below (Q_X8_readEnding D cs ad h_su h_su_asked tape_size tape_bytes su_who su_against su_day su_land su_undoneFrom su_askedCount su_askedBits su_foundSo su_foundNot su_fought su_needed A R) args s 0 0 A) (F0 m 138 ls [.int s0, .ref h_su]) := by
  obtain ⟨hx, hb, hr, hml, hown, ht, hlocks⟩ := id C0
  refine va_put (D := D) (ci := 7) (v := .int s0) (ty := .int) (C := RX7) (T := TX7) (N := 15) hx hb ht iX7 tyX7 tyX7_ok nmX7 hown hK hP hD hS 3 rfl rfl 3 (by decide) (ht _ kw_316) (fun _ h9 => h9) rfl (by decide +kernel) rfl rfl (Nat.le_of_ble_eq_true rfl) dX8_readEnding_138 (fun H locs hP hD hS => ?_)
  have hP : va_P D classes (wl_X8_readEnding ad cs h_su h_su_asked tape_size tape_bytes sr_at sr_numberAt sr_fault su_who su_against su_kind s0 su_day su_land su_undoneFrom su_askedCount su_askedBits su_first su_foundSo su_foundNot su_fought su_needed) H := hP
  have hD : va_D A (wl_X8_readEnding ad cs h_su h_su_asked tape_size tape_bytes sr_at sr_numberAt sr_fault su_who su_against su_kind s0 su_day su_land su_undoneFrom su_askedCount su_askedBits su_first su_foundSo su_foundNot su_fought su_needed) := hD
  refine lv_aload_n hx hb dX8_readEnding_141 rfl (lv_at hl 1 rfl) ?_
  refine va_get (D := D) (ci := 7) (v := .int s0) (C := RX7) (T := TX7) (N := 15) hx hb ht iX7 hown hK hP 3 rfl rfl 3 (by decide) (ht _ kw_316) (fun _ h9 => h9) rfl dX8_readEnding_142 ?_
  refine lv_if_ne (tgt := 154) hx hb dX8_readEnding_145 (by decide) (fun c_37 => ?_) (fun c_37 => ?_)
  · have h := zk_f c_37 h
    exact W.vret hx hb hr (fun t ht2 hW => ⟨⟨(sr_at, sr_numberAt, sr_fault, su_kind, s0, su_first), rfl, Option.some.inj h, by rw [ht2]; exact hP, hD⟩, hS.F ht2⟩) hS.2.2 dX8_readEnding_154 hlocks
  · have h := zk_t c_37 h
    refine lv_aload_n hx hb dX8_readEnding_148 rfl (lv_at hl 0 rfl) ?_
    refine lv_bipush (v := (108 : Int32)) hx hb dX8_readEnding_149 (by decide) ?_
    obtain ⟨u_38, u_39, hc_40, h⟩ := zk_o2 h
    refine zk_vv (post := (fun u => u = (u_38, u_39))) (w1 := fun u => (wl_X8_expect ad cs tape_size tape_bytes u.1 sr_numberAt u.2)) (As := [.int (108 : Int32)]) (rest := []) (c_X8_expect l D cs ad  H.size (108 : Int32) tape_size tape_bytes sr_at sr_numberAt sr_fault _ hc_40) ⟨hx, hb, hml, hown, ht⟩ (cwV 1 ht g_X8_72 rfl rfl rfl (by decide +kernel) ⟨Nat.le_of_ble_eq_true rfl, Nat.le_of_ble_eq_true rfl⟩) (va_recv hK hP (ci := 8) (q0 := 2) rfl rfl) hP hD hS hK hA [0, 1, 2] [3] rfl rfl rfl rfl (by decide) rfl hl.1 (Nat.le_of_ble_eq_true rfl) dX8_readEnding_151 ⟨Nat.zero_le _, Nat.zero_le _⟩ (fun u H locs hq hP hD hS => ?_)
    cases hq
    have hP : va_P D classes (wl_X8_readEnding ad cs h_su h_su_asked tape_size tape_bytes u_38 sr_numberAt u_39 su_who su_against su_kind s0 su_day su_land su_undoneFrom su_askedCount su_askedBits su_first su_foundSo su_foundNot su_fought su_needed) H := hP.sub [1, 2, 3, 0] rfl
    have hD : va_D A (wl_X8_readEnding ad cs h_su h_su_asked tape_size tape_bytes u_38 sr_numberAt u_39 su_who su_against su_kind s0 su_day su_land su_undoneFrom su_askedCount su_askedBits su_first su_foundSo su_foundNot su_fought su_needed) := hD.sub [1, 2, 3, 0] rfl rfl
    exact W.vret hx hb hr (fun t ht2 hW => ⟨⟨(u_38, sr_numberAt, u_39, su_kind, s0, su_first), rfl, Option.some.inj h, by rw [ht2]; exact hP, hD⟩, hS.F ht2⟩) hS.2.2 dX8_readEnding_154 hlocks
set_option maxHeartbeats 4000000 in
set_option maxRecDepth 100000 in
theorem L_X8_readEnding_123 {p : Program} {l : Launch} {e : Env} {s : State} {m : MethodId} {args : Array Value} {below : List Frame} {meth : Method} {c : Code} {A : Nat → Prop} {D : va_G} {cs : Nat → ClassId} {ad : Nat → Nat} {h_su : Nat} {h_su_asked : Nat} {tape_size : Int32} {tape_bytes : Nat → Int32} {su_who : Int32} {su_against : Int32} {su_day : Int32} {su_land : Int32} {su_undoneFrom : Int32} {su_askedCount : Int32} {su_askedBits : Int32} {su_foundSo : Int32} {su_foundNot : Int32} {su_fought : Int32} {su_needed : Int32} {R : Int32 × Int32 × Int32 × Int32 × Int32 × Int32} (C0 : zC p s m args meth c cX8_readEnding 2 none RX8 zW) (hK : va_K D classes (zT cs) s) (hA : ∀ q : Nat, s.heap.size ≤ q → A q) (sr_at : Int32) (sr_numberAt : Int32) (sr_fault : Int32) (su_kind : Int32) (su_won : Int32) (su_first : Int32) (h : B_X8_readEnding_123 tape_size tape_bytes su_who su_against su_day su_land su_undoneFrom su_askedCount su_askedBits su_foundSo su_foundNot su_fought su_needed sr_at sr_numberAt sr_fault su_kind su_won su_first = some R) (H : Heap) (locs : List Loc) (ls : Array Slot) (hP : va_P D classes (wl_X8_readEnding ad cs h_su h_su_asked tape_size tape_bytes sr_at sr_numberAt sr_fault su_who su_against su_kind su_won su_day su_land su_undoneFrom su_askedCount su_askedBits su_first su_foundSo su_foundNot su_fought su_needed) H) (hD : va_D A (wl_X8_readEnding ad cs h_su h_su_asked tape_size tape_bytes sr_at sr_numberAt sr_fault su_who su_against su_kind su_won su_day su_land su_undoneFrom su_askedCount su_askedBits su_first su_foundSo su_foundNot su_fought su_needed)) (hS : va_S A s.heap H locs) (hl : lv_has ls 2 [(0, .ref (ad 25)), (1, .ref h_su)]) : W p l e rm_X8_readEnding s m args below meth c H locs 0 0 (MQ below (Q_X8_readEnding D cs ad h_su h_su_asked tape_size tape_bytes su_who su_against su_day su_land su_undoneFrom su_askedCount su_askedBits su_foundSo su_foundNot su_fought su_needed A R) args s 0 0 A) (F0 m 123 ls []) := by
  obtain ⟨hx, hb, hr, hml, hown, ht, hlocks⟩ := id C0
  refine lv_aload_n hx hb dX8_readEnding_123 rfl (lv_at hl 1 rfl) ?_
  refine lv_aload_n hx hb dX8_readEnding_124 rfl (lv_at hl 0 rfl) ?_
  refine lv_bipush (v := (119 : Int32)) hx hb dX8_readEnding_125 (by decide) ?_
  obtain ⟨r_33, u_34, hc_35, h⟩ := zk_o2 h
  refine zk_vi (post := (fun r u => (r, u) = (r_33, u_34))) (w1 := fun u => (wl_X8_accept ad cs tape_size tape_bytes u sr_numberAt sr_fault)) (As := [.int (119 : Int32)]) (rest := [.ref h_su]) (c_X8_accept l D cs ad  H.size (119 : Int32) tape_size tape_bytes sr_at sr_numberAt sr_fault _ hc_35) ⟨hx, hb, hml, hown, ht⟩ (cwV 1 ht g_X8_86 rfl rfl rfl (by decide +kernel) ⟨Nat.le_of_ble_eq_true rfl, Nat.le_of_ble_eq_true rfl⟩) (va_recv hK hP (ci := 8) (q0 := 2) rfl rfl) hP hD hS hK hA [0, 1, 2] [3] rfl rfl rfl rfl (by decide) rfl hl.1 (Nat.le_of_ble_eq_true rfl) dX8_readEnding_127 ⟨Nat.zero_le _, Nat.zero_le _⟩ (fun r u H locs hq hP hD hS => ?_)
  cases hq
  have hP : va_P D classes (wl_X8_readEnding ad cs h_su h_su_asked tape_size tape_bytes u_34 sr_numberAt sr_fault su_who su_against su_kind su_won su_day su_land su_undoneFrom su_askedCount su_askedBits su_first su_foundSo su_foundNot su_fought su_needed) H := hP.sub [1, 2, 3, 0] rfl
  have hD : va_D A (wl_X8_readEnding ad cs h_su h_su_asked tape_size tape_bytes u_34 sr_numberAt sr_fault su_who su_against su_kind su_won su_day su_land su_undoneFrom su_askedCount su_askedBits su_first su_foundSo su_foundNot su_fought su_needed) := hD.sub [1, 2, 3, 0] rfl rfl
  refine lv_if_eq (tgt := 137) hx hb dX8_readEnding_130 (by decide) (fun c_36 => ?_) (fun c_36 => ?_)
  · have h := zk_t c_36 h
    refine lv_iconst (v := (0 : Int32)) hx hb dX8_readEnding_137 (by decide) ?_
    exact L_X8_readEnding_138 C0 hK hA   (0 : Int32) u_34 sr_numberAt sr_fault su_kind su_won su_first h H locs ls hP hD hS (lv_sub hl [0, 1] rfl)
  · have h := zk_f c_36 h
    refine lv_iconst (v := (1 : Int32)) hx hb dX8_readEnding_133 (by decide) ?_
    refine lv_goto (tgt := 138) hx hb dX8_readEnding_134 (by decide) ?_
    exact L_X8_readEnding_138 C0 hK hA   (1 : Int32) u_34 sr_numberAt sr_fault su_kind su_won su_first h H locs ls hP hD hS (lv_sub hl [0, 1] rfl)
set_option maxHeartbeats 4000000 in
set_option maxRecDepth 100000 in
theorem L_X8_readEnding_106 {p : Program} {l : Launch} {e : Env} {s : State} {m : MethodId} {args : Array Value} {below : List Frame} {meth : Method} {c : Code} {A : Nat → Prop} {D : va_G} {cs : Nat → ClassId} {ad : Nat → Nat} {h_su : Nat} {h_su_asked : Nat} {tape_size : Int32} {tape_bytes : Nat → Int32} {su_who : Int32} {su_against : Int32} {su_day : Int32} {su_land : Int32} {su_undoneFrom : Int32} {su_askedCount : Int32} {su_askedBits : Int32} {su_foundSo : Int32} {su_foundNot : Int32} {su_fought : Int32} {su_needed : Int32} {R : Int32 × Int32 × Int32 × Int32 × Int32 × Int32} (C0 : zC p s m args meth c cX8_readEnding 2 none RX8 zW) (hK : va_K D classes (zT cs) s) (hA : ∀ q : Nat, s.heap.size ≤ q → A q) (s0 : Int32) (sr_at : Int32) (sr_numberAt : Int32) (sr_fault : Int32) (su_kind : Int32) (su_won : Int32) (su_first : Int32) (h : B_X8_readEnding_106 tape_size tape_bytes su_who su_against su_day su_land su_undoneFrom su_askedCount su_askedBits su_foundSo su_foundNot su_fought su_needed s0 sr_at sr_numberAt sr_fault su_kind su_won su_first = some R) (H : Heap) (locs : List Loc) (ls : Array Slot) (hP : va_P D classes (wl_X8_readEnding ad cs h_su h_su_asked tape_size tape_bytes sr_at sr_numberAt sr_fault su_who su_against su_kind su_won su_day su_land su_undoneFrom su_askedCount su_askedBits su_first su_foundSo su_foundNot su_fought su_needed) H) (hD : va_D A (wl_X8_readEnding ad cs h_su h_su_asked tape_size tape_bytes sr_at sr_numberAt sr_fault su_who su_against su_kind su_won su_day su_land su_undoneFrom su_askedCount su_askedBits su_first su_foundSo su_foundNot su_fought su_needed)) (hS : va_S A s.heap H locs) (hl : lv_has ls 2 [(0, .ref (ad 25)), (1, .ref h_su)]) : W p l e rm_X8_readEnding s m args below meth c H locs 0 0 (MQ below (Q_X8_readEnding D cs ad h_su h_su_asked tape_size tape_bytes su_who su_against su_day su_land su_undoneFrom su_askedCount su_askedBits su_foundSo su_foundNot su_fought su_needed A R) args s 0 0 A) (F0 m 106 ls [.int s0, .ref h_su]) := by
  obtain ⟨hx, hb, hr, hml, hown, ht, hlocks⟩ := id C0
  refine va_put (D := D) (ci := 7) (v := .int s0) (ty := .int) (C := RX7) (T := TX7) (N := 15) hx hb ht iX7 tyX7 tyX7_ok nmX7 hown hK hP hD hS 3 rfl rfl 2 (by decide) (ht _ kw_311) (fun _ h9 => h9) rfl (by decide +kernel) rfl rfl (Nat.le_of_ble_eq_true rfl) dX8_readEnding_106 (fun H locs hP hD hS => ?_)
  have hP : va_P D classes (wl_X8_readEnding ad cs h_su h_su_asked tape_size tape_bytes sr_at sr_numberAt sr_fault su_who su_against s0 su_won su_day su_land su_undoneFrom su_askedCount su_askedBits su_first su_foundSo su_foundNot su_fought su_needed) H := hP
  have hD : va_D A (wl_X8_readEnding ad cs h_su h_su_asked tape_size tape_bytes sr_at sr_numberAt sr_fault su_who su_against s0 su_won su_day su_land su_undoneFrom su_askedCount su_askedBits su_first su_foundSo su_foundNot su_fought su_needed) := hD
  refine lv_aload_n hx hb dX8_readEnding_109 rfl (lv_at hl 1 rfl) ?_
  refine va_get (D := D) (ci := 7) (v := .int s0) (C := RX7) (T := TX7) (N := 15) hx hb ht iX7 hown hK hP 3 rfl rfl 2 (by decide) (ht _ kw_311) (fun _ h9 => h9) rfl dX8_readEnding_110 ?_
  refine lv_iconst (v := (4 : Int32)) hx hb dX8_readEnding_113 (by decide) ?_
  refine lv_icmp_ne (tgt := 123) hx hb dX8_readEnding_114 (by decide) (fun c_29 => ?_) (fun c_29 => ?_)
  · have h := zk_f c_29 h
    exact L_X8_readEnding_123 C0 hK hA   sr_at sr_numberAt sr_fault s0 su_won su_first h H locs ls hP hD hS (lv_sub hl [0, 1] rfl)
  · have h := zk_t c_29 h
    refine lv_aload_n hx hb dX8_readEnding_117 rfl (lv_at hl 0 rfl) ?_
    refine lv_bipush (v := (100 : Int32)) hx hb dX8_readEnding_118 (by decide) ?_
    obtain ⟨u_30, u_31, hc_32, h⟩ := zk_o2 h
    refine zk_vv (post := (fun u => u = (u_30, u_31))) (w1 := fun u => (wl_X8_expect ad cs tape_size tape_bytes u.1 sr_numberAt u.2)) (As := [.int (100 : Int32)]) (rest := []) (c_X8_expect l D cs ad  H.size (100 : Int32) tape_size tape_bytes sr_at sr_numberAt sr_fault _ hc_32) ⟨hx, hb, hml, hown, ht⟩ (cwV 1 ht g_X8_72 rfl rfl rfl (by decide +kernel) ⟨Nat.le_of_ble_eq_true rfl, Nat.le_of_ble_eq_true rfl⟩) (va_recv hK hP (ci := 8) (q0 := 2) rfl rfl) hP hD hS hK hA [0, 1, 2] [3] rfl rfl rfl rfl (by decide) rfl hl.1 (Nat.le_of_ble_eq_true rfl) dX8_readEnding_120 ⟨Nat.zero_le _, Nat.zero_le _⟩ (fun u H locs hq hP hD hS => ?_)
    cases hq
    have hP : va_P D classes (wl_X8_readEnding ad cs h_su h_su_asked tape_size tape_bytes u_30 sr_numberAt u_31 su_who su_against s0 su_won su_day su_land su_undoneFrom su_askedCount su_askedBits su_first su_foundSo su_foundNot su_fought su_needed) H := hP.sub [1, 2, 3, 0] rfl
    have hD : va_D A (wl_X8_readEnding ad cs h_su h_su_asked tape_size tape_bytes u_30 sr_numberAt u_31 su_who su_against s0 su_won su_day su_land su_undoneFrom su_askedCount su_askedBits su_first su_foundSo su_foundNot su_fought su_needed) := hD.sub [1, 2, 3, 0] rfl rfl
    exact L_X8_readEnding_123 C0 hK hA   u_30 sr_numberAt u_31 s0 su_won su_first h H locs ls hP hD hS (lv_sub hl [0, 1] rfl)
set_option maxHeartbeats 4000000 in
set_option maxRecDepth 100000 in
theorem L_X8_readEnding_55 {p : Program} {l : Launch} {e : Env} {s : State} {m : MethodId} {args : Array Value} {below : List Frame} {meth : Method} {c : Code} {A : Nat → Prop} {D : va_G} {cs : Nat → ClassId} {ad : Nat → Nat} {h_su : Nat} {h_su_asked : Nat} {tape_size : Int32} {tape_bytes : Nat → Int32} {su_who : Int32} {su_against : Int32} {su_day : Int32} {su_land : Int32} {su_undoneFrom : Int32} {su_askedCount : Int32} {su_askedBits : Int32} {su_foundSo : Int32} {su_foundNot : Int32} {su_fought : Int32} {su_needed : Int32} {R : Int32 × Int32 × Int32 × Int32 × Int32 × Int32} (C0 : zC p s m args meth c cX8_readEnding 2 none RX8 zW) (hK : va_K D classes (zT cs) s) (hA : ∀ q : Nat, s.heap.size ≤ q → A q) (s0 : Int32) (sr_at : Int32) (sr_numberAt : Int32) (sr_fault : Int32) (su_kind : Int32) (su_won : Int32) (su_first : Int32) (h : B_X8_readEnding_55 tape_size tape_bytes su_who su_against su_day su_land su_undoneFrom su_askedCount su_askedBits su_foundSo su_foundNot su_fought su_needed s0 sr_at sr_numberAt sr_fault su_kind su_won su_first = some R) (H : Heap) (locs : List Loc) (ls : Array Slot) (hP : va_P D classes (wl_X8_readEnding ad cs h_su h_su_asked tape_size tape_bytes sr_at sr_numberAt sr_fault su_who su_against su_kind su_won su_day su_land su_undoneFrom su_askedCount su_askedBits su_first su_foundSo su_foundNot su_fought su_needed) H) (hD : va_D A (wl_X8_readEnding ad cs h_su h_su_asked tape_size tape_bytes sr_at sr_numberAt sr_fault su_who su_against su_kind su_won su_day su_land su_undoneFrom su_askedCount su_askedBits su_first su_foundSo su_foundNot su_fought su_needed)) (hS : va_S A s.heap H locs) (hl : lv_has ls 2 [(0, .ref (ad 25)), (1, .ref h_su)]) : W p l e rm_X8_readEnding s m args below meth c H locs 0 0 (MQ below (Q_X8_readEnding D cs ad h_su h_su_asked tape_size tape_bytes su_who su_against su_day su_land su_undoneFrom su_askedCount su_askedBits su_foundSo su_foundNot su_fought su_needed A R) args s 0 0 A) (F0 m 55 ls [.int s0, .ref (ad 25)]) := by
  obtain ⟨hx, hb, hr, hml, hown, ht, hlocks⟩ := id C0
  refine lv_aload_n hx hb dX8_readEnding_55 rfl (lv_at hl 0 rfl) ?_
  refine va_get (D := D) (ci := 8) (v := .int sr_numberAt) (C := RX8) (T := TX8) (N := 5) hx hb ht iX8 hown hK hP 2 rfl rfl 3 (by decide) (ht _ kw_254) (fun _ h9 => h9) rfl dX8_readEnding_56 ?_
  obtain ⟨u_27, hc_28, h⟩ := zk_o1 h
  refine zk_vv (post := (fun u => u = u_27)) (w1 := fun u => (wl_X8_judge ad cs sr_at sr_numberAt u)) (As := [.int s0, .int sr_numberAt]) (rest := []) (c_X8_judge l D cs ad  H.size s0 sr_numberAt sr_at sr_numberAt sr_fault _ hc_28) ⟨hx, hb, hml, hown, ht⟩ (cwV 2 ht g_X8_48 rfl rfl rfl (by decide +kernel) ⟨Nat.le_of_ble_eq_true rfl, Nat.le_of_ble_eq_true rfl⟩) (va_recv hK hP (ci := 8) (q0 := 2) rfl rfl) hP hD hS hK hA [2] [0, 1, 3] rfl rfl rfl rfl (by decide) rfl hl.1 (Nat.le_of_ble_eq_true rfl) dX8_readEnding_59 ⟨Nat.zero_le _, Nat.zero_le _⟩ (fun u H locs hq hP hD hS => ?_)
  cases hq
  have hP : va_P D classes (wl_X8_readEnding ad cs h_su h_su_asked tape_size tape_bytes sr_at sr_numberAt u_27 su_who su_against su_kind su_won su_day su_land su_undoneFrom su_askedCount su_askedBits su_first su_foundSo su_foundNot su_fought su_needed) H := hP.sub [0, 1, 3, 2] rfl
  have hD : va_D A (wl_X8_readEnding ad cs h_su h_su_asked tape_size tape_bytes sr_at sr_numberAt u_27 su_who su_against su_kind su_won su_day su_land su_undoneFrom su_askedCount su_askedBits su_first su_foundSo su_foundNot su_fought su_needed) := hD.sub [0, 1, 3, 2] rfl rfl
  refine lv_goto (tgt := 123) hx hb dX8_readEnding_62 (by decide) ?_
  exact L_X8_readEnding_123 C0 hK hA   sr_at sr_numberAt u_27 su_kind su_won su_first h H locs ls hP hD hS (lv_sub hl [0, 1] rfl)
set_option maxHeartbeats 4000000 in
set_option maxRecDepth 100000 in
theorem L_X8_readEnding_54 {p : Program} {l : Launch} {e : Env} {s : State} {m : MethodId} {args : Array Value} {below : List Frame} {meth : Method} {c : Code} {A : Nat → Prop} {D : va_G} {cs : Nat → ClassId} {ad : Nat → Nat} {h_su : Nat} {h_su_asked : Nat} {tape_size : Int32} {tape_bytes : Nat → Int32} {su_who : Int32} {su_against : Int32} {su_day : Int32} {su_land : Int32} {su_undoneFrom : Int32} {su_askedCount : Int32} {su_askedBits : Int32} {su_foundSo : Int32} {su_foundNot : Int32} {su_fought : Int32} {su_needed : Int32} {R : Int32 × Int32 × Int32 × Int32 × Int32 × Int32} (C0 : zC p s m args meth c cX8_readEnding 2 none RX8 zW) (hK : va_K D classes (zT cs) s) (hA : ∀ q : Nat, s.heap.size ≤ q → A q) (sr_at : Int32) (sr_numberAt : Int32) (sr_fault : Int32) (su_kind : Int32) (su_won : Int32) (su_first : Int32) (h : B_X8_readEnding_54 tape_size tape_bytes su_who su_against su_day su_land su_undoneFrom su_askedCount su_askedBits su_foundSo su_foundNot su_fought su_needed sr_at sr_numberAt sr_fault su_kind su_won su_first = some R) (H : Heap) (locs : List Loc) (ls : Array Slot) (hP : va_P D classes (wl_X8_readEnding ad cs h_su h_su_asked tape_size tape_bytes sr_at sr_numberAt sr_fault su_who su_against su_kind su_won su_day su_land su_undoneFrom su_askedCount su_askedBits su_first su_foundSo su_foundNot su_fought su_needed) H) (hD : va_D A (wl_X8_readEnding ad cs h_su h_su_asked tape_size tape_bytes sr_at sr_numberAt sr_fault su_who su_against su_kind su_won su_day su_land su_undoneFrom su_askedCount su_askedBits su_first su_foundSo su_foundNot su_fought su_needed)) (hS : va_S A s.heap H locs) (hl : lv_has ls 2 [(0, .ref (ad 25)), (1, .ref h_su)]) : W p l e rm_X8_readEnding s m args below meth c H locs 0 0 (MQ below (Q_X8_readEnding D cs ad h_su h_su_asked tape_size tape_bytes su_who su_against su_day su_land su_undoneFrom su_askedCount su_askedBits su_foundSo su_foundNot su_fought su_needed A R) args s 0 0 A) (F0 m 54 ls [.ref (ad 25)]) := by
  obtain ⟨hx, hb, hr, hml, hown, ht, hlocks⟩ := id C0
  refine lv_iconst (v := (0 : Int32)) hx hb dX8_readEnding_54 (by decide) ?_
  exact L_X8_readEnding_55 C0 hK hA   (0 : Int32) sr_at sr_numberAt sr_fault su_kind su_won su_first h H locs ls hP hD hS (lv_sub hl [0, 1] rfl)
set_option maxHeartbeats 4000000 in
set_option maxRecDepth 100000 in
theorem L_X8_readEnding_0 {p : Program} {l : Launch} {e : Env} {s : State} {m : MethodId} {args : Array Value} {below : List Frame} {meth : Method} {c : Code} {A : Nat → Prop} {D : va_G} {cs : Nat → ClassId} {ad : Nat → Nat} {h_su : Nat} {h_su_asked : Nat} {tape_size : Int32} {tape_bytes : Nat → Int32} {su_who : Int32} {su_against : Int32} {su_day : Int32} {su_land : Int32} {su_undoneFrom : Int32} {su_askedCount : Int32} {su_askedBits : Int32} {su_foundSo : Int32} {su_foundNot : Int32} {su_fought : Int32} {su_needed : Int32} {R : Int32 × Int32 × Int32 × Int32 × Int32 × Int32} (C0 : zC p s m args meth c cX8_readEnding 2 none RX8 zW) (hK : va_K D classes (zT cs) s) (hA : ∀ q : Nat, s.heap.size ≤ q → A q) (sr_at : Int32) (sr_numberAt : Int32) (sr_fault : Int32) (su_kind : Int32) (su_won : Int32) (su_first : Int32) (h : B_X8_readEnding_0 tape_size tape_bytes su_who su_against su_day su_land su_undoneFrom su_askedCount su_askedBits su_foundSo su_foundNot su_fought su_needed sr_at sr_numberAt sr_fault su_kind su_won su_first = some R) (H : Heap) (locs : List Loc) (ls : Array Slot) (hP : va_P D classes (wl_X8_readEnding ad cs h_su h_su_asked tape_size tape_bytes sr_at sr_numberAt sr_fault su_who su_against su_kind su_won su_day su_land su_undoneFrom su_askedCount su_askedBits su_first su_foundSo su_foundNot su_fought su_needed) H) (hD : va_D A (wl_X8_readEnding ad cs h_su h_su_asked tape_size tape_bytes sr_at sr_numberAt sr_fault su_who su_against su_kind su_won su_day su_land su_undoneFrom su_askedCount su_askedBits su_first su_foundSo su_foundNot su_fought su_needed)) (hS : va_S A s.heap H locs) (hl : lv_has ls 2 [(0, .ref (ad 25)), (1, .ref h_su)]) : W p l e rm_X8_readEnding s m args below meth c H locs 0 0 (MQ below (Q_X8_readEnding D cs ad h_su h_su_asked tape_size tape_bytes su_who su_against su_day su_land su_undoneFrom su_askedCount su_askedBits su_foundSo su_foundNot su_fought su_needed A R) args s 0 0 A) (F0 m 0 ls []) := by
  obtain ⟨hx, hb, hr, hml, hown, ht, hlocks⟩ := id C0
  refine lv_aload_n hx hb dX8_readEnding_0 rfl (lv_at hl 0 rfl) ?_
  refine lv_bipush (v := (61 : Int32)) hx hb dX8_readEnding_1 (by decide) ?_
  obtain ⟨u_1, u_2, hc_3, h⟩ := zk_o2 h
  refine zk_vv (post := (fun u => u = (u_1, u_2))) (w1 := fun u => (wl_X8_expect ad cs tape_size tape_bytes u.1 sr_numberAt u.2)) (As := [.int (61 : Int32)]) (rest := []) (c_X8_expect l D cs ad  H.size (61 : Int32) tape_size tape_bytes sr_at sr_numberAt sr_fault _ hc_3) ⟨hx, hb, hml, hown, ht⟩ (cwV 1 ht g_X8_72 rfl rfl rfl (by decide +kernel) ⟨Nat.le_of_ble_eq_true rfl, Nat.le_of_ble_eq_true rfl⟩) (va_recv hK hP (ci := 8) (q0 := 2) rfl rfl) hP hD hS hK hA [0, 1, 2] [3] rfl rfl rfl rfl (by decide) rfl hl.1 (Nat.le_of_ble_eq_true rfl) dX8_readEnding_3 ⟨Nat.zero_le _, Nat.zero_le _⟩ (fun u H locs hq hP hD hS => ?_)
  cases hq
  have hP : va_P D classes (wl_X8_readEnding ad cs h_su h_su_asked tape_size tape_bytes u_1 sr_numberAt u_2 su_who su_against su_kind su_won su_day su_land su_undoneFrom su_askedCount su_askedBits su_first su_foundSo su_foundNot su_fought su_needed) H := hP.sub [1, 2, 3, 0] rfl
  have hD : va_D A (wl_X8_readEnding ad cs h_su h_su_asked tape_size tape_bytes u_1 sr_numberAt u_2 su_who su_against su_kind su_won su_day su_land su_undoneFrom su_askedCount su_askedBits su_first su_foundSo su_foundNot su_fought su_needed) := hD.sub [1, 2, 3, 0] rfl rfl
  refine lv_aload_n hx hb dX8_readEnding_6 rfl (lv_at hl 0 rfl) ?_
  refine lv_bipush (v := (112 : Int32)) hx hb dX8_readEnding_7 (by decide) ?_
  obtain ⟨r_4, u_5, hc_6, h⟩ := zk_o2 h
  refine zk_vi (post := (fun r u => (r, u) = (r_4, u_5))) (w1 := fun u => (wl_X8_accept ad cs tape_size tape_bytes u sr_numberAt u_2)) (As := [.int (112 : Int32)]) (rest := []) (c_X8_accept l D cs ad  H.size (112 : Int32) tape_size tape_bytes u_1 sr_numberAt u_2 _ hc_6) ⟨hx, hb, hml, hown, ht⟩ (cwV 1 ht g_X8_86 rfl rfl rfl (by decide +kernel) ⟨Nat.le_of_ble_eq_true rfl, Nat.le_of_ble_eq_true rfl⟩) (va_recv hK hP (ci := 8) (q0 := 2) rfl rfl) hP hD hS hK hA [0, 1, 2] [3] rfl rfl rfl rfl (by decide) rfl hl.1 (Nat.le_of_ble_eq_true rfl) dX8_readEnding_9 ⟨Nat.zero_le _, Nat.zero_le _⟩ (fun r u H locs hq hP hD hS => ?_)
  cases hq
  have hP : va_P D classes (wl_X8_readEnding ad cs h_su h_su_asked tape_size tape_bytes u_5 sr_numberAt u_2 su_who su_against su_kind su_won su_day su_land su_undoneFrom su_askedCount su_askedBits su_first su_foundSo su_foundNot su_fought su_needed) H := hP.sub [1, 2, 3, 0] rfl
  have hD : va_D A (wl_X8_readEnding ad cs h_su h_su_asked tape_size tape_bytes u_5 sr_numberAt u_2 su_who su_against su_kind su_won su_day su_land su_undoneFrom su_askedCount su_askedBits su_first su_foundSo su_foundNot su_fought su_needed) := hD.sub [1, 2, 3, 0] rfl rfl
  refine lv_if_eq (tgt := 65) hx hb dX8_readEnding_12 (by decide) (fun c_7 => ?_) (fun c_7 => ?_)
  · have h := zk_t c_7 h
    refine lv_aload_n hx hb dX8_readEnding_65 rfl (lv_at hl 1 rfl) ?_
    refine lv_aload_n hx hb dX8_readEnding_66 rfl (lv_at hl 0 rfl) ?_
    refine lv_bipush (v := (109 : Int32)) hx hb dX8_readEnding_67 (by decide) ?_
    obtain ⟨r_8, u_9, hc_10, h⟩ := zk_o2 h
    refine zk_vi (post := (fun r u => (r, u) = (r_8, u_9))) (w1 := fun u => (wl_X8_accept ad cs tape_size tape_bytes u sr_numberAt u_2)) (As := [.int (109 : Int32)]) (rest := [.ref h_su]) (c_X8_accept l D cs ad  H.size (109 : Int32) tape_size tape_bytes u_5 sr_numberAt u_2 _ hc_10) ⟨hx, hb, hml, hown, ht⟩ (cwV 1 ht g_X8_86 rfl rfl rfl (by decide +kernel) ⟨Nat.le_of_ble_eq_true rfl, Nat.le_of_ble_eq_true rfl⟩) (va_recv hK hP (ci := 8) (q0 := 2) rfl rfl) hP hD hS hK hA [0, 1, 2] [3] rfl rfl rfl rfl (by decide) rfl hl.1 (Nat.le_of_ble_eq_true rfl) dX8_readEnding_69 ⟨Nat.zero_le _, Nat.zero_le _⟩ (fun r u H locs hq hP hD hS => ?_)
    cases hq
    have hP : va_P D classes (wl_X8_readEnding ad cs h_su h_su_asked tape_size tape_bytes u_9 sr_numberAt u_2 su_who su_against su_kind su_won su_day su_land su_undoneFrom su_askedCount su_askedBits su_first su_foundSo su_foundNot su_fought su_needed) H := hP.sub [1, 2, 3, 0] rfl
    have hD : va_D A (wl_X8_readEnding ad cs h_su h_su_asked tape_size tape_bytes u_9 sr_numberAt u_2 su_who su_against su_kind su_won su_day su_land su_undoneFrom su_askedCount su_askedBits su_first su_foundSo su_foundNot su_fought su_needed) := hD.sub [1, 2, 3, 0] rfl rfl
    refine lv_if_eq (tgt := 79) hx hb dX8_readEnding_72 (by decide) (fun c_11 => ?_) (fun c_11 => ?_)
    · have h := zk_t c_11 h
      refine lv_aload_n hx hb dX8_readEnding_79 rfl (lv_at hl 0 rfl) ?_
      refine lv_bipush (v := (102 : Int32)) hx hb dX8_readEnding_80 (by decide) ?_
      obtain ⟨r_12, u_13, hc_14, h⟩ := zk_o2 h
      refine zk_vi (post := (fun r u => (r, u) = (r_12, u_13))) (w1 := fun u => (wl_X8_accept ad cs tape_size tape_bytes u sr_numberAt u_2)) (As := [.int (102 : Int32)]) (rest := [.ref h_su]) (c_X8_accept l D cs ad  H.size (102 : Int32) tape_size tape_bytes u_9 sr_numberAt u_2 _ hc_14) ⟨hx, hb, hml, hown, ht⟩ (cwV 1 ht g_X8_86 rfl rfl rfl (by decide +kernel) ⟨Nat.le_of_ble_eq_true rfl, Nat.le_of_ble_eq_true rfl⟩) (va_recv hK hP (ci := 8) (q0 := 2) rfl rfl) hP hD hS hK hA [0, 1, 2] [3] rfl rfl rfl rfl (by decide) rfl hl.1 (Nat.le_of_ble_eq_true rfl) dX8_readEnding_82 ⟨Nat.zero_le _, Nat.zero_le _⟩ (fun r u H locs hq hP hD hS => ?_)
      cases hq
      have hP : va_P D classes (wl_X8_readEnding ad cs h_su h_su_asked tape_size tape_bytes u_13 sr_numberAt u_2 su_who su_against su_kind su_won su_day su_land su_undoneFrom su_askedCount su_askedBits su_first su_foundSo su_foundNot su_fought su_needed) H := hP.sub [1, 2, 3, 0] rfl
      have hD : va_D A (wl_X8_readEnding ad cs h_su h_su_asked tape_size tape_bytes u_13 sr_numberAt u_2 su_who su_against su_kind su_won su_day su_land su_undoneFrom su_askedCount su_askedBits su_first su_foundSo su_foundNot su_fought su_needed) := hD.sub [1, 2, 3, 0] rfl rfl
      refine lv_if_eq (tgt := 92) hx hb dX8_readEnding_85 (by decide) (fun c_15 => ?_) (fun c_15 => ?_)
      · have h := zk_t c_15 h
        refine lv_aload_n hx hb dX8_readEnding_92 rfl (lv_at hl 0 rfl) ?_
        refine lv_bipush (v := (97 : Int32)) hx hb dX8_readEnding_93 (by decide) ?_
        obtain ⟨r_16, u_17, hc_18, h⟩ := zk_o2 h
        refine zk_vi (post := (fun r u => (r, u) = (r_16, u_17))) (w1 := fun u => (wl_X8_accept ad cs tape_size tape_bytes u sr_numberAt u_2)) (As := [.int (97 : Int32)]) (rest := [.ref h_su]) (c_X8_accept l D cs ad  H.size (97 : Int32) tape_size tape_bytes u_13 sr_numberAt u_2 _ hc_18) ⟨hx, hb, hml, hown, ht⟩ (cwV 1 ht g_X8_86 rfl rfl rfl (by decide +kernel) ⟨Nat.le_of_ble_eq_true rfl, Nat.le_of_ble_eq_true rfl⟩) (va_recv hK hP (ci := 8) (q0 := 2) rfl rfl) hP hD hS hK hA [0, 1, 2] [3] rfl rfl rfl rfl (by decide) rfl hl.1 (Nat.le_of_ble_eq_true rfl) dX8_readEnding_95 ⟨Nat.zero_le _, Nat.zero_le _⟩ (fun r u H locs hq hP hD hS => ?_)
        cases hq
        have hP : va_P D classes (wl_X8_readEnding ad cs h_su h_su_asked tape_size tape_bytes u_17 sr_numberAt u_2 su_who su_against su_kind su_won su_day su_land su_undoneFrom su_askedCount su_askedBits su_first su_foundSo su_foundNot su_fought su_needed) H := hP.sub [1, 2, 3, 0] rfl
        have hD : va_D A (wl_X8_readEnding ad cs h_su h_su_asked tape_size tape_bytes u_17 sr_numberAt u_2 su_who su_against su_kind su_won su_day su_land su_undoneFrom su_askedCount su_askedBits su_first su_foundSo su_foundNot su_fought su_needed) := hD.sub [1, 2, 3, 0] rfl rfl
        refine lv_if_eq (tgt := 105) hx hb dX8_readEnding_98 (by decide) (fun c_19 => ?_) (fun c_19 => ?_)
        · have h := zk_t c_19 h
          refine lv_iconst (v := (4 : Int32)) hx hb dX8_readEnding_105 (by decide) ?_
          exact L_X8_readEnding_106 C0 hK hA   (4 : Int32) u_17 sr_numberAt u_2 su_kind su_won su_first h H locs ls hP hD hS (lv_sub hl [0, 1] rfl)
        · have h := zk_f c_19 h
          refine lv_iconst (v := (3 : Int32)) hx hb dX8_readEnding_101 (by decide) ?_
          refine lv_goto (tgt := 106) hx hb dX8_readEnding_102 (by decide) ?_
          exact L_X8_readEnding_106 C0 hK hA   (3 : Int32) u_17 sr_numberAt u_2 su_kind su_won su_first h H locs ls hP hD hS (lv_sub hl [0, 1] rfl)
      · have h := zk_f c_15 h
        refine lv_iconst (v := (2 : Int32)) hx hb dX8_readEnding_88 (by decide) ?_
        refine lv_goto (tgt := 106) hx hb dX8_readEnding_89 (by decide) ?_
        exact L_X8_readEnding_106 C0 hK hA   (2 : Int32) u_13 sr_numberAt u_2 su_kind su_won su_first h H locs ls hP hD hS (lv_sub hl [0, 1] rfl)
    · have h := zk_f c_11 h
      refine lv_iconst (v := (1 : Int32)) hx hb dX8_readEnding_75 (by decide) ?_
      refine lv_goto (tgt := 106) hx hb dX8_readEnding_76 (by decide) ?_
      exact L_X8_readEnding_106 C0 hK hA   (1 : Int32) u_9 sr_numberAt u_2 su_kind su_won su_first h H locs ls hP hD hS (lv_sub hl [0, 1] rfl)
  · have h := zk_f c_7 h
    refine lv_aload_n hx hb dX8_readEnding_15 rfl (lv_at hl 1 rfl) ?_
    refine lv_bipush (v := (6 : Int32)) hx hb dX8_readEnding_16 (by decide) ?_
    refine va_put (D := D) (ci := 7) (v := .int (6 : Int32)) (ty := .int) (C := RX7) (T := TX7) (N := 15) hx hb ht iX7 tyX7 tyX7_ok nmX7 hown hK hP hD hS 3 rfl rfl 2 (by decide) (ht _ kw_311) (fun _ h9 => h9) rfl (by decide +kernel) rfl rfl (Nat.le_of_ble_eq_true rfl) dX8_readEnding_18 (fun H locs hP hD hS => ?_)
    have hP : va_P D classes (wl_X8_readEnding ad cs h_su h_su_asked tape_size tape_bytes u_5 sr_numberAt u_2 su_who su_against (6 : Int32) su_won su_day su_land su_undoneFrom su_askedCount su_askedBits su_first su_foundSo su_foundNot su_fought su_needed) H := hP
    have hD : va_D A (wl_X8_readEnding ad cs h_su h_su_asked tape_size tape_bytes u_5 sr_numberAt u_2 su_who su_against (6 : Int32) su_won su_day su_land su_undoneFrom su_askedCount su_askedBits su_first su_foundSo su_foundNot su_fought su_needed) := hD
    refine lv_aload_n hx hb dX8_readEnding_21 rfl (lv_at hl 1 rfl) ?_
    refine lv_aload_n hx hb dX8_readEnding_22 rfl (lv_at hl 0 rfl) ?_
    refine lv_iconst (v := (1 : Int32)) hx hb dX8_readEnding_23 (by decide) ?_
    obtain ⟨r_20, u_21, u_22, u_23, hc_24, h⟩ := zk_o4 h
    refine zk_vi (post := (fun r u => (r, u) = (r_20, u_21, u_22, u_23))) (w1 := fun u => (wl_X8_number ad cs tape_size tape_bytes u.1 u.2.1 u.2.2)) (As := [.int (1 : Int32)]) (rest := [.ref h_su]) (c_X8_number l D cs ad  H.size 4000 (1 : Int32) tape_size tape_bytes u_5 sr_numberAt u_2 _ hc_24) ⟨hx, hb, hml, hown, ht⟩ (cwV 1 ht g_X8_62 rfl rfl rfl (by decide +kernel) ⟨Nat.le_of_ble_eq_true rfl, Nat.le_of_ble_eq_true rfl⟩) (va_recv hK hP (ci := 8) (q0 := 2) rfl rfl) hP hD hS hK hA [0, 1, 2] [3] rfl rfl rfl rfl (by decide) rfl hl.1 (Nat.le_of_ble_eq_true rfl) dX8_readEnding_24 ⟨Nat.zero_le _, Nat.zero_le _⟩ (fun r u H locs hq hP hD hS => ?_)
    cases hq
    have hP : va_P D classes (wl_X8_readEnding ad cs h_su h_su_asked tape_size tape_bytes u_21 u_22 u_23 su_who su_against (6 : Int32) su_won su_day su_land su_undoneFrom su_askedCount su_askedBits su_first su_foundSo su_foundNot su_fought su_needed) H := hP.sub [1, 2, 3, 0] rfl
    have hD : va_D A (wl_X8_readEnding ad cs h_su h_su_asked tape_size tape_bytes u_21 u_22 u_23 su_who su_against (6 : Int32) su_won su_day su_land su_undoneFrom su_askedCount su_askedBits su_first su_foundSo su_foundNot su_fought su_needed) := hD.sub [1, 2, 3, 0] rfl rfl
    refine va_put (D := D) (ci := 7) (v := .int r_20) (ty := .int) (C := RX7) (T := TX7) (N := 15) hx hb ht iX7 tyX7 tyX7_ok nmX7 hown hK hP hD hS 3 rfl rfl 10 (by decide) (ht _ kw_344) (fun _ h9 => h9) rfl (by decide +kernel) rfl rfl (Nat.le_of_ble_eq_true rfl) dX8_readEnding_27 (fun H locs hP hD hS => ?_)
    have hP : va_P D classes (wl_X8_readEnding ad cs h_su h_su_asked tape_size tape_bytes u_21 u_22 u_23 su_who su_against (6 : Int32) su_won su_day su_land su_undoneFrom su_askedCount su_askedBits r_20 su_foundSo su_foundNot su_fought su_needed) H := hP
    have hD : va_D A (wl_X8_readEnding ad cs h_su h_su_asked tape_size tape_bytes u_21 u_22 u_23 su_who su_against (6 : Int32) su_won su_day su_land su_undoneFrom su_askedCount su_askedBits r_20 su_foundSo su_foundNot su_fought su_needed) := hD
    refine lv_aload_n hx hb dX8_readEnding_30 rfl (lv_at hl 0 rfl) ?_
    refine lv_aload_n hx hb dX8_readEnding_31 rfl (lv_at hl 1 rfl) ?_
    refine va_get (D := D) (ci := 7) (v := .int r_20) (C := RX7) (T := TX7) (N := 15) hx hb ht iX7 hown hK hP 3 rfl rfl 10 (by decide) (ht _ kw_344) (fun _ h9 => h9) rfl dX8_readEnding_32 ?_
    refine lv_iconst (v := (1 : Int32)) hx hb dX8_readEnding_35 (by decide) ?_
    refine lv_icmp_lt (tgt := 54) hx hb dX8_readEnding_36 (by decide) (fun c_25 => ?_) (fun c_25 => ?_)
    · have h := zk_t c_25 h
      exact L_X8_readEnding_54 C0 hK hA   u_21 u_22 u_23 (6 : Int32) su_won r_20 h H locs ls hP hD hS (lv_sub hl [0, 1] rfl)
    · have h := zk_f c_25 h
      refine lv_aload_n hx hb dX8_readEnding_39 rfl (lv_at hl 1 rfl) ?_
      refine va_get (D := D) (ci := 7) (v := .int r_20) (C := RX7) (T := TX7) (N := 15) hx hb ht iX7 hown hK hP 3 rfl rfl 10 (by decide) (ht _ kw_344) (fun _ h9 => h9) rfl dX8_readEnding_40 ?_
      refine lv_aload_n hx hb dX8_readEnding_43 rfl (lv_at hl 1 rfl) ?_
      refine va_get (D := D) (ci := 7) (v := .int su_askedCount) (C := RX7) (T := TX7) (N := 15) hx hb ht iX7 hown hK hP 3 rfl rfl 8 (by decide) (ht _ kw_338) (fun _ h9 => h9) rfl dX8_readEnding_44 ?_
      refine lv_icmp_gt (tgt := 54) hx hb dX8_readEnding_47 (by decide) (fun c_26 => ?_) (fun c_26 => ?_)
      · have h := zk_t c_26 h
        exact L_X8_readEnding_54 C0 hK hA   u_21 u_22 u_23 (6 : Int32) su_won r_20 h H locs ls hP hD hS (lv_sub hl [0, 1] rfl)
      · have h := zk_f c_26 h
        refine lv_iconst (v := (1 : Int32)) hx hb dX8_readEnding_50 (by decide) ?_
        refine lv_goto (tgt := 55) hx hb dX8_readEnding_51 (by decide) ?_
        exact L_X8_readEnding_55 C0 hK hA   (1 : Int32) u_21 u_22 u_23 (6 : Int32) su_won r_20 h H locs ls hP hD hS (lv_sub hl [0, 1] rfl)
set_option maxHeartbeats 4000000 in
set_option maxRecDepth 100000 in
theorem c_X8_readEnding (l : Launch) (D : va_G) (cs : Nat → ClassId) (ad : Nat → Nat) (h_su : Nat) (h_su_asked : Nat) (sz : Nat)  (tape_size : Int32) (tape_bytes : Nat → Int32) (sr_at : Int32) (sr_numberAt : Int32) (sr_fault : Int32) (su_who : Int32) (su_against : Int32) (su_kind : Int32) (su_won : Int32) (su_day : Int32) (su_land : Int32) (su_undoneFrom : Int32) (su_askedCount : Int32) (su_askedBits : Int32) (su_first : Int32) (su_foundSo : Int32) (su_foundNot : Int32) (su_fought : Int32) (su_needed : Int32) (R : Int32 × Int32 × Int32 × Int32 × Int32 × Int32) (h : f_X8_readEnding    tape_size tape_bytes sr_at sr_numberAt sr_fault su_who su_against su_kind su_won su_day su_land su_undoneFrom su_askedCount su_askedBits su_first su_foundSo su_foundNot su_fought su_needed = some R) : Met l yX8_readEnding (z_X8_readEnding) rm_X8_readEnding (va_Pc [.ref (ad 25), .ref h_su] (zPre D cs (wl_X8_readEnding ad cs h_su h_su_asked tape_size tape_bytes sr_at sr_numberAt sr_fault su_who su_against su_kind su_won su_day su_land su_undoneFrom su_askedCount su_askedBits su_first su_foundSo su_foundNot su_fought su_needed) sz)) (Q_X8_readEnding D cs ad h_su h_su_asked tape_size tape_bytes su_who su_against su_day su_land su_undoneFrom su_askedCount su_askedBits su_foundSo su_foundNot su_fought su_needed (va_A (wl_X8_readEnding ad cs h_su h_su_asked tape_size tape_bytes sr_at sr_numberAt sr_fault su_who su_against su_kind su_won su_day su_land su_undoneFrom su_askedCount su_askedBits su_first su_foundSo su_foundNot su_fought su_needed) sz) R) 0 0 (va_A (wl_X8_readEnding ad cs h_su h_su_asked tape_size tape_bytes sr_at sr_numberAt sr_fault su_who su_against su_kind su_won su_day su_land su_undoneFrom su_askedCount su_askedBits su_first su_foundSo su_foundNot su_fought su_needed) sz) := by
  refine Met.ofW (cc := cX8_readEnding) (maxL := 2) (ret := none) (by decide) rfl ?_
  intro p e s m args below meth c s₁ B hml hv
  obtain ⟨rfl, hsz, hP, hK, hD0⟩ := hv
  subst hsz
  have hD := hD0.self (sz := s.heap.size)
  have C0 : zC p s m _ meth c cX8_readEnding 2 none RX8 zW := ⟨B.exec, B.bytes, B.returns, hml, findClass_of_methodNamed B.named, fun w hw => atoms_spec (ws := z_X8_readEnding) B.pre w (List.mem_cons_of_mem _ hw), B.notSynchronized⟩
  have hA : ∀ q : Nat, s.heap.size ≤ q → va_A (wl_X8_readEnding ad cs h_su h_su_asked tape_size tape_bytes sr_at sr_numberAt sr_fault su_who su_against su_kind su_won su_day su_land su_undoneFrom su_askedCount su_askedBits su_first su_foundSo su_foundNot su_fought su_needed) s.heap.size q := fun q h => Or.inr h
  have hl := lv_entry ([.ref (ad 25), .ref h_su]) (n := 2) (Nat.le_of_ble_eq_true rfl)
  rw [lg_entry_eq]
  generalize (lg_sl ([.ref (ad 25), .ref h_su]) ++ List.replicate (2 - (lg_sl ([.ref (ad 25), .ref h_su])).length) Slot.unset).toArray = ls at hl ⊢
  exact L_X8_readEnding_0 C0 hK hA    sr_at sr_numberAt sr_fault su_kind su_won su_first h s.heap [] ls hP hD va_S.rf hl
theorem kw_321 : Cond.fieldLink RX8 116 "AlreadyJudged$Suit" "day" "I" ∈ zW := zwI (i := 321) (by decide +kernel) (by decide +kernel)
theorem kw_326 : Cond.fieldLink RX8 119 "AlreadyJudged$Suit" "land" "I" ∈ zW := zwI (i := 326) (by decide +kernel) (by decide +kernel)
theorem dX8_readTime_0 : decode cX8_readTime 0 = .ok (.aload_n 0, 1) := by decide +kernel
theorem dX8_readTime_1 : decode cX8_readTime 1 = .ok (.bipush 64, 2) := by decide +kernel
theorem dX8_readTime_3 : decode cX8_readTime 3 = .ok (.invokevirtual 72, 3) := by decide +kernel
theorem dX8_readTime_6 : decode cX8_readTime 6 = .ok (.aload_n 1, 1) := by decide +kernel
theorem dX8_readTime_7 : decode cX8_readTime 7 = .ok (.aload_n 0, 1) := by decide +kernel
theorem dX8_readTime_8 : decode cX8_readTime 8 = .ok (.iconst 4, 1) := by decide +kernel
theorem dX8_readTime_9 : decode cX8_readTime 9 = .ok (.invokevirtual 62, 3) := by decide +kernel
theorem dX8_readTime_12 : decode cX8_readTime 12 = .ok (.putfield 116, 3) := by decide +kernel
theorem dX8_readTime_15 : decode cX8_readTime 15 = .ok (.aload_n 0, 1) := by decide +kernel
theorem dX8_readTime_16 : decode cX8_readTime 16 = .ok (.bipush 47, 2) := by decide +kernel
theorem dX8_readTime_18 : decode cX8_readTime 18 = .ok (.invokevirtual 72, 3) := by decide +kernel
theorem dX8_readTime_21 : decode cX8_readTime 21 = .ok (.aload_n 1, 1) := by decide +kernel
theorem dX8_readTime_22 : decode cX8_readTime 22 = .ok (.aload_n 0, 1) := by decide +kernel
theorem dX8_readTime_23 : decode cX8_readTime 23 = .ok (.iconst 1, 1) := by decide +kernel
theorem dX8_readTime_24 : decode cX8_readTime 24 = .ok (.invokevirtual 62, 3) := by decide +kernel
theorem dX8_readTime_27 : decode cX8_readTime 27 = .ok (.putfield 119, 3) := by decide +kernel
theorem dX8_readTime_30 : decode cX8_readTime 30 = .ok (.aload_n 0, 1) := by decide +kernel
theorem dX8_readTime_31 : decode cX8_readTime 31 = .ok (.aload_n 1, 1) := by decide +kernel
theorem dX8_readTime_32 : decode cX8_readTime 32 = .ok (.getfield 119, 3) := by decide +kernel
theorem dX8_readTime_35 : decode cX8_readTime 35 = .ok (.bipush 8, 2) := by decide +kernel
theorem dX8_readTime_37 : decode cX8_readTime 37 = .ok (.if_icmp .ge 7, 3) := by decide +kernel
theorem dX8_readTime_40 : decode cX8_readTime 40 = .ok (.iconst 1, 1) := by decide +kernel
theorem dX8_readTime_41 : decode cX8_readTime 41 = .ok (.goto 4, 3) := by decide +kernel
theorem dX8_readTime_44 : decode cX8_readTime 44 = .ok (.iconst 0, 1) := by decide +kernel
theorem dX8_readTime_45 : decode cX8_readTime 45 = .ok (.aload_n 0, 1) := by decide +kernel
theorem dX8_readTime_46 : decode cX8_readTime 46 = .ok (.getfield 69, 3) := by decide +kernel
theorem dX8_readTime_49 : decode cX8_readTime 49 = .ok (.invokevirtual 48, 3) := by decide +kernel
theorem dX8_readTime_52 : decode cX8_readTime 52 = .ok (.return_, 1) := by decide +kernel
abbrev z_X8_readTime : List Cond := .code yX8_readTime cX8_readTime 2 none :: zW
abbrev wl_X8_readTime (ad : Nat → Nat) (cs : Nat → ClassId) (h_su : Nat) (h_su_asked : Nat) (tape_size : Int32) (tape_bytes : Nat → Int32) (sr_at : Int32) (sr_numberAt : Int32) (sr_fault : Int32) (su_who : Int32) (su_against : Int32) (su_kind : Int32) (su_won : Int32) (su_day : Int32) (su_land : Int32) (su_undoneFrom : Int32) (su_askedCount : Int32) (su_askedBits : Int32) (su_first : Int32) (su_foundSo : Int32) (su_foundNot : Int32) (su_fought : Int32) (su_needed : Int32) : va_W := [((ad 23), .inr (9, [.ref (ad 24), .int tape_size])), ((ad 24), .inl (cs 0, 120, .inl tape_bytes)), ((ad 25), .inr (8, [.ref (ad 23), .null, .int sr_at, .int sr_numberAt, .int sr_fault])), (h_su, .inr (7, [.int su_who, .int su_against, .int su_kind, .int su_won, .int su_day, .int su_land, .int su_undoneFrom, .ref h_su_asked, .int su_askedCount, .int su_askedBits, .int su_first, .int su_foundSo, .int su_foundNot, .int su_fought, .int su_needed]))]
def Q_X8_readTime (D : va_G) (cs : Nat → ClassId) (ad : Nat → Nat) (h_su : Nat) (h_su_asked : Nat) (tape_size : Int32) (tape_bytes : Nat → Int32) (su_who : Int32) (su_against : Int32) (su_kind : Int32) (su_won : Int32) (su_undoneFrom : Int32) (su_askedCount : Int32) (su_askedBits : Int32) (su_first : Int32) (su_foundSo : Int32) (su_foundNot : Int32) (su_fought : Int32) (su_needed : Int32) (A : Nat → Prop) (R : Int32 × Int32 × Int32 × Int32 × Int32) : Array Value → State → Outcome → State → Prop :=
  va_Qv (fun u : Int32 × Int32 × Int32 × Int32 × Int32 => u = R) (fun (u : Int32 × Int32 × Int32 × Int32 × Int32) (t : State) => va_P D classes (wl_X8_readTime ad cs h_su h_su_asked tape_size tape_bytes u.1 u.2.1 u.2.2.1 su_who su_against su_kind su_won u.2.2.2.1 u.2.2.2.2 su_undoneFrom su_askedCount su_askedBits su_first su_foundSo su_foundNot su_fought su_needed) t.heap ∧ va_D A (wl_X8_readTime ad cs h_su h_su_asked tape_size tape_bytes u.1 u.2.1 u.2.2.1 su_who su_against su_kind su_won u.2.2.2.1 u.2.2.2.2 su_undoneFrom su_askedCount su_askedBits su_first su_foundSo su_foundNot su_fought su_needed)) A
abbrev rm_X8_readTime : Room := { frames := 3, cells := 0, slots := 0, locals := 66 }
def B_X8_readTime_45    (tape_size : Int32) (tape_bytes : Nat → Int32) (su_who : Int32) (su_against : Int32) (su_kind : Int32) (su_won : Int32) (su_undoneFrom : Int32) (su_askedCount : Int32) (su_askedBits : Int32) (su_first : Int32) (su_foundSo : Int32) (su_foundNot : Int32) (su_fought : Int32) (su_needed : Int32) (s0 : Int32) (sr_at : Int32) (sr_numberAt : Int32) (sr_fault : Int32) (su_day : Int32) (su_land : Int32) : Option (Int32 × Int32 × Int32 × Int32 × Int32) :=
  (zk_b1 (f_X8_judge s0 sr_numberAt sr_at sr_numberAt sr_fault) (fun u_18 => (some (sr_at, sr_numberAt, u_18, su_day, su_land))))
def B_X8_readTime_0    (tape_size : Int32) (tape_bytes : Nat → Int32) (su_who : Int32) (su_against : Int32) (su_kind : Int32) (su_won : Int32) (su_undoneFrom : Int32) (su_askedCount : Int32) (su_askedBits : Int32) (su_first : Int32) (su_foundSo : Int32) (su_foundNot : Int32) (su_fought : Int32) (su_needed : Int32) (sr_at : Int32) (sr_numberAt : Int32) (sr_fault : Int32) (su_day : Int32) (su_land : Int32) : Option (Int32 × Int32 × Int32 × Int32 × Int32) :=
  (zk_b2 (f_X8_expect (64 : Int32) tape_size tape_bytes sr_at sr_numberAt sr_fault) (fun u_1 u_2 => (zk_b4 (f_X8_number 4000 (4 : Int32) tape_size tape_bytes u_1 sr_numberAt u_2) (fun r_4 u_5 u_6 u_7 => (zk_b2 (f_X8_expect (47 : Int32) tape_size tape_bytes u_5 u_6 u_7) (fun u_9 u_10 => (zk_b4 (f_X8_number 4000 (1 : Int32) tape_size tape_bytes u_9 u_6 u_10) (fun r_12 u_13 u_14 u_15 => (if (8 : Int32) ≤ r_12 then (B_X8_readTime_45 tape_size tape_bytes su_who su_against su_kind su_won su_undoneFrom su_askedCount su_askedBits su_first su_foundSo su_foundNot su_fought su_needed (0 : Int32) u_13 u_14 u_15 r_4 r_12) else (B_X8_readTime_45 tape_size tape_bytes su_who su_against su_kind su_won su_undoneFrom su_askedCount su_askedBits su_first su_foundSo su_foundNot su_fought su_needed (1 : Int32) u_13 u_14 u_15 r_4 r_12))))))))))
def f_X8_readTime    (tape_size : Int32) (tape_bytes : Nat → Int32) (sr_at : Int32) (sr_numberAt : Int32) (sr_fault : Int32) (su_who : Int32) (su_against : Int32) (su_kind : Int32) (su_won : Int32) (su_day : Int32) (su_land : Int32) (su_undoneFrom : Int32) (su_askedCount : Int32) (su_askedBits : Int32) (su_first : Int32) (su_foundSo : Int32) (su_foundNot : Int32) (su_fought : Int32) (su_needed : Int32) : Option (Int32 × Int32 × Int32 × Int32 × Int32) := B_X8_readTime_0   tape_size tape_bytes su_who su_against su_kind su_won su_undoneFrom su_askedCount su_askedBits su_first su_foundSo su_foundNot su_fought su_needed  sr_at sr_numberAt sr_fault su_day su_land
set_option maxHeartbeats 4000000 in
set_option maxRecDepth 100000 in
theorem L_X8_readTime_45 {p : Program} {l : Launch} {e : Env} {s : State} {m : MethodId} {args : Array Value} {below : List Frame} {meth : Method} {c : Code} {A : Nat → Prop} {D : va_G} {cs : Nat → ClassId} {ad : Nat → Nat} {h_su : Nat} {h_su_asked : Nat} {tape_size : Int32} {tape_bytes : Nat → Int32} {su_who : Int32} {su_against : Int32} {su_kind : Int32} {su_won : Int32} {su_undoneFrom : Int32} {su_askedCount : Int32} {su_askedBits : Int32} {su_first : Int32} {su_foundSo : Int32} {su_foundNot : Int32} {su_fought : Int32} {su_needed : Int32} {R : Int32 × Int32 × Int32 × Int32 × Int32} (C0 : zC p s m args meth c cX8_readTime 2 none RX8 zW) (hK : va_K D classes (zT cs) s) (hA : ∀ q : Nat, s.heap.size ≤ q → A q) (s0 : Int32) (sr_at : Int32) (sr_numberAt : Int32) (sr_fault : Int32) (su_day : Int32) (su_land : Int32) (h : B_X8_readTime_45 tape_size tape_bytes su_who su_against su_kind su_won su_undoneFrom su_askedCount su_askedBits su_first su_foundSo su_foundNot su_fought su_needed s0 sr_at sr_numberAt sr_fault su_day su_land = some R) (H : Heap) (locs : List Loc) (ls : Array Slot) (hP : va_P D classes (wl_X8_readTime ad cs h_su h_su_asked tape_size tape_bytes sr_at sr_numberAt sr_fault su_who su_against su_kind su_won su_day su_land su_undoneFrom su_askedCount su_askedBits su_first su_foundSo su_foundNot su_fought su_needed) H) (hD : va_D A (wl_X8_readTime ad cs h_su h_su_asked tape_size tape_bytes sr_at sr_numberAt sr_fault su_who su_against su_kind su_won su_day su_land su_undoneFrom su_askedCount su_askedBits su_first su_foundSo su_foundNot su_fought su_needed)) (hS : va_S A s.heap H locs) (hl : lv_has ls 2 [(0, .ref (ad 25))]) : W p l e rm_X8_readTime s m args below meth c H locs 0 0 (MQ below (Q_X8_readTime D cs ad h_su h_su_asked tape_size tape_bytes su_who su_against su_kind su_won su_undoneFrom su_askedCount su_askedBits su_first su_foundSo su_foundNot su_fought su_needed A R) args s 0 0 A) (F0 m 45 ls [.int s0, .ref (ad 25)]) := by
  obtain ⟨hx, hb, hr, hml, hown, ht, hlocks⟩ := id C0
  refine lv_aload_n hx hb dX8_readTime_45 rfl (lv_at hl 0 rfl) ?_
  refine va_get (D := D) (ci := 8) (v := .int sr_numberAt) (C := RX8) (T := TX8) (N := 5) hx hb ht iX8 hown hK hP 2 rfl rfl 3 (by decide) (ht _ kw_254) (fun _ h9 => h9) rfl dX8_readTime_46 ?_
  obtain ⟨u_18, hc_19, h⟩ := zk_o1 h
  refine zk_vv (post := (fun u => u = u_18)) (w1 := fun u => (wl_X8_judge ad cs sr_at sr_numberAt u)) (As := [.int s0, .int sr_numberAt]) (rest := []) (c_X8_judge l D cs ad  H.size s0 sr_numberAt sr_at sr_numberAt sr_fault _ hc_19) ⟨hx, hb, hml, hown, ht⟩ (cwV 2 ht g_X8_48 rfl rfl rfl (by decide +kernel) ⟨Nat.le_of_ble_eq_true rfl, Nat.le_of_ble_eq_true rfl⟩) (va_recv hK hP (ci := 8) (q0 := 2) rfl rfl) hP hD hS hK hA [2] [0, 1, 3] rfl rfl rfl rfl (by decide) rfl hl.1 (Nat.le_of_ble_eq_true rfl) dX8_readTime_49 ⟨Nat.zero_le _, Nat.zero_le _⟩ (fun u H locs hq hP hD hS => ?_)
  cases hq
  have hP : va_P D classes (wl_X8_readTime ad cs h_su h_su_asked tape_size tape_bytes sr_at sr_numberAt u_18 su_who su_against su_kind su_won su_day su_land su_undoneFrom su_askedCount su_askedBits su_first su_foundSo su_foundNot su_fought su_needed) H := hP.sub [0, 1, 3, 2] rfl
  have hD : va_D A (wl_X8_readTime ad cs h_su h_su_asked tape_size tape_bytes sr_at sr_numberAt u_18 su_who su_against su_kind su_won su_day su_land su_undoneFrom su_askedCount su_askedBits su_first su_foundSo su_foundNot su_fought su_needed) := hD.sub [0, 1, 3, 2] rfl rfl
  exact W.vret hx hb hr (fun t ht2 hW => ⟨⟨(sr_at, sr_numberAt, u_18, su_day, su_land), rfl, Option.some.inj h, by rw [ht2]; exact hP, hD⟩, hS.F ht2⟩) hS.2.2 dX8_readTime_52 hlocks
set_option maxHeartbeats 4000000 in
set_option maxRecDepth 100000 in
theorem L_X8_readTime_0 {p : Program} {l : Launch} {e : Env} {s : State} {m : MethodId} {args : Array Value} {below : List Frame} {meth : Method} {c : Code} {A : Nat → Prop} {D : va_G} {cs : Nat → ClassId} {ad : Nat → Nat} {h_su : Nat} {h_su_asked : Nat} {tape_size : Int32} {tape_bytes : Nat → Int32} {su_who : Int32} {su_against : Int32} {su_kind : Int32} {su_won : Int32} {su_undoneFrom : Int32} {su_askedCount : Int32} {su_askedBits : Int32} {su_first : Int32} {su_foundSo : Int32} {su_foundNot : Int32} {su_fought : Int32} {su_needed : Int32} {R : Int32 × Int32 × Int32 × Int32 × Int32} (C0 : zC p s m args meth c cX8_readTime 2 none RX8 zW) (hK : va_K D classes (zT cs) s) (hA : ∀ q : Nat, s.heap.size ≤ q → A q) (sr_at : Int32) (sr_numberAt : Int32) (sr_fault : Int32) (su_day : Int32) (su_land : Int32) (h : B_X8_readTime_0 tape_size tape_bytes su_who su_against su_kind su_won su_undoneFrom su_askedCount su_askedBits su_first su_foundSo su_foundNot su_fought su_needed sr_at sr_numberAt sr_fault su_day su_land = some R) (H : Heap) (locs : List Loc) (ls : Array Slot) (hP : va_P D classes (wl_X8_readTime ad cs h_su h_su_asked tape_size tape_bytes sr_at sr_numberAt sr_fault su_who su_against su_kind su_won su_day su_land su_undoneFrom su_askedCount su_askedBits su_first su_foundSo su_foundNot su_fought su_needed) H) (hD : va_D A (wl_X8_readTime ad cs h_su h_su_asked tape_size tape_bytes sr_at sr_numberAt sr_fault su_who su_against su_kind su_won su_day su_land su_undoneFrom su_askedCount su_askedBits su_first su_foundSo su_foundNot su_fought su_needed)) (hS : va_S A s.heap H locs) (hl : lv_has ls 2 [(0, .ref (ad 25)), (1, .ref h_su)]) : W p l e rm_X8_readTime s m args below meth c H locs 0 0 (MQ below (Q_X8_readTime D cs ad h_su h_su_asked tape_size tape_bytes su_who su_against su_kind su_won su_undoneFrom su_askedCount su_askedBits su_first su_foundSo su_foundNot su_fought su_needed A R) args s 0 0 A) (F0 m 0 ls []) := by
  obtain ⟨hx, hb, hr, hml, hown, ht, hlocks⟩ := id C0
  refine lv_aload_n hx hb dX8_readTime_0 rfl (lv_at hl 0 rfl) ?_
  refine lv_bipush (v := (64 : Int32)) hx hb dX8_readTime_1 (by decide) ?_
  obtain ⟨u_1, u_2, hc_3, h⟩ := zk_o2 h
  refine zk_vv (post := (fun u => u = (u_1, u_2))) (w1 := fun u => (wl_X8_expect ad cs tape_size tape_bytes u.1 sr_numberAt u.2)) (As := [.int (64 : Int32)]) (rest := []) (c_X8_expect l D cs ad  H.size (64 : Int32) tape_size tape_bytes sr_at sr_numberAt sr_fault _ hc_3) ⟨hx, hb, hml, hown, ht⟩ (cwV 1 ht g_X8_72 rfl rfl rfl (by decide +kernel) ⟨Nat.le_of_ble_eq_true rfl, Nat.le_of_ble_eq_true rfl⟩) (va_recv hK hP (ci := 8) (q0 := 2) rfl rfl) hP hD hS hK hA [0, 1, 2] [3] rfl rfl rfl rfl (by decide) rfl hl.1 (Nat.le_of_ble_eq_true rfl) dX8_readTime_3 ⟨Nat.zero_le _, Nat.zero_le _⟩ (fun u H locs hq hP hD hS => ?_)
  cases hq
  have hP : va_P D classes (wl_X8_readTime ad cs h_su h_su_asked tape_size tape_bytes u_1 sr_numberAt u_2 su_who su_against su_kind su_won su_day su_land su_undoneFrom su_askedCount su_askedBits su_first su_foundSo su_foundNot su_fought su_needed) H := hP.sub [1, 2, 3, 0] rfl
  have hD : va_D A (wl_X8_readTime ad cs h_su h_su_asked tape_size tape_bytes u_1 sr_numberAt u_2 su_who su_against su_kind su_won su_day su_land su_undoneFrom su_askedCount su_askedBits su_first su_foundSo su_foundNot su_fought su_needed) := hD.sub [1, 2, 3, 0] rfl rfl
  refine lv_aload_n hx hb dX8_readTime_6 rfl (lv_at hl 1 rfl) ?_
  refine lv_aload_n hx hb dX8_readTime_7 rfl (lv_at hl 0 rfl) ?_
  refine lv_iconst (v := (4 : Int32)) hx hb dX8_readTime_8 (by decide) ?_
  obtain ⟨r_4, u_5, u_6, u_7, hc_8, h⟩ := zk_o4 h
  refine zk_vi (post := (fun r u => (r, u) = (r_4, u_5, u_6, u_7))) (w1 := fun u => (wl_X8_number ad cs tape_size tape_bytes u.1 u.2.1 u.2.2)) (As := [.int (4 : Int32)]) (rest := [.ref h_su]) (c_X8_number l D cs ad  H.size 4000 (4 : Int32) tape_size tape_bytes u_1 sr_numberAt u_2 _ hc_8) ⟨hx, hb, hml, hown, ht⟩ (cwV 1 ht g_X8_62 rfl rfl rfl (by decide +kernel) ⟨Nat.le_of_ble_eq_true rfl, Nat.le_of_ble_eq_true rfl⟩) (va_recv hK hP (ci := 8) (q0 := 2) rfl rfl) hP hD hS hK hA [0, 1, 2] [3] rfl rfl rfl rfl (by decide) rfl hl.1 (Nat.le_of_ble_eq_true rfl) dX8_readTime_9 ⟨Nat.zero_le _, Nat.zero_le _⟩ (fun r u H locs hq hP hD hS => ?_)
  cases hq
  have hP : va_P D classes (wl_X8_readTime ad cs h_su h_su_asked tape_size tape_bytes u_5 u_6 u_7 su_who su_against su_kind su_won su_day su_land su_undoneFrom su_askedCount su_askedBits su_first su_foundSo su_foundNot su_fought su_needed) H := hP.sub [1, 2, 3, 0] rfl
  have hD : va_D A (wl_X8_readTime ad cs h_su h_su_asked tape_size tape_bytes u_5 u_6 u_7 su_who su_against su_kind su_won su_day su_land su_undoneFrom su_askedCount su_askedBits su_first su_foundSo su_foundNot su_fought su_needed) := hD.sub [1, 2, 3, 0] rfl rfl
  refine va_put (D := D) (ci := 7) (v := .int r_4) (ty := .int) (C := RX7) (T := TX7) (N := 15) hx hb ht iX7 tyX7 tyX7_ok nmX7 hown hK hP hD hS 3 rfl rfl 4 (by decide) (ht _ kw_321) (fun _ h9 => h9) rfl (by decide +kernel) rfl rfl (Nat.le_of_ble_eq_true rfl) dX8_readTime_12 (fun H locs hP hD hS => ?_)
  have hP : va_P D classes (wl_X8_readTime ad cs h_su h_su_asked tape_size tape_bytes u_5 u_6 u_7 su_who su_against su_kind su_won r_4 su_land su_undoneFrom su_askedCount su_askedBits su_first su_foundSo su_foundNot su_fought su_needed) H := hP
  have hD : va_D A (wl_X8_readTime ad cs h_su h_su_asked tape_size tape_bytes u_5 u_6 u_7 su_who su_against su_kind su_won r_4 su_land su_undoneFrom su_askedCount su_askedBits su_first su_foundSo su_foundNot su_fought su_needed) := hD
  refine lv_aload_n hx hb dX8_readTime_15 rfl (lv_at hl 0 rfl) ?_
  refine lv_bipush (v := (47 : Int32)) hx hb dX8_readTime_16 (by decide) ?_
  obtain ⟨u_9, u_10, hc_11, h⟩ := zk_o2 h
  refine zk_vv (post := (fun u => u = (u_9, u_10))) (w1 := fun u => (wl_X8_expect ad cs tape_size tape_bytes u.1 u_6 u.2)) (As := [.int (47 : Int32)]) (rest := []) (c_X8_expect l D cs ad  H.size (47 : Int32) tape_size tape_bytes u_5 u_6 u_7 _ hc_11) ⟨hx, hb, hml, hown, ht⟩ (cwV 1 ht g_X8_72 rfl rfl rfl (by decide +kernel) ⟨Nat.le_of_ble_eq_true rfl, Nat.le_of_ble_eq_true rfl⟩) (va_recv hK hP (ci := 8) (q0 := 2) rfl rfl) hP hD hS hK hA [0, 1, 2] [3] rfl rfl rfl rfl (by decide) rfl hl.1 (Nat.le_of_ble_eq_true rfl) dX8_readTime_18 ⟨Nat.zero_le _, Nat.zero_le _⟩ (fun u H locs hq hP hD hS => ?_)
  cases hq
  have hP : va_P D classes (wl_X8_readTime ad cs h_su h_su_asked tape_size tape_bytes u_9 u_6 u_10 su_who su_against su_kind su_won r_4 su_land su_undoneFrom su_askedCount su_askedBits su_first su_foundSo su_foundNot su_fought su_needed) H := hP.sub [1, 2, 3, 0] rfl
  have hD : va_D A (wl_X8_readTime ad cs h_su h_su_asked tape_size tape_bytes u_9 u_6 u_10 su_who su_against su_kind su_won r_4 su_land su_undoneFrom su_askedCount su_askedBits su_first su_foundSo su_foundNot su_fought su_needed) := hD.sub [1, 2, 3, 0] rfl rfl
  refine lv_aload_n hx hb dX8_readTime_21 rfl (lv_at hl 1 rfl) ?_
  refine lv_aload_n hx hb dX8_readTime_22 rfl (lv_at hl 0 rfl) ?_
  refine lv_iconst (v := (1 : Int32)) hx hb dX8_readTime_23 (by decide) ?_
  obtain ⟨r_12, u_13, u_14, u_15, hc_16, h⟩ := zk_o4 h
  refine zk_vi (post := (fun r u => (r, u) = (r_12, u_13, u_14, u_15))) (w1 := fun u => (wl_X8_number ad cs tape_size tape_bytes u.1 u.2.1 u.2.2)) (As := [.int (1 : Int32)]) (rest := [.ref h_su]) (c_X8_number l D cs ad  H.size 4000 (1 : Int32) tape_size tape_bytes u_9 u_6 u_10 _ hc_16) ⟨hx, hb, hml, hown, ht⟩ (cwV 1 ht g_X8_62 rfl rfl rfl (by decide +kernel) ⟨Nat.le_of_ble_eq_true rfl, Nat.le_of_ble_eq_true rfl⟩) (va_recv hK hP (ci := 8) (q0 := 2) rfl rfl) hP hD hS hK hA [0, 1, 2] [3] rfl rfl rfl rfl (by decide) rfl hl.1 (Nat.le_of_ble_eq_true rfl) dX8_readTime_24 ⟨Nat.zero_le _, Nat.zero_le _⟩ (fun r u H locs hq hP hD hS => ?_)
  cases hq
  have hP : va_P D classes (wl_X8_readTime ad cs h_su h_su_asked tape_size tape_bytes u_13 u_14 u_15 su_who su_against su_kind su_won r_4 su_land su_undoneFrom su_askedCount su_askedBits su_first su_foundSo su_foundNot su_fought su_needed) H := hP.sub [1, 2, 3, 0] rfl
  have hD : va_D A (wl_X8_readTime ad cs h_su h_su_asked tape_size tape_bytes u_13 u_14 u_15 su_who su_against su_kind su_won r_4 su_land su_undoneFrom su_askedCount su_askedBits su_first su_foundSo su_foundNot su_fought su_needed) := hD.sub [1, 2, 3, 0] rfl rfl
  refine va_put (D := D) (ci := 7) (v := .int r_12) (ty := .int) (C := RX7) (T := TX7) (N := 15) hx hb ht iX7 tyX7 tyX7_ok nmX7 hown hK hP hD hS 3 rfl rfl 5 (by decide) (ht _ kw_326) (fun _ h9 => h9) rfl (by decide +kernel) rfl rfl (Nat.le_of_ble_eq_true rfl) dX8_readTime_27 (fun H locs hP hD hS => ?_)
  have hP : va_P D classes (wl_X8_readTime ad cs h_su h_su_asked tape_size tape_bytes u_13 u_14 u_15 su_who su_against su_kind su_won r_4 r_12 su_undoneFrom su_askedCount su_askedBits su_first su_foundSo su_foundNot su_fought su_needed) H := hP
  have hD : va_D A (wl_X8_readTime ad cs h_su h_su_asked tape_size tape_bytes u_13 u_14 u_15 su_who su_against su_kind su_won r_4 r_12 su_undoneFrom su_askedCount su_askedBits su_first su_foundSo su_foundNot su_fought su_needed) := hD
  refine lv_aload_n hx hb dX8_readTime_30 rfl (lv_at hl 0 rfl) ?_
  refine lv_aload_n hx hb dX8_readTime_31 rfl (lv_at hl 1 rfl) ?_
  refine va_get (D := D) (ci := 7) (v := .int r_12) (C := RX7) (T := TX7) (N := 15) hx hb ht iX7 hown hK hP 3 rfl rfl 5 (by decide) (ht _ kw_326) (fun _ h9 => h9) rfl dX8_readTime_32 ?_
  refine lv_bipush (v := (8 : Int32)) hx hb dX8_readTime_35 (by decide) ?_
  refine lv_icmp_ge (tgt := 44) hx hb dX8_readTime_37 (by decide) (fun c_17 => ?_) (fun c_17 => ?_)
  · have h := zk_t c_17 h
    refine lv_iconst (v := (0 : Int32)) hx hb dX8_readTime_44 (by decide) ?_
    exact L_X8_readTime_45 C0 hK hA   (0 : Int32) u_13 u_14 u_15 r_4 r_12 h H locs ls hP hD hS (lv_sub hl [0] rfl)
  · have h := zk_f c_17 h
    refine lv_iconst (v := (1 : Int32)) hx hb dX8_readTime_40 (by decide) ?_
    refine lv_goto (tgt := 45) hx hb dX8_readTime_41 (by decide) ?_
    exact L_X8_readTime_45 C0 hK hA   (1 : Int32) u_13 u_14 u_15 r_4 r_12 h H locs ls hP hD hS (lv_sub hl [0] rfl)
set_option maxHeartbeats 4000000 in
set_option maxRecDepth 100000 in
theorem c_X8_readTime (l : Launch) (D : va_G) (cs : Nat → ClassId) (ad : Nat → Nat) (h_su : Nat) (h_su_asked : Nat) (sz : Nat)  (tape_size : Int32) (tape_bytes : Nat → Int32) (sr_at : Int32) (sr_numberAt : Int32) (sr_fault : Int32) (su_who : Int32) (su_against : Int32) (su_kind : Int32) (su_won : Int32) (su_day : Int32) (su_land : Int32) (su_undoneFrom : Int32) (su_askedCount : Int32) (su_askedBits : Int32) (su_first : Int32) (su_foundSo : Int32) (su_foundNot : Int32) (su_fought : Int32) (su_needed : Int32) (R : Int32 × Int32 × Int32 × Int32 × Int32) (h : f_X8_readTime    tape_size tape_bytes sr_at sr_numberAt sr_fault su_who su_against su_kind su_won su_day su_land su_undoneFrom su_askedCount su_askedBits su_first su_foundSo su_foundNot su_fought su_needed = some R) : Met l yX8_readTime (z_X8_readTime) rm_X8_readTime (va_Pc [.ref (ad 25), .ref h_su] (zPre D cs (wl_X8_readTime ad cs h_su h_su_asked tape_size tape_bytes sr_at sr_numberAt sr_fault su_who su_against su_kind su_won su_day su_land su_undoneFrom su_askedCount su_askedBits su_first su_foundSo su_foundNot su_fought su_needed) sz)) (Q_X8_readTime D cs ad h_su h_su_asked tape_size tape_bytes su_who su_against su_kind su_won su_undoneFrom su_askedCount su_askedBits su_first su_foundSo su_foundNot su_fought su_needed (va_A (wl_X8_readTime ad cs h_su h_su_asked tape_size tape_bytes sr_at sr_numberAt sr_fault su_who su_against su_kind su_won su_day su_land su_undoneFrom su_askedCount su_askedBits su_first su_foundSo su_foundNot su_fought su_needed) sz) R) 0 0 (va_A (wl_X8_readTime ad cs h_su h_su_asked tape_size tape_bytes sr_at sr_numberAt sr_fault su_who su_against su_kind su_won su_day su_land su_undoneFrom su_askedCount su_askedBits su_first su_foundSo su_foundNot su_fought su_needed) sz) := by
  refine Met.ofW (cc := cX8_readTime) (maxL := 2) (ret := none) (by decide) rfl ?_
  intro p e s m args below meth c s₁ B hml hv
  obtain ⟨rfl, hsz, hP, hK, hD0⟩ := hv
  subst hsz
  have hD := hD0.self (sz := s.heap.size)
  have C0 : zC p s m _ meth c cX8_readTime 2 none RX8 zW := ⟨B.exec, B.bytes, B.returns, hml, findClass_of_methodNamed B.named, fun w hw => atoms_spec (ws := z_X8_readTime) B.pre w (List.mem_cons_of_mem _ hw), B.notSynchronized⟩
  have hA : ∀ q : Nat, s.heap.size ≤ q → va_A (wl_X8_readTime ad cs h_su h_su_asked tape_size tape_bytes sr_at sr_numberAt sr_fault su_who su_against su_kind su_won su_day su_land su_undoneFrom su_askedCount su_askedBits su_first su_foundSo su_foundNot su_fought su_needed) s.heap.size q := fun q h => Or.inr h
  have hl := lv_entry ([.ref (ad 25), .ref h_su]) (n := 2) (Nat.le_of_ble_eq_true rfl)
  rw [lg_entry_eq]
  generalize (lg_sl ([.ref (ad 25), .ref h_su]) ++ List.replicate (2 - (lg_sl ([.ref (ad 25), .ref h_su])).length) Slot.unset).toArray = ls at hl ⊢
  exact L_X8_readTime_0 C0 hK hA    sr_at sr_numberAt sr_fault su_day su_land h s.heap [] ls hP hD va_S.rf hl
theorem kw_389 : Cond.fieldLink RX10 34 "AlreadyJudged$Wishes" "size" "I" ∈ zW := zwI (i := 389) (by decide +kernel) (by decide +kernel)
theorem dX10_has_0 : decode cX10_has 0 = .ok (.iconst 0, 1) := by decide +kernel
theorem dX10_has_1 : decode cX10_has 1 = .ok (.istore_n 2, 1) := by decide +kernel
theorem dX10_has_2 : decode cX10_has 2 = .ok (.iload_n 2, 1) := by decide +kernel
theorem dX10_has_3 : decode cX10_has 3 = .ok (.aload_n 0, 1) := by decide +kernel
theorem dX10_has_4 : decode cX10_has 4 = .ok (.getfield 34, 3) := by decide +kernel
theorem dX10_has_7 : decode cX10_has 7 = .ok (.if_icmp .ge 21, 3) := by decide +kernel
theorem dX10_has_10 : decode cX10_has 10 = .ok (.aload_n 0, 1) := by decide +kernel
theorem dX10_has_11 : decode cX10_has 11 = .ok (.getfield 9, 3) := by decide +kernel
theorem dX10_has_14 : decode cX10_has 14 = .ok (.iload_n 2, 1) := by decide +kernel
theorem dX10_has_15 : decode cX10_has 15 = .ok (.iaload, 1) := by decide +kernel
theorem dX10_has_16 : decode cX10_has 16 = .ok (.iload_n 1, 1) := by decide +kernel
theorem dX10_has_17 : decode cX10_has 17 = .ok (.if_icmp .ne 5, 3) := by decide +kernel
theorem dX10_has_20 : decode cX10_has 20 = .ok (.iconst 1, 1) := by decide +kernel
theorem dX10_has_21 : decode cX10_has 21 = .ok (.ireturn, 1) := by decide +kernel
theorem dX10_has_22 : decode cX10_has 22 = .ok (.iinc 2 1, 3) := by decide +kernel
theorem dX10_has_25 : decode cX10_has 25 = .ok (.goto (-23), 3) := by decide +kernel
theorem dX10_has_28 : decode cX10_has 28 = .ok (.iconst 0, 1) := by decide +kernel
theorem dX10_has_29 : decode cX10_has 29 = .ok (.ireturn, 1) := by decide +kernel
abbrev z_X10_has : List Cond := .code yX10_has cX10_has 3 (some .boolean) :: zW
abbrev wl_X10_has (ad : Nat → Nat) (cs : Nat → ClassId)  (wishes_size : Int32) (wishes_brought : Value) (wishes_best : Int32) (wishes_bestRow : Int32) (wishes_claims : Nat → Int32) : va_W := [((ad 28), .inr (10, [.ref (ad 29), .ref (ad 30), .int wishes_size, .ref (ad 31), .ref (ad 32), .ref (ad 33), wishes_brought, .int wishes_best, .int wishes_bestRow])), ((ad 29), .inl (cs 0, 5, .inl wishes_claims))]
def Q_X10_has (D : va_G) (cs : Nat → ClassId) (ad : Nat → Nat)  (wishes_size : Int32) (wishes_brought : Value) (wishes_best : Int32) (wishes_bestRow : Int32) (wishes_claims : Nat → Int32) (A : Nat → Prop) (R : Int32 × Unit) : Array Value → State → Outcome → State → Prop :=
  va_Qi (fun (r : Int32) (u : Unit) => (r, u) = R) (fun (u : Unit) (t : State) => va_P D classes (wl_X10_has ad cs wishes_size wishes_brought wishes_best wishes_bestRow wishes_claims) t.heap ∧ va_D A (wl_X10_has ad cs wishes_size wishes_brought wishes_best wishes_bestRow wishes_claims)) A
abbrev rm_X10_has : Room := { frames := 0, cells := 0, slots := 0, locals := 0 }
def B_X10_has_2   (g2 : Int32 → Int32 → (Option (Int32 × Unit))) (wishes_size : Int32) (wishes_brought : Value) (wishes_best : Int32) (wishes_bestRow : Int32) (wishes_claims : Nat → Int32) (x1 : Int32) (x2 : Int32) : Option (Int32 × Unit) :=
  (if wishes_size ≤ x2 then (some ((0 : Int32), ())) else (if (x2 < 0 ∨ 5 ≤ x2.toNatClampNeg) then none else (if (wishes_claims x2.toNatClampNeg) = x1 then (some ((1 : Int32), ())) else (zk_let (x2 + (1 : Int32)) (fun v_4 => (g2 x1 v_4))))))
def B_X10_has_0   (g2 : Int32 → Int32 → (Option (Int32 × Unit))) (wishes_size : Int32) (wishes_brought : Value) (wishes_best : Int32) (wishes_bestRow : Int32) (wishes_claims : Nat → Int32) (x1 : Int32) : Option (Int32 × Unit) :=
  (g2 x1 (0 : Int32))
def G_X10_has   (wishes_size : Int32) (wishes_brought : Value) (wishes_best : Int32) (wishes_bestRow : Int32) (wishes_claims : Nat → Int32) (n : Nat) : (Int32 → Int32 → (Option (Int32 × Unit))) :=
  Nat.rec (motive := fun _ => (Int32 → Int32 → (Option (Int32 × Unit)))) ((fun _ _ => none)) (fun _ ih => (B_X10_has_2   ih wishes_size wishes_brought wishes_best wishes_bestRow wishes_claims)) n
def f_X10_has   (n : Nat) (x1 : Int32) (wishes_size : Int32) (wishes_brought : Value) (wishes_best : Int32) (wishes_bestRow : Int32) (wishes_claims : Nat → Int32) : Option (Int32 × Unit) := B_X10_has_0   ((G_X10_has   wishes_size wishes_brought wishes_best wishes_bestRow wishes_claims n)) wishes_size wishes_brought wishes_best wishes_bestRow wishes_claims x1 
set_option maxHeartbeats 4000000 in
set_option maxRecDepth 100000 in
theorem L_X10_has_2 {p : Program} {l : Launch} {e : Env} {s : State} {m : MethodId} {args : Array Value} {below : List Frame} {meth : Method} {c : Code} {A : Nat → Prop} {D : va_G} {cs : Nat → ClassId} {ad : Nat → Nat} {wishes_size : Int32} {wishes_brought : Value} {wishes_best : Int32} {wishes_bestRow : Int32} {wishes_claims : Nat → Int32} {R : Int32 × Unit} {g2 : Int32 → Int32 → (Option (Int32 × Unit))} (C0 : zC p s m args meth c cX10_has 3 (some .boolean) RX10 zW) (hK : va_K D classes (zT cs) s) (hA : ∀ q : Nat, s.heap.size ≤ q → A q) (ih2 : ∀ (x1 : Int32) (x2 : Int32) (h : g2 x1 x2 = some R) (H : Heap) (locs : List Loc) (ls : Array Slot) (hP : va_P D classes (wl_X10_has ad cs wishes_size wishes_brought wishes_best wishes_bestRow wishes_claims) H) (hD : va_D A (wl_X10_has ad cs wishes_size wishes_brought wishes_best wishes_bestRow wishes_claims)) (hS : va_S A s.heap H locs) (hl : lv_has ls 3 [(0, .ref (ad 28)), (1, .int x1), (2, .int x2)]), W p l e rm_X10_has s m args below meth c H locs 0 0 (MQ below (Q_X10_has D cs ad wishes_size wishes_brought wishes_best wishes_bestRow wishes_claims A R) args s 0 0 A) (F0 m 2 ls [])) (x1 : Int32) (x2 : Int32) (h : B_X10_has_2 g2 wishes_size wishes_brought wishes_best wishes_bestRow wishes_claims x1 x2 = some R) (H : Heap) (locs : List Loc) (ls : Array Slot) (hP : va_P D classes (wl_X10_has ad cs wishes_size wishes_brought wishes_best wishes_bestRow wishes_claims) H) (hD : va_D A (wl_X10_has ad cs wishes_size wishes_brought wishes_best wishes_bestRow wishes_claims)) (hS : va_S A s.heap H locs) (hl : lv_has ls 3 [(0, .ref (ad 28)), (1, .int x1), (2, .int x2)]) : W p l e rm_X10_has s m args below meth c H locs 0 0 (MQ below (Q_X10_has D cs ad wishes_size wishes_brought wishes_best wishes_bestRow wishes_claims A R) args s 0 0 A) (F0 m 2 ls []) := by
  obtain ⟨hx, hb, hr, hml, hown, ht, hlocks⟩ := id C0
  refine lv_iload_n hx hb dX10_has_2 rfl (lv_at hl 2 rfl) ?_
  refine lv_aload_n hx hb dX10_has_3 rfl (lv_at hl 0 rfl) ?_
  refine va_get (D := D) (ci := 10) (v := .int wishes_size) (C := RX10) (T := TX10) (N := 9) hx hb ht iX10 hown hK hP 0 rfl rfl 2 (by decide) (ht _ kw_389) (fun _ h9 => h9) rfl dX10_has_4 ?_
  refine lv_icmp_ge (tgt := 28) hx hb dX10_has_7 (by decide) (fun c_1 => ?_) (fun c_1 => ?_)
  · have h := zk_t c_1 h
    refine lv_iconst (v := (0 : Int32)) hx hb dX10_has_28 (by decide) ?_
    exact W.zret (ty := .boolean) (v := (0 : Int32)) hx hb hr rfl (fun t ht2 hW => ⟨⟨(0 : Int32), (), rfl, Option.some.inj h, by rw [ht2]; exact hP, hD⟩, hS.F ht2⟩) hS.2.2 dX10_has_29 hlocks
  · have h := zk_f c_1 h
    refine lv_aload_n hx hb dX10_has_10 rfl (lv_at hl 0 rfl) ?_
    refine va_get (D := D) (ci := 10) (v := .ref (ad 29)) (C := RX10) (T := TX10) (N := 9) hx hb ht iX10 hown hK hP 0 rfl rfl 0 (by decide) (ht _ kw_387) (fun _ h9 => h9) rfl dX10_has_11 ?_
    refine lv_iload_n hx hb dX10_has_14 rfl (lv_at hl 2 rfl) ?_
    obtain ⟨g_2, h⟩ := zk_gd h
    refine va_iald hx hb hK hP 1 0 rfl rfl g_2 dX10_has_15 ?_
    refine lv_iload_n hx hb dX10_has_16 rfl (lv_at hl 1 rfl) ?_
    refine lv_icmp_ne (tgt := 22) hx hb dX10_has_17 (by decide) (fun c_3 => ?_) (fun c_3 => ?_)
    · have h := zk_f c_3 h
      obtain ⟨v_4, ev_4, h⟩ := zk_lt h
      refine lv_iinc (v := v_4) (lv' := [(2, .int v_4), (0, .ref (ad 28)), (1, .int x1)]) hx hb dX10_has_22 hl (k := 2) rfl (by rw [ev_4]; rfl) (by decide) rfl (fun ls hl => ?_)
      refine lv_goto (tgt := 2) hx hb dX10_has_25 (by decide) ?_
      exact ih2 x1 v_4 h H locs ls hP hD hS (lv_sub hl [1, 2, 0] rfl)
    · have h := zk_t c_3 h
      refine lv_iconst (v := (1 : Int32)) hx hb dX10_has_20 (by decide) ?_
      exact W.zret (ty := .boolean) (v := (1 : Int32)) hx hb hr rfl (fun t ht2 hW => ⟨⟨(1 : Int32), (), rfl, Option.some.inj h, by rw [ht2]; exact hP, hD⟩, hS.F ht2⟩) hS.2.2 dX10_has_21 hlocks
set_option maxHeartbeats 4000000 in
set_option maxRecDepth 100000 in
theorem L_X10_has_0 {p : Program} {l : Launch} {e : Env} {s : State} {m : MethodId} {args : Array Value} {below : List Frame} {meth : Method} {c : Code} {A : Nat → Prop} {D : va_G} {cs : Nat → ClassId} {ad : Nat → Nat} {wishes_size : Int32} {wishes_brought : Value} {wishes_best : Int32} {wishes_bestRow : Int32} {wishes_claims : Nat → Int32} {R : Int32 × Unit} {g2 : Int32 → Int32 → (Option (Int32 × Unit))} (C0 : zC p s m args meth c cX10_has 3 (some .boolean) RX10 zW) (hK : va_K D classes (zT cs) s) (hA : ∀ q : Nat, s.heap.size ≤ q → A q) (ih2 : ∀ (x1 : Int32) (x2 : Int32) (h : g2 x1 x2 = some R) (H : Heap) (locs : List Loc) (ls : Array Slot) (hP : va_P D classes (wl_X10_has ad cs wishes_size wishes_brought wishes_best wishes_bestRow wishes_claims) H) (hD : va_D A (wl_X10_has ad cs wishes_size wishes_brought wishes_best wishes_bestRow wishes_claims)) (hS : va_S A s.heap H locs) (hl : lv_has ls 3 [(0, .ref (ad 28)), (1, .int x1), (2, .int x2)]), W p l e rm_X10_has s m args below meth c H locs 0 0 (MQ below (Q_X10_has D cs ad wishes_size wishes_brought wishes_best wishes_bestRow wishes_claims A R) args s 0 0 A) (F0 m 2 ls [])) (x1 : Int32) (h : B_X10_has_0 g2 wishes_size wishes_brought wishes_best wishes_bestRow wishes_claims x1 = some R) (H : Heap) (locs : List Loc) (ls : Array Slot) (hP : va_P D classes (wl_X10_has ad cs wishes_size wishes_brought wishes_best wishes_bestRow wishes_claims) H) (hD : va_D A (wl_X10_has ad cs wishes_size wishes_brought wishes_best wishes_bestRow wishes_claims)) (hS : va_S A s.heap H locs) (hl : lv_has ls 3 [(0, .ref (ad 28)), (1, .int x1)]) : W p l e rm_X10_has s m args below meth c H locs 0 0 (MQ below (Q_X10_has D cs ad wishes_size wishes_brought wishes_best wishes_bestRow wishes_claims A R) args s 0 0 A) (F0 m 0 ls []) := by
  obtain ⟨hx, hb, hr, hml, hown, ht, hlocks⟩ := id C0
  refine lv_iconst (v := (0 : Int32)) hx hb dX10_has_0 (by decide) ?_
  refine lv_istore_n (lv' := [(2, .int (0 : Int32)), (0, .ref (ad 28)), (1, .int x1)]) hx hb dX10_has_1 rfl hl (by decide) rfl (fun ls hl => ?_)
  exact ih2 x1 (0 : Int32) h H locs ls hP hD hS (lv_sub hl [1, 2, 0] rfl)
theorem LG_X10_has {p : Program} {l : Launch} {e : Env} {s : State} {m : MethodId} {args : Array Value} {below : List Frame} {meth : Method} {c : Code} {A : Nat → Prop} {D : va_G} {cs : Nat → ClassId} {ad : Nat → Nat} {wishes_size : Int32} {wishes_brought : Value} {wishes_best : Int32} {wishes_bestRow : Int32} {wishes_claims : Nat → Int32} {R : Int32 × Unit} (C0 : zC p s m args meth c cX10_has 3 (some .boolean) RX10 zW) (hK : va_K D classes (zT cs) s) (hA : ∀ q : Nat, s.heap.size ≤ q → A q) : ∀ n : Nat, (∀ (x1 : Int32) (x2 : Int32) (h : (G_X10_has   wishes_size wishes_brought wishes_best wishes_bestRow wishes_claims n) x1 x2 = some R) (H : Heap) (locs : List Loc) (ls : Array Slot) (hP : va_P D classes (wl_X10_has ad cs wishes_size wishes_brought wishes_best wishes_bestRow wishes_claims) H) (hD : va_D A (wl_X10_has ad cs wishes_size wishes_brought wishes_best wishes_bestRow wishes_claims)) (hS : va_S A s.heap H locs) (hl : lv_has ls 3 [(0, .ref (ad 28)), (1, .int x1), (2, .int x2)]), W p l e rm_X10_has s m args below meth c H locs 0 0 (MQ below (Q_X10_has D cs ad wishes_size wishes_brought wishes_best wishes_bestRow wishes_claims A R) args s 0 0 A) (F0 m 2 ls [])) := by
  intro n
  induction n with
  | zero =>
    refine ?_ <;> (intros; rename_i h _ _ _ _ _ _ _; cases h)
  | succ n ih =>
    exact L_X10_has_2 C0 hK hA  ih
set_option maxHeartbeats 4000000 in
set_option maxRecDepth 100000 in
theorem c_X10_has (l : Launch) (D : va_G) (cs : Nat → ClassId) (ad : Nat → Nat) (sz : Nat) (n : Nat) (x1 : Int32) (wishes_size : Int32) (wishes_brought : Value) (wishes_best : Int32) (wishes_bestRow : Int32) (wishes_claims : Nat → Int32) (R : Int32 × Unit) (h : f_X10_has   n x1 wishes_size wishes_brought wishes_best wishes_bestRow wishes_claims = some R) : Met l yX10_has (z_X10_has) rm_X10_has (va_Pc [.ref (ad 28), .int x1] (zPre D cs (wl_X10_has ad cs wishes_size wishes_brought wishes_best wishes_bestRow wishes_claims) sz)) (Q_X10_has D cs ad wishes_size wishes_brought wishes_best wishes_bestRow wishes_claims (va_A (wl_X10_has ad cs wishes_size wishes_brought wishes_best wishes_bestRow wishes_claims) sz) R) 0 0 (va_A (wl_X10_has ad cs wishes_size wishes_brought wishes_best wishes_bestRow wishes_claims) sz) := by
  refine Met.ofW (cc := cX10_has) (maxL := 3) (ret := (some .boolean)) (by decide) rfl ?_
  intro p e s m args below meth c s₁ B hml hv
  obtain ⟨rfl, hsz, hP, hK, hD0⟩ := hv
  subst hsz
  have hD := hD0.self (sz := s.heap.size)
  have C0 : zC p s m _ meth c cX10_has 3 (some .boolean) RX10 zW := ⟨B.exec, B.bytes, B.returns, hml, findClass_of_methodNamed B.named, fun w hw => atoms_spec (ws := z_X10_has) B.pre w (List.mem_cons_of_mem _ hw), B.notSynchronized⟩
  have hA : ∀ q : Nat, s.heap.size ≤ q → va_A (wl_X10_has ad cs wishes_size wishes_brought wishes_best wishes_bestRow wishes_claims) s.heap.size q := fun q h => Or.inr h
  have hl := lv_entry ([.ref (ad 28), .int x1]) (n := 3) (Nat.le_of_ble_eq_true rfl)
  rw [lg_entry_eq]
  generalize (lg_sl ([.ref (ad 28), .int x1]) ++ List.replicate (3 - (lg_sl ([.ref (ad 28), .int x1])).length) Slot.unset).toArray = ls at hl ⊢
  exact L_X10_has_0 C0 hK hA  ((LG_X10_has C0 hK hA  n)) x1  h s.heap [] ls hP hD va_S.rf hl
theorem dX10_add_0 : decode cX10_add 0 = .ok (.aload_n 0, 1) := by decide +kernel
theorem dX10_add_1 : decode cX10_add 1 = .ok (.getfield 34, 3) := by decide +kernel
theorem dX10_add_4 : decode cX10_add 4 = .ok (.iconst 5, 1) := by decide +kernel
theorem dX10_add_5 : decode cX10_add 5 = .ok (.if_icmp .ge 33, 3) := by decide +kernel
theorem dX10_add_8 : decode cX10_add 8 = .ok (.aload_n 0, 1) := by decide +kernel
theorem dX10_add_9 : decode cX10_add 9 = .ok (.getfield 9, 3) := by decide +kernel
theorem dX10_add_12 : decode cX10_add 12 = .ok (.aload_n 0, 1) := by decide +kernel
theorem dX10_add_13 : decode cX10_add 13 = .ok (.getfield 34, 3) := by decide +kernel
theorem dX10_add_16 : decode cX10_add 16 = .ok (.iload_n 1, 1) := by decide +kernel
theorem dX10_add_17 : decode cX10_add 17 = .ok (.iastore, 1) := by decide +kernel
theorem dX10_add_18 : decode cX10_add 18 = .ok (.aload_n 0, 1) := by decide +kernel
theorem dX10_add_19 : decode cX10_add 19 = .ok (.getfield 15, 3) := by decide +kernel
theorem dX10_add_22 : decode cX10_add 22 = .ok (.aload_n 0, 1) := by decide +kernel
theorem dX10_add_23 : decode cX10_add 23 = .ok (.getfield 34, 3) := by decide +kernel
theorem dX10_add_26 : decode cX10_add 26 = .ok (.iload_n 2, 1) := by decide +kernel
theorem dX10_add_27 : decode cX10_add 27 = .ok (.iastore, 1) := by decide +kernel
theorem dX10_add_28 : decode cX10_add 28 = .ok (.aload_n 0, 1) := by decide +kernel
theorem dX10_add_29 : decode cX10_add 29 = .ok (.dup, 1) := by decide +kernel
theorem dX10_add_30 : decode cX10_add 30 = .ok (.getfield 34, 3) := by decide +kernel
theorem dX10_add_33 : decode cX10_add 33 = .ok (.iconst 1, 1) := by decide +kernel
theorem dX10_add_34 : decode cX10_add 34 = .ok (.iadd, 1) := by decide +kernel
theorem dX10_add_35 : decode cX10_add 35 = .ok (.putfield 34, 3) := by decide +kernel
theorem dX10_add_38 : decode cX10_add 38 = .ok (.return_, 1) := by decide +kernel
abbrev z_X10_add : List Cond := .code yX10_add cX10_add 3 none :: zW
abbrev wl_X10_add (ad : Nat → Nat) (cs : Nat → ClassId)  (wishes_size : Int32) (wishes_brought : Value) (wishes_best : Int32) (wishes_bestRow : Int32) (wishes_claims : Nat → Int32) (wishes_wins : Nat → Int32) : va_W := [((ad 28), .inr (10, [.ref (ad 29), .ref (ad 30), .int wishes_size, .ref (ad 31), .ref (ad 32), .ref (ad 33), wishes_brought, .int wishes_best, .int wishes_bestRow])), ((ad 29), .inl (cs 0, 5, .inl wishes_claims)), ((ad 30), .inl (cs 0, 5, .inl wishes_wins))]
def Q_X10_add (D : va_G) (cs : Nat → ClassId) (ad : Nat → Nat)  (wishes_brought : Value) (wishes_best : Int32) (wishes_bestRow : Int32) (A : Nat → Prop) (R : Int32 × (Nat → Int32) × (Nat → Int32)) : Array Value → State → Outcome → State → Prop :=
  va_Qv (fun u : Int32 × (Nat → Int32) × (Nat → Int32) => u = R) (fun (u : Int32 × (Nat → Int32) × (Nat → Int32)) (t : State) => va_P D classes (wl_X10_add ad cs u.1 wishes_brought wishes_best wishes_bestRow u.2.1 u.2.2) t.heap ∧ va_D A (wl_X10_add ad cs u.1 wishes_brought wishes_best wishes_bestRow u.2.1 u.2.2)) A
abbrev rm_X10_add : Room := { frames := 0, cells := 0, slots := 0, locals := 0 }
def B_X10_add_0    (wishes_brought : Value) (wishes_best : Int32) (wishes_bestRow : Int32) (x1 : Int32) (x2 : Int32) (wishes_size : Int32) (wishes_claims : Nat → Int32) (wishes_wins : Nat → Int32) : Option (Int32 × (Nat → Int32) × (Nat → Int32)) :=
  (if (5 : Int32) ≤ wishes_size then (some (wishes_size, wishes_claims, wishes_wins)) else (if (wishes_size < 0 ∨ 5 ≤ wishes_size.toNatClampNeg) then none else (zk_let (upd wishes_claims wishes_size.toNatClampNeg x1) (fun f_3 => (if (wishes_size < 0 ∨ 5 ≤ wishes_size.toNatClampNeg) then none else (zk_let (upd wishes_wins wishes_size.toNatClampNeg x2) (fun f_5 => (zk_let (wishes_size + (1 : Int32)) (fun v_6 => (some (v_6, f_3, f_5)))))))))))
def f_X10_add   (x1 : Int32) (x2 : Int32) (wishes_size : Int32) (wishes_brought : Value) (wishes_best : Int32) (wishes_bestRow : Int32) (wishes_claims : Nat → Int32) (wishes_wins : Nat → Int32) : Option (Int32 × (Nat → Int32) × (Nat → Int32)) := B_X10_add_0   wishes_brought wishes_best wishes_bestRow x1 x2 wishes_size wishes_claims wishes_wins
set_option maxHeartbeats 4000000 in
set_option maxRecDepth 100000 in
theorem L_X10_add_0 {p : Program} {l : Launch} {e : Env} {s : State} {m : MethodId} {args : Array Value} {below : List Frame} {meth : Method} {c : Code} {A : Nat → Prop} {D : va_G} {cs : Nat → ClassId} {ad : Nat → Nat} {wishes_brought : Value} {wishes_best : Int32} {wishes_bestRow : Int32} {R : Int32 × (Nat → Int32) × (Nat → Int32)} (C0 : zC p s m args meth c cX10_add 3 none RX10 zW) (hK : va_K D classes (zT cs) s) (hA : ∀ q : Nat, s.heap.size ≤ q → A q) (x1 : Int32) (x2 : Int32) (wishes_size : Int32) (wishes_claims : Nat → Int32) (wishes_wins : Nat → Int32) (h : B_X10_add_0 wishes_brought wishes_best wishes_bestRow x1 x2 wishes_size wishes_claims wishes_wins = some R) (H : Heap) (locs : List Loc) (ls : Array Slot) (hP : va_P D classes (wl_X10_add ad cs wishes_size wishes_brought wishes_best wishes_bestRow wishes_claims wishes_wins) H) (hD : va_D A (wl_X10_add ad cs wishes_size wishes_brought wishes_best wishes_bestRow wishes_claims wishes_wins)) (hS : va_S A s.heap H locs) (hl : lv_has ls 3 [(0, .ref (ad 28)), (1, .int x1), (2, .int x2)]) : W p l e rm_X10_add s m args below meth c H locs 0 0 (MQ below (Q_X10_add D cs ad wishes_brought wishes_best wishes_bestRow A R) args s 0 0 A) (F0 m 0 ls []) := by
  obtain ⟨hx, hb, hr, hml, hown, ht, hlocks⟩ := id C0
  refine lv_aload_n hx hb dX10_add_0 rfl (lv_at hl 0 rfl) ?_
  refine va_get (D := D) (ci := 10) (v := .int wishes_size) (C := RX10) (T := TX10) (N := 9) hx hb ht iX10 hown hK hP 0 rfl rfl 2 (by decide) (ht _ kw_389) (fun _ h9 => h9) rfl dX10_add_1 ?_
  refine lv_iconst (v := (5 : Int32)) hx hb dX10_add_4 (by decide) ?_
  refine lv_icmp_ge (tgt := 38) hx hb dX10_add_5 (by decide) (fun c_1 => ?_) (fun c_1 => ?_)
  · have h := zk_t c_1 h
    exact W.vret hx hb hr (fun t ht2 hW => ⟨⟨(wishes_size, wishes_claims, wishes_wins), rfl, Option.some.inj h, by rw [ht2]; exact hP, hD⟩, hS.F ht2⟩) hS.2.2 dX10_add_38 hlocks
  · have h := zk_f c_1 h
    refine lv_aload_n hx hb dX10_add_8 rfl (lv_at hl 0 rfl) ?_
    refine va_get (D := D) (ci := 10) (v := .ref (ad 29)) (C := RX10) (T := TX10) (N := 9) hx hb ht iX10 hown hK hP 0 rfl rfl 0 (by decide) (ht _ kw_387) (fun _ h9 => h9) rfl dX10_add_9 ?_
    refine lv_aload_n hx hb dX10_add_12 rfl (lv_at hl 0 rfl) ?_
    refine va_get (D := D) (ci := 10) (v := .int wishes_size) (C := RX10) (T := TX10) (N := 9) hx hb ht iX10 hown hK hP 0 rfl rfl 2 (by decide) (ht _ kw_389) (fun _ h9 => h9) rfl dX10_add_13 ?_
    refine lv_iload_n hx hb dX10_add_16 rfl (lv_at hl 1 rfl) ?_
    obtain ⟨g_2, h⟩ := zk_gd h
    obtain ⟨f_3, ef_3, h⟩ := zk_lt h
    refine va_iast hx hb hK hP hD hS 1 0 rfl rfl g_2 dX10_add_17 (fun H locs hP hD hS => ?_)
    have hP : va_P D classes (wl_X10_add ad cs wishes_size wishes_brought wishes_best wishes_bestRow f_3 wishes_wins) H := by rw [ef_3]; exact hP
    have hD : va_D A (wl_X10_add ad cs wishes_size wishes_brought wishes_best wishes_bestRow f_3 wishes_wins) := by rw [ef_3]; exact hD
    refine lv_aload_n hx hb dX10_add_18 rfl (lv_at hl 0 rfl) ?_
    refine va_get (D := D) (ci := 10) (v := .ref (ad 30)) (C := RX10) (T := TX10) (N := 9) hx hb ht iX10 hown hK hP 0 rfl rfl 1 (by decide) (ht _ kw_388) (fun _ h9 => h9) rfl dX10_add_19 ?_
    refine lv_aload_n hx hb dX10_add_22 rfl (lv_at hl 0 rfl) ?_
    refine va_get (D := D) (ci := 10) (v := .int wishes_size) (C := RX10) (T := TX10) (N := 9) hx hb ht iX10 hown hK hP 0 rfl rfl 2 (by decide) (ht _ kw_389) (fun _ h9 => h9) rfl dX10_add_23 ?_
    refine lv_iload_n hx hb dX10_add_26 rfl (lv_at hl 2 rfl) ?_
    obtain ⟨g_4, h⟩ := zk_gd h
    obtain ⟨f_5, ef_5, h⟩ := zk_lt h
    refine va_iast hx hb hK hP hD hS 2 0 rfl rfl g_4 dX10_add_27 (fun H locs hP hD hS => ?_)
    have hP : va_P D classes (wl_X10_add ad cs wishes_size wishes_brought wishes_best wishes_bestRow f_3 f_5) H := by rw [ef_5]; exact hP
    have hD : va_D A (wl_X10_add ad cs wishes_size wishes_brought wishes_best wishes_bestRow f_3 f_5) := by rw [ef_5]; exact hD
    refine lv_aload_n hx hb dX10_add_28 rfl (lv_at hl 0 rfl) ?_
    refine lv_dup hx hb dX10_add_29 rfl ?_
    refine va_get (D := D) (ci := 10) (v := .int wishes_size) (C := RX10) (T := TX10) (N := 9) hx hb ht iX10 hown hK hP 0 rfl rfl 2 (by decide) (ht _ kw_389) (fun _ h9 => h9) rfl dX10_add_30 ?_
    refine lv_iconst (v := (1 : Int32)) hx hb dX10_add_33 (by decide) ?_
    refine lv_iadd hx hb dX10_add_34 ?_
    obtain ⟨v_6, ev_6, h⟩ := zk_lt h
    refine W.eq (g2 := F0 m 35 ls [.int v_6, .ref (ad 28)]) (by rw [ev_6]) ?_
    refine va_put (D := D) (ci := 10) (v := .int v_6) (ty := .int) (C := RX10) (T := TX10) (N := 9) hx hb ht iX10 tyX10 tyX10_ok nmX10 hown hK hP hD hS 0 rfl rfl 2 (by decide) (ht _ kw_389) (fun _ h9 => h9) rfl (by decide +kernel) rfl rfl (Nat.le_of_ble_eq_true rfl) dX10_add_35 (fun H locs hP hD hS => ?_)
    have hP : va_P D classes (wl_X10_add ad cs v_6 wishes_brought wishes_best wishes_bestRow f_3 f_5) H := hP
    have hD : va_D A (wl_X10_add ad cs v_6 wishes_brought wishes_best wishes_bestRow f_3 f_5) := hD
    exact W.vret hx hb hr (fun t ht2 hW => ⟨⟨(v_6, f_3, f_5), rfl, Option.some.inj h, by rw [ht2]; exact hP, hD⟩, hS.F ht2⟩) hS.2.2 dX10_add_38 hlocks
set_option maxHeartbeats 4000000 in
set_option maxRecDepth 100000 in
theorem c_X10_add (l : Launch) (D : va_G) (cs : Nat → ClassId) (ad : Nat → Nat) (sz : Nat) (x1 : Int32) (x2 : Int32) (wishes_size : Int32) (wishes_brought : Value) (wishes_best : Int32) (wishes_bestRow : Int32) (wishes_claims : Nat → Int32) (wishes_wins : Nat → Int32) (R : Int32 × (Nat → Int32) × (Nat → Int32)) (h : f_X10_add   x1 x2 wishes_size wishes_brought wishes_best wishes_bestRow wishes_claims wishes_wins = some R) : Met l yX10_add (z_X10_add) rm_X10_add (va_Pc [.ref (ad 28), .int x1, .int x2] (zPre D cs (wl_X10_add ad cs wishes_size wishes_brought wishes_best wishes_bestRow wishes_claims wishes_wins) sz)) (Q_X10_add D cs ad wishes_brought wishes_best wishes_bestRow (va_A (wl_X10_add ad cs wishes_size wishes_brought wishes_best wishes_bestRow wishes_claims wishes_wins) sz) R) 0 0 (va_A (wl_X10_add ad cs wishes_size wishes_brought wishes_best wishes_bestRow wishes_claims wishes_wins) sz) := by
  refine Met.ofW (cc := cX10_add) (maxL := 3) (ret := none) (by decide) rfl ?_
  intro p e s m args below meth c s₁ B hml hv
  obtain ⟨rfl, hsz, hP, hK, hD0⟩ := hv
  subst hsz
  have hD := hD0.self (sz := s.heap.size)
  have C0 : zC p s m _ meth c cX10_add 3 none RX10 zW := ⟨B.exec, B.bytes, B.returns, hml, findClass_of_methodNamed B.named, fun w hw => atoms_spec (ws := z_X10_add) B.pre w (List.mem_cons_of_mem _ hw), B.notSynchronized⟩
  have hA : ∀ q : Nat, s.heap.size ≤ q → va_A (wl_X10_add ad cs wishes_size wishes_brought wishes_best wishes_bestRow wishes_claims wishes_wins) s.heap.size q := fun q h => Or.inr h
  have hl := lv_entry ([.ref (ad 28), .int x1, .int x2]) (n := 3) (Nat.le_of_ble_eq_true rfl)
  rw [lg_entry_eq]
  generalize (lg_sl ([.ref (ad 28), .int x1, .int x2]) ++ List.replicate (3 - (lg_sl ([.ref (ad 28), .int x1, .int x2])).length) Slot.unset).toArray = ls at hl ⊢
  exact L_X10_add_0 C0 hK hA   x1 x2 wishes_size wishes_claims wishes_wins h s.heap [] ls hP hD va_S.rf hl
