theorem kw_238 : Cond.fieldLink RX8 43 "AlreadyJudged$Tape" "size" "I" ∈ zW := zwC (i := 164) zc_1 rfl rfl
theorem kw_252 : Cond.fieldLink RX8 52 "AlreadyJudged$SuitReader" "spare" "LAlreadyJudged$Suit;" ∈ zW := zwC (i := 178) zc_1 rfl rfl
theorem kw_881 : Cond.methodLink RX8 26 yX8_readSides ∈ zW := zwC (i := 87) zc_4 rfl rfl
theorem kw_882 : Cond.instanceMethod yX8_readSides ∈ zW := zwC (i := 88) zc_4 rfl rfl
theorem kw_883 : Cond.selects RX8 yX8_readSides yX8_readSides ∈ zW := zwC (i := 89) zc_4 rfl rfl
theorem kw_884 : Cond.code yX8_readSides cX8_readSides 2 none ∈ zW := zwC (i := 90) zc_4 rfl rfl
theorem kw_903 : Cond.methodLink RX8 30 yX8_readClaims ∈ zW := zwC (i := 109) zc_4 rfl rfl
theorem kw_904 : Cond.instanceMethod yX8_readClaims ∈ zW := zwC (i := 110) zc_4 rfl rfl
theorem kw_905 : Cond.selects RX8 yX8_readClaims yX8_readClaims ∈ zW := zwC (i := 111) zc_4 rfl rfl
theorem kw_906 : Cond.code yX8_readClaims cX8_readClaims 5 none ∈ zW := zwC (i := 112) zc_4 rfl rfl
theorem kw_915 : Cond.methodLink RX8 34 yX8_readPoints ∈ zW := zwC (i := 121) zc_4 rfl rfl
theorem kw_916 : Cond.instanceMethod yX8_readPoints ∈ zW := zwC (i := 122) zc_4 rfl rfl
theorem kw_917 : Cond.selects RX8 yX8_readPoints yX8_readPoints ∈ zW := zwC (i := 123) zc_4 rfl rfl
theorem kw_918 : Cond.code yX8_readPoints cX8_readPoints 5 none ∈ zW := zwC (i := 124) zc_4 rfl rfl
theorem kw_923 : Cond.methodLink RX8 37 yX8_readEnding ∈ zW := zwC (i := 129) zc_4 rfl rfl
theorem kw_924 : Cond.instanceMethod yX8_readEnding ∈ zW := zwC (i := 130) zc_4 rfl rfl
theorem kw_925 : Cond.selects RX8 yX8_readEnding yX8_readEnding ∈ zW := zwC (i := 131) zc_4 rfl rfl
theorem kw_926 : Cond.code yX8_readEnding cX8_readEnding 2 none ∈ zW := zwC (i := 132) zc_4 rfl rfl
theorem kw_927 : Cond.methodLink RX8 40 yX8_readTime ∈ zW := zwC (i := 133) zc_4 rfl rfl
theorem kw_928 : Cond.instanceMethod yX8_readTime ∈ zW := zwC (i := 134) zc_4 rfl rfl
theorem kw_929 : Cond.selects RX8 yX8_readTime yX8_readTime ∈ zW := zwC (i := 135) zc_4 rfl rfl
theorem kw_930 : Cond.code yX8_readTime cX8_readTime 2 none ∈ zW := zwC (i := 136) zc_4 rfl rfl
theorem zh_cX8_read_0 : zck [42, 3, 181, 0, 15, 42, 2, 181, 0, 19, 42, 182, 0, 22, 77, 42, 44, 182, 0, 26, 42, 44] (zdu 0 cX8_read.data.toList) = true := by decide +kernel
theorem dX8_read_15 : decode cX8_read 15 = .ok (.aload_n 0, 1) := zo_42 zh_cX8_read_0 15 rfl
theorem dX8_read_16 : decode cX8_read 16 = .ok (.aload_n 2, 1) := zo_44 zh_cX8_read_0 16 rfl
theorem dX8_read_17 : decode cX8_read 17 = .ok (.invokevirtual 26, 3) := zo_182 zh_cX8_read_0 17 rfl
theorem zh_cX8_read_1 : zck [42, 44, 27, 182, 0, 30, 42, 44, 182, 0, 34, 42, 44, 182, 0, 37, 42, 44, 182, 0, 40, 42] (zdu 20 cX8_read.data.toList) = true := by decide +kernel
theorem dX8_read_20 : decode cX8_read 20 = .ok (.aload_n 0, 1) := zo_42 zh_cX8_read_1 0 rfl
theorem dX8_read_21 : decode cX8_read 21 = .ok (.aload_n 2, 1) := zo_44 zh_cX8_read_1 1 rfl
theorem dX8_read_22 : decode cX8_read 22 = .ok (.iload_n 1, 1) := zo_27 zh_cX8_read_1 2 rfl
theorem dX8_read_23 : decode cX8_read 23 = .ok (.invokevirtual 30, 3) := zo_182 zh_cX8_read_1 3 rfl
theorem dX8_read_26 : decode cX8_read 26 = .ok (.aload_n 0, 1) := zo_42 zh_cX8_read_1 6 rfl
theorem dX8_read_27 : decode cX8_read 27 = .ok (.aload_n 2, 1) := zo_44 zh_cX8_read_1 7 rfl
theorem dX8_read_28 : decode cX8_read 28 = .ok (.invokevirtual 34, 3) := zo_182 zh_cX8_read_1 8 rfl
theorem dX8_read_31 : decode cX8_read 31 = .ok (.aload_n 0, 1) := zo_42 zh_cX8_read_1 11 rfl
theorem dX8_read_32 : decode cX8_read 32 = .ok (.aload_n 2, 1) := zo_44 zh_cX8_read_1 12 rfl
theorem dX8_read_33 : decode cX8_read 33 = .ok (.invokevirtual 37, 3) := zo_182 zh_cX8_read_1 13 rfl
theorem dX8_read_36 : decode cX8_read 36 = .ok (.aload_n 0, 1) := zo_42 zh_cX8_read_1 16 rfl
theorem dX8_read_37 : decode cX8_read 37 = .ok (.aload_n 2, 1) := zo_44 zh_cX8_read_1 17 rfl
theorem dX8_read_38 : decode cX8_read 38 = .ok (.invokevirtual 40, 3) := zo_182 zh_cX8_read_1 18 rfl
theorem zh_cX8_read_2 : zck [40, 42, 42, 180, 0, 15, 42, 180, 0, 9, 180, 0, 43, 161, 0, 7, 4, 167, 0, 4, 3, 42] (zdu 40 cX8_read.data.toList) = true := by decide +kernel
theorem dX8_read_41 : decode cX8_read 41 = .ok (.aload_n 0, 1) := zo_42 zh_cX8_read_2 1 rfl
theorem dX8_read_42 : decode cX8_read 42 = .ok (.aload_n 0, 1) := zo_42 zh_cX8_read_2 2 rfl
theorem dX8_read_43 : decode cX8_read 43 = .ok (.getfield 15, 3) := zo_180 zh_cX8_read_2 3 rfl
theorem dX8_read_46 : decode cX8_read 46 = .ok (.aload_n 0, 1) := zo_42 zh_cX8_read_2 6 rfl
theorem dX8_read_47 : decode cX8_read 47 = .ok (.getfield 9, 3) := zo_180 zh_cX8_read_2 7 rfl
theorem dX8_read_50 : decode cX8_read 50 = .ok (.getfield 43, 3) := zo_180 zh_cX8_read_2 10 rfl
theorem dX8_read_53 : decode cX8_read 53 = .ok (.if_icmp .lt 7, 3) := zo_p161 zh_cX8_read_2 13 7 rfl rfl
theorem dX8_read_56 : decode cX8_read 56 = .ok (.iconst 1, 1) := zo_4 zh_cX8_read_2 16 rfl
theorem dX8_read_57 : decode cX8_read 57 = .ok (.goto 4, 3) := zo_p167 zh_cX8_read_2 17 4 rfl rfl
theorem zh_cX8_read_3 : zck [3, 42, 180, 0, 15, 182, 0, 48, 42, 42, 180, 0, 19, 156, 0, 7, 1, 167, 0, 4, 44, 181] (zdu 60 cX8_read.data.toList) = true := by decide +kernel
theorem dX8_read_60 : decode cX8_read 60 = .ok (.iconst 0, 1) := zo_3 zh_cX8_read_3 0 rfl
theorem dX8_read_61 : decode cX8_read 61 = .ok (.aload_n 0, 1) := zo_42 zh_cX8_read_3 1 rfl
theorem dX8_read_62 : decode cX8_read 62 = .ok (.getfield 15, 3) := zo_180 zh_cX8_read_3 2 rfl
theorem dX8_read_65 : decode cX8_read 65 = .ok (.invokevirtual 48, 3) := zo_182 zh_cX8_read_3 5 rfl
theorem dX8_read_68 : decode cX8_read 68 = .ok (.aload_n 0, 1) := zo_42 zh_cX8_read_3 8 rfl
theorem dX8_read_69 : decode cX8_read 69 = .ok (.aload_n 0, 1) := zo_42 zh_cX8_read_3 9 rfl
theorem dX8_read_70 : decode cX8_read 70 = .ok (.getfield 19, 3) := zo_180 zh_cX8_read_3 10 rfl
theorem dX8_read_73 : decode cX8_read 73 = .ok (.ifCond .ge 7, 3) := zo_p156 zh_cX8_read_3 13 7 rfl rfl
theorem dX8_read_76 : decode cX8_read 76 = .ok (.aconst_null, 1) := zo_1 zh_cX8_read_3 16 rfl
theorem dX8_read_77 : decode cX8_read 77 = .ok (.goto 4, 3) := zo_p167 zh_cX8_read_3 17 4 rfl rfl
theorem zh_cX8_read_4 : zck [44, 181, 0, 52, 42, 180, 0, 19, 156, 0, 7, 44, 167, 0, 4, 1, 176] (zdu 80 cX8_read.data.toList) = true := by decide +kernel
theorem dX8_read_80 : decode cX8_read 80 = .ok (.aload_n 2, 1) := zo_44 zh_cX8_read_4 0 rfl
theorem dX8_read_81 : decode cX8_read 81 = .ok (.putfield 52, 3) := zo_181 zh_cX8_read_4 1 rfl
theorem dX8_read_84 : decode cX8_read 84 = .ok (.aload_n 0, 1) := zo_42 zh_cX8_read_4 4 rfl
theorem dX8_read_85 : decode cX8_read 85 = .ok (.getfield 19, 3) := zo_180 zh_cX8_read_4 5 rfl
theorem dX8_read_88 : decode cX8_read 88 = .ok (.ifCond .ge 7, 3) := zo_p156 zh_cX8_read_4 8 7 rfl rfl
theorem dX8_read_91 : decode cX8_read 91 = .ok (.aload_n 2, 1) := zo_44 zh_cX8_read_4 11 rfl
theorem dX8_read_92 : decode cX8_read 92 = .ok (.goto 4, 3) := zo_p167 zh_cX8_read_4 12 4 rfl rfl
theorem dX8_read_95 : decode cX8_read 95 = .ok (.aconst_null, 1) := zo_1 zh_cX8_read_4 15 rfl
theorem dX8_read_96 : decode cX8_read 96 = .ok (.areturn, 1) := zo_176 zh_cX8_read_4 16 rfl
abbrev z_X8_read : List Cond := .code yX8_read cX8_read 3 (some (.object "AlreadyJudged$Suit")) :: zW
abbrev wl_X8_read (ad : Nat → Nat) (cs : Nat → ClassId) (h_su : Nat) (h_su_asked : Nat) (tape_size : Int32) (tape_bytes : Nat → Int32) (sr_spare : Value) (sr_at : Int32) (sr_numberAt : Int32) (sr_fault : Int32) (su_who : Int32) (su_against : Int32) (su_kind : Int32) (su_won : Int32) (su_day : Int32) (su_land : Int32) (su_undoneFrom : Int32) (su_askedCount : Int32) (su_askedBits : Int32) (su_first : Int32) (su_foundSo : Int32) (su_foundNot : Int32) (su_fought : Int32) (su_needed : Int32) (su_asked : Nat → Int32) : va_W := [((ad 23), .inr (9, [.ref (ad 24), .int tape_size])), ((ad 24), .inl (cs 0, 120, .inl tape_bytes)), ((ad 25), .inr (8, [.ref (ad 23), sr_spare, .int sr_at, .int sr_numberAt, .int sr_fault])), (h_su, .inr (7, [.int su_who, .int su_against, .int su_kind, .int su_won, .int su_day, .int su_land, .int su_undoneFrom, .ref h_su_asked, .int su_askedCount, .int su_askedBits, .int su_first, .int su_foundSo, .int su_foundNot, .int su_fought, .int su_needed])), (h_su_asked, .inl (cs 0, 32, .inl su_asked))]
def Q_X8_read (D : va_G) (cs : Nat → ClassId) (ad : Nat → Nat) (tape_size : Int32) (tape_bytes : Nat → Int32) (su_undoneFrom : Int32) (A : Nat → Prop) (R : Value × Int32 × Int32 × Int32 × Int32 × Int32 × Int32 × Int32 × Int32 × Int32 × Int32 × Int32 × Int32 × Int32 × Int32 × Int32 × Int32 × (Nat → Int32)) : Array Value → State → Outcome → State → Prop :=
  va_Qq (fun (r : Option Nat) (z : (Value × Int32 × Int32 × Int32 × Int32 × Int32 × Int32 × Int32 × Int32 × Int32 × Int32 × Int32 × Int32 × Int32 × Int32 × Int32 × Int32 × (Nat → Int32)) × Nat × Nat) => r = (if 0 ≤ R.2.2.2.1 then none else some z.2.1) ∧ z.1 = R) (fun (z : (Value × Int32 × Int32 × Int32 × Int32 × Int32 × Int32 × Int32 × Int32 × Int32 × Int32 × Int32 × Int32 × Int32 × Int32 × Int32 × Int32 × (Nat → Int32)) × Nat × Nat) (t : State) => va_P D classes (wl_X8_read ad cs z.2.1 z.2.2 tape_size tape_bytes (if 0 ≤ z.1.2.2.2.1 then .ref z.2.1 else .null) z.1.2.1 z.1.2.2.1 z.1.2.2.2.1 z.1.2.2.2.2.1 z.1.2.2.2.2.2.1 z.1.2.2.2.2.2.2.1 z.1.2.2.2.2.2.2.2.1 z.1.2.2.2.2.2.2.2.2.1 z.1.2.2.2.2.2.2.2.2.2.1 su_undoneFrom z.1.2.2.2.2.2.2.2.2.2.2.1 z.1.2.2.2.2.2.2.2.2.2.2.2.1 z.1.2.2.2.2.2.2.2.2.2.2.2.2.1 z.1.2.2.2.2.2.2.2.2.2.2.2.2.2.1 z.1.2.2.2.2.2.2.2.2.2.2.2.2.2.2.1 z.1.2.2.2.2.2.2.2.2.2.2.2.2.2.2.2.1 z.1.2.2.2.2.2.2.2.2.2.2.2.2.2.2.2.2.1 z.1.2.2.2.2.2.2.2.2.2.2.2.2.2.2.2.2.2) t.heap ∧ va_D A (wl_X8_read ad cs z.2.1 z.2.2 tape_size tape_bytes (if 0 ≤ z.1.2.2.2.1 then .ref z.2.1 else .null) z.1.2.1 z.1.2.2.1 z.1.2.2.2.1 z.1.2.2.2.2.1 z.1.2.2.2.2.2.1 z.1.2.2.2.2.2.2.1 z.1.2.2.2.2.2.2.2.1 z.1.2.2.2.2.2.2.2.2.1 z.1.2.2.2.2.2.2.2.2.2.1 su_undoneFrom z.1.2.2.2.2.2.2.2.2.2.2.1 z.1.2.2.2.2.2.2.2.2.2.2.2.1 z.1.2.2.2.2.2.2.2.2.2.2.2.2.1 z.1.2.2.2.2.2.2.2.2.2.2.2.2.2.1 z.1.2.2.2.2.2.2.2.2.2.2.2.2.2.2.1 z.1.2.2.2.2.2.2.2.2.2.2.2.2.2.2.2.1 z.1.2.2.2.2.2.2.2.2.2.2.2.2.2.2.2.2.1 z.1.2.2.2.2.2.2.2.2.2.2.2.2.2.2.2.2.2)) A
abbrev rm_X8_read : Room := { frames := 4, cells := 2, slots := 47, locals := 90 }
theorem g_X8_26 : GoodIn zW (wsV RX8 26 RX8 yX8_readSides z_X8_readSides) := zGV kw_881 kw_882 kw_883 kw_79 kw_884
theorem g_X8_30 : GoodIn zW (wsV RX8 30 RX8 yX8_readClaims z_X8_readClaims) := zGV kw_903 kw_904 kw_905 kw_79 kw_906
theorem g_X8_34 : GoodIn zW (wsV RX8 34 RX8 yX8_readPoints z_X8_readPoints) := zGV kw_915 kw_916 kw_917 kw_79 kw_918
theorem g_X8_37 : GoodIn zW (wsV RX8 37 RX8 yX8_readEnding z_X8_readEnding) := zGV kw_923 kw_924 kw_925 kw_79 kw_926
theorem g_X8_40 : GoodIn zW (wsV RX8 40 RX8 yX8_readTime z_X8_readTime) := zGV kw_927 kw_928 kw_929 kw_79 kw_930
theorem hd_X8_readClaims : yX8_readClaims.cls ≠ "java/lang/invoke/MethodHandle" ∧ yX8_readClaims.cls ≠ "java/lang/invoke/VarHandle" ∧ (parseMethodDescriptor yX8_readClaims.desc).map (fun d => d.parameters.length) = some 2 := by decide +kernel
theorem hd_X8_readEnding : yX8_readEnding.cls ≠ "java/lang/invoke/MethodHandle" ∧ yX8_readEnding.cls ≠ "java/lang/invoke/VarHandle" ∧ (parseMethodDescriptor yX8_readEnding.desc).map (fun d => d.parameters.length) = some 1 := by decide +kernel
theorem hd_X8_readPoints : yX8_readPoints.cls ≠ "java/lang/invoke/MethodHandle" ∧ yX8_readPoints.cls ≠ "java/lang/invoke/VarHandle" ∧ (parseMethodDescriptor yX8_readPoints.desc).map (fun d => d.parameters.length) = some 1 := by decide +kernel
theorem hd_X8_readSides : yX8_readSides.cls ≠ "java/lang/invoke/MethodHandle" ∧ yX8_readSides.cls ≠ "java/lang/invoke/VarHandle" ∧ (parseMethodDescriptor yX8_readSides.desc).map (fun d => d.parameters.length) = some 1 := by decide +kernel
theorem hd_X8_readTime : yX8_readTime.cls ≠ "java/lang/invoke/MethodHandle" ∧ yX8_readTime.cls ≠ "java/lang/invoke/VarHandle" ∧ (parseMethodDescriptor yX8_readTime.desc).map (fun d => d.parameters.length) = some 1 := by decide +kernel
def B_X8_read_61    (tape_size : Int32) (tape_bytes : Nat → Int32) (su_undoneFrom : Int32) (s0 : Int32) (sr_spare : Value) (sr_at : Int32) (sr_numberAt : Int32) (sr_fault : Int32) (su_who : Int32) (su_against : Int32) (su_kind : Int32) (su_won : Int32) (su_day : Int32) (su_land : Int32) (su_askedCount : Int32) (su_askedBits : Int32) (su_first : Int32) (su_foundSo : Int32) (su_foundNot : Int32) (su_fought : Int32) (su_needed : Int32) (su_asked : Nat → Int32) : Option (Value × Int32 × Int32 × Int32 × Int32 × Int32 × Int32 × Int32 × Int32 × Int32 × Int32 × Int32 × Int32 × Int32 × Int32 × Int32 × Int32 × (Nat → Int32)) :=
  (zk_b1 (f_X8_judge s0 sr_at sr_spare sr_at sr_numberAt sr_fault) (fun u_36 => (if 0 ≤ u_36 then (if 0 ≤ u_36 then (some (.null, sr_at, sr_numberAt, u_36, su_who, su_against, su_kind, su_won, su_day, su_land, su_askedCount, su_askedBits, su_first, su_foundSo, su_foundNot, su_fought, su_needed, su_asked)) else none) else (if 0 ≤ u_36 then none else (some (.null, sr_at, sr_numberAt, u_36, su_who, su_against, su_kind, su_won, su_day, su_land, su_askedCount, su_askedBits, su_first, su_foundSo, su_foundNot, su_fought, su_needed, su_asked))))))
def B_X8_read_0    (tape_size : Int32) (tape_bytes : Nat → Int32) (su_undoneFrom : Int32) (x1 : Int32) (sr_spare : Value) (sr_at : Int32) (sr_numberAt : Int32) (sr_fault : Int32) (su_who : Int32) (su_against : Int32) (su_kind : Int32) (su_won : Int32) (su_day : Int32) (su_land : Int32) (su_askedCount : Int32) (su_askedBits : Int32) (su_first : Int32) (su_foundSo : Int32) (su_foundNot : Int32) (su_fought : Int32) (su_needed : Int32) (su_asked : Nat → Int32) : Option (Value × Int32 × Int32 × Int32 × Int32 × Int32 × Int32 × Int32 × Int32 × Int32 × Int32 × Int32 × Int32 × Int32 × Int32 × Int32 × Int32 × (Nat → Int32)) :=
  (zk_b5 (f_X8_readSides tape_size tape_bytes sr_spare sr_at sr_numberAt sr_fault su_who su_against su_kind su_won su_day su_land su_undoneFrom su_askedCount su_askedBits su_first su_foundSo su_foundNot su_fought su_needed) (fun u_1 u_2 u_3 u_4 u_5 => (zk_b6 (f_X8_readClaims 100000 x1 tape_size tape_bytes sr_spare u_1 u_2 u_3 u_4 u_5 su_kind su_won su_day su_land su_undoneFrom su_askedCount su_askedBits su_first su_foundSo su_foundNot su_fought su_needed su_asked) (fun u_7 u_8 u_9 u_10 u_11 u_12 => (zk_b7 (f_X8_readPoints 100000 tape_size tape_bytes sr_spare u_7 u_8 u_9 u_4 u_5 su_kind su_won su_day su_land su_undoneFrom u_10 u_11 su_first su_foundSo su_foundNot su_fought su_needed) (fun u_14 u_15 u_16 u_17 u_18 u_19 u_20 => (zk_b6 (f_X8_readEnding tape_size tape_bytes sr_spare u_14 u_15 u_16 u_4 u_5 su_kind su_won su_day su_land su_undoneFrom u_10 u_11 su_first u_17 u_18 u_19 u_20) (fun u_22 u_23 u_24 u_25 u_26 u_27 => (zk_b5 (f_X8_readTime tape_size tape_bytes sr_spare u_22 u_23 u_24 u_4 u_5 u_25 u_26 su_day su_land su_undoneFrom u_10 u_11 u_27 u_17 u_18 u_19 u_20) (fun u_29 u_30 u_31 u_32 u_33 => (if u_29 < tape_size then (B_X8_read_61 tape_size tape_bytes su_undoneFrom (0 : Int32) sr_spare u_29 u_30 u_31 u_4 u_5 u_25 u_26 u_32 u_33 u_10 u_11 u_27 u_17 u_18 u_19 u_20 u_12) else (B_X8_read_61 tape_size tape_bytes su_undoneFrom (1 : Int32) sr_spare u_29 u_30 u_31 u_4 u_5 u_25 u_26 u_32 u_33 u_10 u_11 u_27 u_17 u_18 u_19 u_20 u_12))))))))))))
set_option maxHeartbeats 4000000 in
set_option maxRecDepth 100000 in
theorem L_X8_read_61 {p : Program} {l : Launch} {e : Env} {s : State} {m : MethodId} {args : Array Value} {below : List Frame} {meth : Method} {c : Code} {A : Nat → Prop} {D : va_G} {cs : Nat → ClassId} {ad : Nat → Nat} {h_su : Nat} {h_su_asked : Nat} {tape_size : Int32} {tape_bytes : Nat → Int32} {su_undoneFrom : Int32} {R : Value × Int32 × Int32 × Int32 × Int32 × Int32 × Int32 × Int32 × Int32 × Int32 × Int32 × Int32 × Int32 × Int32 × Int32 × Int32 × Int32 × (Nat → Int32)} (C0 : zC p s m args meth c cX8_read 3 (some (.object "AlreadyJudged$Suit")) RX8 zW) (hK : va_K D classes (zT cs) s) (hA : ∀ q : Nat, s.heap.size ≤ q → A q) (s0 : Int32) (sr_spare : Value) (sr_at : Int32) (sr_numberAt : Int32) (sr_fault : Int32) (su_who : Int32) (su_against : Int32) (su_kind : Int32) (su_won : Int32) (su_day : Int32) (su_land : Int32) (su_askedCount : Int32) (su_askedBits : Int32) (su_first : Int32) (su_foundSo : Int32) (su_foundNot : Int32) (su_fought : Int32) (su_needed : Int32) (su_asked : Nat → Int32) (h : B_X8_read_61 tape_size tape_bytes su_undoneFrom s0 sr_spare sr_at sr_numberAt sr_fault su_who su_against su_kind su_won su_day su_land su_askedCount su_askedBits su_first su_foundSo su_foundNot su_fought su_needed su_asked = some R) (H : Heap) (locs : List Loc) (ls : Array Slot) (hP : va_P D classes (wl_X8_read ad cs h_su h_su_asked tape_size tape_bytes sr_spare sr_at sr_numberAt sr_fault su_who su_against su_kind su_won su_day su_land su_undoneFrom su_askedCount su_askedBits su_first su_foundSo su_foundNot su_fought su_needed su_asked) H) (hD : va_D A (wl_X8_read ad cs h_su h_su_asked tape_size tape_bytes sr_spare sr_at sr_numberAt sr_fault su_who su_against su_kind su_won su_day su_land su_undoneFrom su_askedCount su_askedBits su_first su_foundSo su_foundNot su_fought su_needed su_asked)) (hS : va_S A s.heap H locs) (hl : lv_has ls 3 [(0, .ref (ad 25)), (2, .ref h_su)]) : W p l e rm_X8_read s m args below meth c H locs 2 47 (MQ below (Q_X8_read D cs ad tape_size tape_bytes su_undoneFrom A R) args s 2 47 A) (F0 m 61 ls [.int s0, .ref (ad 25)]) := by
  obtain ⟨hx, hb, hr, hml, hown, ht, hlocks⟩ := id C0
  refine lv_aload_n hx hb dX8_read_61 rfl (lv_at hl 0 rfl) ?_
  refine va_get (D := D) (ci := 8) (v := .int sr_at) (C := RX8) (T := TX8) (N := 5) hx hb ht iX8 hown hK hP 2 rfl rfl 2 (by decide) (ht _ kw_253) (fun _ h9 => h9) rfl dX8_read_62 ?_
  obtain ⟨u_36, hc_37, h⟩ := zk_o1 h
  refine zz_vv (post := (fun u => u = u_36)) (w1 := fun u => (wl_X8_judge ad cs sr_spare sr_at sr_numberAt u)) (As := [.int s0, .int sr_at]) (rest := []) (c_X8_judge l D cs ad  H.size s0 sr_at sr_spare sr_at sr_numberAt sr_fault u_36 hc_37) ⟨hx, hb, hml, hown, ht⟩ (cwV 2 ht g_X8_48 rfl rfl rfl ⟨rfl, hd_X8_judge⟩ ⟨Nat.le_of_ble_eq_true rfl, Nat.le_of_ble_eq_true rfl⟩) (va_recv hK hP (ci := 8) (q0 := 2) rfl rfl) hP hD hS hK hA [2] rfl rfl [(ad 25)] rfl (fun _ => rfl) rfl hl.1 (Nat.le_of_ble_eq_true rfl) dX8_read_65 ⟨Nat.le_of_ble_eq_true rfl, Nat.le_of_ble_eq_true rfl⟩ (fun u H locs hq hP hS => ?_)
  cases hq
  have hP : va_P D classes (wl_X8_read ad cs h_su h_su_asked tape_size tape_bytes sr_spare sr_at sr_numberAt u_36 su_who su_against su_kind su_won su_day su_land su_undoneFrom su_askedCount su_askedBits su_first su_foundSo su_foundNot su_fought su_needed su_asked) H := hP
  have hD : va_D A (wl_X8_read ad cs h_su h_su_asked tape_size tape_bytes sr_spare sr_at sr_numberAt u_36 su_who su_against su_kind su_won su_day su_land su_undoneFrom su_askedCount su_askedBits su_first su_foundSo su_foundNot su_fought su_needed su_asked) := zDk hD [(ad 23), (ad 24), (ad 25), h_su, h_su_asked] rfl rfl
  refine lv_aload_n hx hb dX8_read_68 rfl (lv_at hl 0 rfl) ?_
  refine lv_aload_n hx hb dX8_read_69 rfl (lv_at hl 0 rfl) ?_
  refine va_get (D := D) (ci := 8) (v := .int u_36) (C := RX8) (T := TX8) (N := 5) hx hb ht iX8 hown hK hP 2 rfl rfl 4 (by decide) (ht _ kw_255) (fun _ h9 => h9) rfl dX8_read_70 ?_
  refine lv_if_ge (tgt := 80) hx hb dX8_read_73 (by decide) (fun c_38 => ?_) (fun c_38 => ?_)
  · have h := zk_t c_38 h
    refine lv_aload_n hx hb dX8_read_80 rfl (lv_at hl 1 rfl) ?_
    refine va_put (D := D) (ci := 8) (v := .ref h_su) (ty := .object "AlreadyJudged$Suit") (C := RX8) (T := TX8) (N := 5) hx hb ht iX8 tyX8 tyX8_ok nmX8 hown hK hP hD hS 2 rfl rfl 1 (by decide) (ht _ kw_252) (fun _ h9 => h9) rfl (by decide +kernel) rfl rfl (Nat.le_of_ble_eq_true rfl) dX8_read_81 (fun H locs hP hD hS => ?_)
    have hP : va_P D classes (wl_X8_read ad cs h_su h_su_asked tape_size tape_bytes (.ref h_su) sr_at sr_numberAt u_36 su_who su_against su_kind su_won su_day su_land su_undoneFrom su_askedCount su_askedBits su_first su_foundSo su_foundNot su_fought su_needed su_asked) H := hP
    have hD : va_D A (wl_X8_read ad cs h_su h_su_asked tape_size tape_bytes (.ref h_su) sr_at sr_numberAt u_36 su_who su_against su_kind su_won su_day su_land su_undoneFrom su_askedCount su_askedBits su_first su_foundSo su_foundNot su_fought su_needed su_asked) := hD
    refine lv_aload_n hx hb dX8_read_84 rfl (lv_at hl 0 rfl) ?_
    refine va_get (D := D) (ci := 8) (v := .int u_36) (C := RX8) (T := TX8) (N := 5) hx hb ht iX8 hown hK hP 2 rfl rfl 4 (by decide) (ht _ kw_255) (fun _ h9 => h9) rfl dX8_read_85 ?_
    refine lv_if_ge (tgt := 95) hx hb dX8_read_88 (by decide) (fun c_39 => ?_) (fun c_39 => ?_)
    · have h := zk_t c_39 h
      refine lv_null hx hb dX8_read_95 ?_
      refine W.widen (k := 2) (n := 47) (Nat.le_of_ble_eq_true rfl) (Nat.le_of_ble_eq_true rfl) ?_
      have hR := Option.some.inj h
      subst hR
      have hP3 : va_P D classes (wl_X8_read ad cs h_su h_su_asked tape_size tape_bytes (if 0 ≤ u_36 then .ref h_su else .null) sr_at sr_numberAt u_36 su_who su_against su_kind su_won su_day su_land su_undoneFrom su_askedCount su_askedBits su_first su_foundSo su_foundNot su_fought su_needed su_asked) H := by rw [if_pos c_39]; exact hP
      have hD3 : va_D A (wl_X8_read ad cs h_su h_su_asked tape_size tape_bytes (if 0 ≤ u_36 then .ref h_su else .null) sr_at sr_numberAt u_36 su_who su_against su_kind su_won su_day su_land su_undoneFrom su_askedCount su_askedBits su_first su_foundSo su_foundNot su_fought su_needed su_asked) := by rw [if_pos c_39]; exact hD
      exact W.aret (v := va_rf none) hx hb hr (Or.inl ⟨_, rfl⟩) (Or.inl rfl) (fun t ht2 hW => ⟨⟨none, ((.null, sr_at, sr_numberAt, u_36, su_who, su_against, su_kind, su_won, su_day, su_land, su_askedCount, su_askedBits, su_first, su_foundSo, su_foundNot, su_fought, su_needed, su_asked), h_su, h_su_asked), rfl, ⟨(if_pos c_39).symm, rfl⟩, by rw [ht2]; exact hP3, hD3⟩, hS.F ht2⟩) hS.2.2 dX8_read_96 hlocks
    · have h := zk_f c_39 h
      cases h
  · have h := zk_f c_38 h
    refine lv_null hx hb dX8_read_76 ?_
    refine lv_goto (tgt := 81) hx hb dX8_read_77 (by decide) ?_
    refine va_put (D := D) (ci := 8) (v := .null) (ty := .object "AlreadyJudged$Suit") (C := RX8) (T := TX8) (N := 5) hx hb ht iX8 tyX8 tyX8_ok nmX8 hown hK hP hD hS 2 rfl rfl 1 (by decide) (ht _ kw_252) (fun _ h9 => h9) rfl (by decide +kernel) rfl rfl (Nat.le_of_ble_eq_true rfl) dX8_read_81 (fun H locs hP hD hS => ?_)
    have hP : va_P D classes (wl_X8_read ad cs h_su h_su_asked tape_size tape_bytes .null sr_at sr_numberAt u_36 su_who su_against su_kind su_won su_day su_land su_undoneFrom su_askedCount su_askedBits su_first su_foundSo su_foundNot su_fought su_needed su_asked) H := hP
    have hD : va_D A (wl_X8_read ad cs h_su h_su_asked tape_size tape_bytes .null sr_at sr_numberAt u_36 su_who su_against su_kind su_won su_day su_land su_undoneFrom su_askedCount su_askedBits su_first su_foundSo su_foundNot su_fought su_needed su_asked) := hD
    refine lv_aload_n hx hb dX8_read_84 rfl (lv_at hl 0 rfl) ?_
    refine va_get (D := D) (ci := 8) (v := .int u_36) (C := RX8) (T := TX8) (N := 5) hx hb ht iX8 hown hK hP 2 rfl rfl 4 (by decide) (ht _ kw_255) (fun _ h9 => h9) rfl dX8_read_85 ?_
    refine lv_if_ge (tgt := 95) hx hb dX8_read_88 (by decide) (fun c_40 => ?_) (fun c_40 => ?_)
    · have h := zk_t c_40 h
      cases h
    · have h := zk_f c_40 h
      refine lv_aload_n hx hb dX8_read_91 rfl (lv_at hl 1 rfl) ?_
      refine lv_goto (tgt := 96) hx hb dX8_read_92 (by decide) ?_
      refine W.widen (k := 2) (n := 47) (Nat.le_of_ble_eq_true rfl) (Nat.le_of_ble_eq_true rfl) ?_
      have hR := Option.some.inj h
      subst hR
      have hP3 : va_P D classes (wl_X8_read ad cs h_su h_su_asked tape_size tape_bytes (if 0 ≤ u_36 then .ref h_su else .null) sr_at sr_numberAt u_36 su_who su_against su_kind su_won su_day su_land su_undoneFrom su_askedCount su_askedBits su_first su_foundSo su_foundNot su_fought su_needed su_asked) H := by rw [if_neg c_40]; exact hP
      have hD3 : va_D A (wl_X8_read ad cs h_su h_su_asked tape_size tape_bytes (if 0 ≤ u_36 then .ref h_su else .null) sr_at sr_numberAt u_36 su_who su_against su_kind su_won su_day su_land su_undoneFrom su_askedCount su_askedBits su_first su_foundSo su_foundNot su_fought su_needed su_asked) := by rw [if_neg c_40]; exact hD
      exact W.aret (v := va_rf (some h_su)) hx hb hr (Or.inl ⟨_, rfl⟩) (Or.inr ⟨_, rfl⟩) (fun t ht2 hW => ⟨⟨(some h_su), ((.null, sr_at, sr_numberAt, u_36, su_who, su_against, su_kind, su_won, su_day, su_land, su_askedCount, su_askedBits, su_first, su_foundSo, su_foundNot, su_fought, su_needed, su_asked), h_su, h_su_asked), rfl, ⟨(if_neg c_40).symm, rfl⟩, by rw [ht2]; exact hP3, hD3⟩, hS.F ht2⟩) hS.2.2 dX8_read_96 hlocks
set_option maxHeartbeats 4000000 in
set_option maxRecDepth 100000 in
theorem L_X8_read_0 {p : Program} {l : Launch} {e : Env} {s : State} {m : MethodId} {args : Array Value} {below : List Frame} {meth : Method} {c : Code} {A : Nat → Prop} {D : va_G} {cs : Nat → ClassId} {ad : Nat → Nat} {h_su : Nat} {h_su_asked : Nat} {tape_size : Int32} {tape_bytes : Nat → Int32} {su_undoneFrom : Int32} {R : Value × Int32 × Int32 × Int32 × Int32 × Int32 × Int32 × Int32 × Int32 × Int32 × Int32 × Int32 × Int32 × Int32 × Int32 × Int32 × Int32 × (Nat → Int32)} (C0 : zC p s m args meth c cX8_read 3 (some (.object "AlreadyJudged$Suit")) RX8 zW) (hK : va_K D classes (zT cs) s) (hA : ∀ q : Nat, s.heap.size ≤ q → A q) (x1 : Int32) (sr_spare : Value) (sr_at : Int32) (sr_numberAt : Int32) (sr_fault : Int32) (su_who : Int32) (su_against : Int32) (su_kind : Int32) (su_won : Int32) (su_day : Int32) (su_land : Int32) (su_askedCount : Int32) (su_askedBits : Int32) (su_first : Int32) (su_foundSo : Int32) (su_foundNot : Int32) (su_fought : Int32) (su_needed : Int32) (su_asked : Nat → Int32) (h : B_X8_read_0 tape_size tape_bytes su_undoneFrom x1 sr_spare sr_at sr_numberAt sr_fault su_who su_against su_kind su_won su_day su_land su_askedCount su_askedBits su_first su_foundSo su_foundNot su_fought su_needed su_asked = some R) (H : Heap) (locs : List Loc) (ls : Array Slot) (hP : va_P D classes (wl_X8_read ad cs h_su h_su_asked tape_size tape_bytes sr_spare sr_at sr_numberAt sr_fault su_who su_against su_kind su_won su_day su_land su_undoneFrom su_askedCount su_askedBits su_first su_foundSo su_foundNot su_fought su_needed su_asked) H) (hD : va_D A (wl_X8_read ad cs h_su h_su_asked tape_size tape_bytes sr_spare sr_at sr_numberAt sr_fault su_who su_against su_kind su_won su_day su_land su_undoneFrom su_askedCount su_askedBits su_first su_foundSo su_foundNot su_fought su_needed su_asked)) (hS : va_S A s.heap H locs) (hl : lv_has ls 3 [(0, .ref (ad 25)), (1, .int x1), (2, .ref h_su)]) : W p l e rm_X8_read s m args below meth c H locs 2 47 (MQ below (Q_X8_read D cs ad tape_size tape_bytes su_undoneFrom A R) args s 2 47 A) (F0 m 15 ls []) := by
  obtain ⟨hx, hb, hr, hml, hown, ht, hlocks⟩ := id C0
  refine lv_aload_n hx hb dX8_read_15 rfl (lv_at hl 0 rfl) ?_
  refine lv_aload_n hx hb dX8_read_16 rfl (lv_at hl 2 rfl) ?_
  obtain ⟨u_1, u_2, u_3, u_4, u_5, hc_6, h⟩ := zk_o5 h
  refine zz_vv (post := (fun u => u = (u_1, u_2, u_3, u_4, u_5))) (w1 := fun u => (wl_X8_readSides ad cs h_su h_su_asked tape_size tape_bytes sr_spare u.1 u.2.1 u.2.2.1 u.2.2.2.1 u.2.2.2.2 su_kind su_won su_day su_land su_undoneFrom su_askedCount su_askedBits su_first su_foundSo su_foundNot su_fought su_needed)) (As := [.ref h_su]) (rest := []) (c_X8_readSides l D cs ad h_su h_su_asked H.size tape_size tape_bytes sr_spare sr_at sr_numberAt sr_fault su_who su_against su_kind su_won su_day su_land su_undoneFrom su_askedCount su_askedBits su_first su_foundSo su_foundNot su_fought su_needed (u_1, u_2, u_3, u_4, u_5) hc_6) ⟨hx, hb, hml, hown, ht⟩ (cwV 1 ht g_X8_26 rfl rfl rfl ⟨rfl, hd_X8_readSides⟩ ⟨Nat.le_of_ble_eq_true rfl, Nat.le_of_ble_eq_true rfl⟩) (va_recv hK hP (ci := 8) (q0 := 2) rfl rfl) hP hD hS hK hA [0, 1, 2, 3] rfl rfl [(ad 23), (ad 24), (ad 25), h_su] rfl (fun _ => rfl) rfl hl.1 (Nat.le_of_ble_eq_true rfl) dX8_read_17 ⟨Nat.le_of_ble_eq_true rfl, Nat.le_of_ble_eq_true rfl⟩ (fun u H locs hq hP hS => ?_)
  cases hq
  have hP : va_P D classes (wl_X8_read ad cs h_su h_su_asked tape_size tape_bytes sr_spare u_1 u_2 u_3 u_4 u_5 su_kind su_won su_day su_land su_undoneFrom su_askedCount su_askedBits su_first su_foundSo su_foundNot su_fought su_needed su_asked) H := hP
  have hD : va_D A (wl_X8_read ad cs h_su h_su_asked tape_size tape_bytes sr_spare u_1 u_2 u_3 u_4 u_5 su_kind su_won su_day su_land su_undoneFrom su_askedCount su_askedBits su_first su_foundSo su_foundNot su_fought su_needed su_asked) := zDk hD [(ad 23), (ad 24), (ad 25), h_su, h_su_asked] rfl rfl
  refine lv_aload_n hx hb dX8_read_20 rfl (lv_at hl 0 rfl) ?_
  refine lv_aload_n hx hb dX8_read_21 rfl (lv_at hl 2 rfl) ?_
  refine lv_iload_n hx hb dX8_read_22 rfl (lv_at hl 1 rfl) ?_
  obtain ⟨u_7, u_8, u_9, u_10, u_11, u_12, hc_13, h⟩ := zk_o6 h
  refine zz_vv (post := (fun u => u = (u_7, u_8, u_9, u_10, u_11, u_12))) (w1 := fun u => (wl_X8_readClaims ad cs h_su h_su_asked tape_size tape_bytes sr_spare u.1 u.2.1 u.2.2.1 u_4 u_5 su_kind su_won su_day su_land su_undoneFrom u.2.2.2.1 u.2.2.2.2.1 su_first su_foundSo su_foundNot su_fought su_needed u.2.2.2.2.2)) (As := [.ref h_su, .int x1]) (rest := []) (c_X8_readClaims l D cs ad h_su h_su_asked H.size 100000 x1 tape_size tape_bytes sr_spare u_1 u_2 u_3 u_4 u_5 su_kind su_won su_day su_land su_undoneFrom su_askedCount su_askedBits su_first su_foundSo su_foundNot su_fought su_needed su_asked (u_7, u_8, u_9, u_10, u_11, u_12) hc_13) ⟨hx, hb, hml, hown, ht⟩ (cwV 2 ht g_X8_30 rfl rfl rfl ⟨rfl, hd_X8_readClaims⟩ ⟨Nat.le_of_ble_eq_true rfl, Nat.le_of_ble_eq_true rfl⟩) (va_recv hK hP (ci := 8) (q0 := 2) rfl rfl) hP hD hS hK hA [0, 1, 2, 3, 4] rfl rfl [(ad 23), (ad 24), (ad 25), h_su, h_su_asked] rfl (fun _ => rfl) rfl hl.1 (Nat.le_of_ble_eq_true rfl) dX8_read_23 ⟨Nat.le_of_ble_eq_true rfl, Nat.le_of_ble_eq_true rfl⟩ (fun u H locs hq hP hS => ?_)
  cases hq
  have hP : va_P D classes (wl_X8_read ad cs h_su h_su_asked tape_size tape_bytes sr_spare u_7 u_8 u_9 u_4 u_5 su_kind su_won su_day su_land su_undoneFrom u_10 u_11 su_first su_foundSo su_foundNot su_fought su_needed u_12) H := hP
  have hD : va_D A (wl_X8_read ad cs h_su h_su_asked tape_size tape_bytes sr_spare u_7 u_8 u_9 u_4 u_5 su_kind su_won su_day su_land su_undoneFrom u_10 u_11 su_first su_foundSo su_foundNot su_fought su_needed u_12) := zDk hD [(ad 23), (ad 24), (ad 25), h_su, h_su_asked] rfl rfl
  refine lv_aload_n hx hb dX8_read_26 rfl (lv_at hl 0 rfl) ?_
  refine lv_aload_n hx hb dX8_read_27 rfl (lv_at hl 2 rfl) ?_
  obtain ⟨u_14, u_15, u_16, u_17, u_18, u_19, u_20, hc_21, h⟩ := zk_o7 h
  refine zz_vv (post := (fun u => u = (u_14, u_15, u_16, u_17, u_18, u_19, u_20))) (w1 := fun u => (wl_X8_readPoints ad cs h_su h_su_asked tape_size tape_bytes sr_spare u.1 u.2.1 u.2.2.1 u_4 u_5 su_kind su_won su_day su_land su_undoneFrom u_10 u_11 su_first u.2.2.2.1 u.2.2.2.2.1 u.2.2.2.2.2.1 u.2.2.2.2.2.2)) (As := [.ref h_su]) (rest := []) (c_X8_readPoints l D cs ad h_su h_su_asked H.size 100000 tape_size tape_bytes sr_spare u_7 u_8 u_9 u_4 u_5 su_kind su_won su_day su_land su_undoneFrom u_10 u_11 su_first su_foundSo su_foundNot su_fought su_needed (u_14, u_15, u_16, u_17, u_18, u_19, u_20) hc_21) ⟨hx, hb, hml, hown, ht⟩ (cwV 1 ht g_X8_34 rfl rfl rfl ⟨rfl, hd_X8_readPoints⟩ ⟨Nat.le_of_ble_eq_true rfl, Nat.le_of_ble_eq_true rfl⟩) (va_recv hK hP (ci := 8) (q0 := 2) rfl rfl) hP hD hS hK hA [0, 1, 2, 3] rfl rfl [(ad 23), (ad 24), (ad 25), h_su] rfl (fun _ => rfl) rfl hl.1 (Nat.le_of_ble_eq_true rfl) dX8_read_28 ⟨Nat.le_of_ble_eq_true rfl, Nat.le_of_ble_eq_true rfl⟩ (fun u H locs hq hP hS => ?_)
  cases hq
  have hP : va_P D classes (wl_X8_read ad cs h_su h_su_asked tape_size tape_bytes sr_spare u_14 u_15 u_16 u_4 u_5 su_kind su_won su_day su_land su_undoneFrom u_10 u_11 su_first u_17 u_18 u_19 u_20 u_12) H := hP
  have hD : va_D A (wl_X8_read ad cs h_su h_su_asked tape_size tape_bytes sr_spare u_14 u_15 u_16 u_4 u_5 su_kind su_won su_day su_land su_undoneFrom u_10 u_11 su_first u_17 u_18 u_19 u_20 u_12) := zDk hD [(ad 23), (ad 24), (ad 25), h_su, h_su_asked] rfl rfl
  refine lv_aload_n hx hb dX8_read_31 rfl (lv_at hl 0 rfl) ?_
  refine lv_aload_n hx hb dX8_read_32 rfl (lv_at hl 2 rfl) ?_
  obtain ⟨u_22, u_23, u_24, u_25, u_26, u_27, hc_28, h⟩ := zk_o6 h
  refine zz_vv (post := (fun u => u = (u_22, u_23, u_24, u_25, u_26, u_27))) (w1 := fun u => (wl_X8_readEnding ad cs h_su h_su_asked tape_size tape_bytes sr_spare u.1 u.2.1 u.2.2.1 u_4 u_5 u.2.2.2.1 u.2.2.2.2.1 su_day su_land su_undoneFrom u_10 u_11 u.2.2.2.2.2 u_17 u_18 u_19 u_20)) (As := [.ref h_su]) (rest := []) (c_X8_readEnding l D cs ad h_su h_su_asked H.size tape_size tape_bytes sr_spare u_14 u_15 u_16 u_4 u_5 su_kind su_won su_day su_land su_undoneFrom u_10 u_11 su_first u_17 u_18 u_19 u_20 (u_22, u_23, u_24, u_25, u_26, u_27) hc_28) ⟨hx, hb, hml, hown, ht⟩ (cwV 1 ht g_X8_37 rfl rfl rfl ⟨rfl, hd_X8_readEnding⟩ ⟨Nat.le_of_ble_eq_true rfl, Nat.le_of_ble_eq_true rfl⟩) (va_recv hK hP (ci := 8) (q0 := 2) rfl rfl) hP hD hS hK hA [0, 1, 2, 3] rfl rfl [(ad 23), (ad 24), (ad 25), h_su] rfl (fun _ => rfl) rfl hl.1 (Nat.le_of_ble_eq_true rfl) dX8_read_33 ⟨Nat.le_of_ble_eq_true rfl, Nat.le_of_ble_eq_true rfl⟩ (fun u H locs hq hP hS => ?_)
  cases hq
  have hP : va_P D classes (wl_X8_read ad cs h_su h_su_asked tape_size tape_bytes sr_spare u_22 u_23 u_24 u_4 u_5 u_25 u_26 su_day su_land su_undoneFrom u_10 u_11 u_27 u_17 u_18 u_19 u_20 u_12) H := hP
  have hD : va_D A (wl_X8_read ad cs h_su h_su_asked tape_size tape_bytes sr_spare u_22 u_23 u_24 u_4 u_5 u_25 u_26 su_day su_land su_undoneFrom u_10 u_11 u_27 u_17 u_18 u_19 u_20 u_12) := zDk hD [(ad 23), (ad 24), (ad 25), h_su, h_su_asked] rfl rfl
  refine lv_aload_n hx hb dX8_read_36 rfl (lv_at hl 0 rfl) ?_
  refine lv_aload_n hx hb dX8_read_37 rfl (lv_at hl 2 rfl) ?_
  obtain ⟨u_29, u_30, u_31, u_32, u_33, hc_34, h⟩ := zk_o5 h
  refine zz_vv (post := (fun u => u = (u_29, u_30, u_31, u_32, u_33))) (w1 := fun u => (wl_X8_readTime ad cs h_su h_su_asked tape_size tape_bytes sr_spare u.1 u.2.1 u.2.2.1 u_4 u_5 u_25 u_26 u.2.2.2.1 u.2.2.2.2 su_undoneFrom u_10 u_11 u_27 u_17 u_18 u_19 u_20)) (As := [.ref h_su]) (rest := []) (c_X8_readTime l D cs ad h_su h_su_asked H.size tape_size tape_bytes sr_spare u_22 u_23 u_24 u_4 u_5 u_25 u_26 su_day su_land su_undoneFrom u_10 u_11 u_27 u_17 u_18 u_19 u_20 (u_29, u_30, u_31, u_32, u_33) hc_34) ⟨hx, hb, hml, hown, ht⟩ (cwV 1 ht g_X8_40 rfl rfl rfl ⟨rfl, hd_X8_readTime⟩ ⟨Nat.le_of_ble_eq_true rfl, Nat.le_of_ble_eq_true rfl⟩) (va_recv hK hP (ci := 8) (q0 := 2) rfl rfl) hP hD hS hK hA [0, 1, 2, 3] rfl rfl [(ad 23), (ad 24), (ad 25), h_su] rfl (fun _ => rfl) rfl hl.1 (Nat.le_of_ble_eq_true rfl) dX8_read_38 ⟨Nat.le_of_ble_eq_true rfl, Nat.le_of_ble_eq_true rfl⟩ (fun u H locs hq hP hS => ?_)
  cases hq
  have hP : va_P D classes (wl_X8_read ad cs h_su h_su_asked tape_size tape_bytes sr_spare u_29 u_30 u_31 u_4 u_5 u_25 u_26 u_32 u_33 su_undoneFrom u_10 u_11 u_27 u_17 u_18 u_19 u_20 u_12) H := hP
  have hD : va_D A (wl_X8_read ad cs h_su h_su_asked tape_size tape_bytes sr_spare u_29 u_30 u_31 u_4 u_5 u_25 u_26 u_32 u_33 su_undoneFrom u_10 u_11 u_27 u_17 u_18 u_19 u_20 u_12) := zDk hD [(ad 23), (ad 24), (ad 25), h_su, h_su_asked] rfl rfl
  refine lv_aload_n hx hb dX8_read_41 rfl (lv_at hl 0 rfl) ?_
  refine lv_aload_n hx hb dX8_read_42 rfl (lv_at hl 0 rfl) ?_
  refine va_get (D := D) (ci := 8) (v := .int u_29) (C := RX8) (T := TX8) (N := 5) hx hb ht iX8 hown hK hP 2 rfl rfl 2 (by decide) (ht _ kw_253) (fun _ h9 => h9) rfl dX8_read_43 ?_
  refine lv_aload_n hx hb dX8_read_46 rfl (lv_at hl 0 rfl) ?_
  refine va_get (D := D) (ci := 8) (v := .ref (ad 23)) (C := RX8) (T := TX8) (N := 5) hx hb ht iX8 hown hK hP 2 rfl rfl 0 (by decide) (ht _ kw_251) (fun _ h9 => h9) rfl dX8_read_47 ?_
  refine va_get (D := D) (ci := 9) (v := .int tape_size) (C := RX9) (T := TX9) (N := 2) hx hb ht iX9 hown hK hP 0 rfl rfl 1 (by decide) (ht _ kw_238) (fun _ h9 => h9) rfl dX8_read_50 ?_
  refine lv_icmp_lt (tgt := 60) hx hb dX8_read_53 (by decide) (fun c_35 => ?_) (fun c_35 => ?_)
  · have h := zk_t c_35 h
    refine lv_iconst (v := (0 : Int32)) hx hb dX8_read_60 (by decide) ?_
    exact L_X8_read_61 C0 hK hA   (0 : Int32) sr_spare u_29 u_30 u_31 u_4 u_5 u_25 u_26 u_32 u_33 u_10 u_11 u_27 u_17 u_18 u_19 u_20 u_12 h H locs ls hP hD hS (lv_sub hl [0, 2] rfl)
  · have h := zk_f c_35 h
    refine lv_iconst (v := (1 : Int32)) hx hb dX8_read_56 (by decide) ?_
    refine lv_goto (tgt := 61) hx hb dX8_read_57 (by decide) ?_
    exact L_X8_read_61 C0 hK hA   (1 : Int32) sr_spare u_29 u_30 u_31 u_4 u_5 u_25 u_26 u_32 u_33 u_10 u_11 u_27 u_17 u_18 u_19 u_20 u_12 h H locs ls hP hD hS (lv_sub hl [0, 2] rfl)
def f_X8_read (x1 : Int32) (tape_size : Int32) (tape_bytes : Nat → Int32) (sr_spare : Value) (sr_at : Int32) (sr_numberAt : Int32) (sr_fault : Int32) (su_who : Int32) (su_against : Int32) (su_kind : Int32) (su_won : Int32) (su_day : Int32) (su_land : Int32) (su_undoneFrom : Int32) (su_askedCount : Int32) (su_askedBits : Int32) (su_first : Int32) (su_foundSo : Int32) (su_foundNot : Int32) (su_fought : Int32) (su_needed : Int32) (su_asked : Nat → Int32) : Option (Value × Int32 × Int32 × Int32 × Int32 × Int32 × Int32 × Int32 × Int32 × Int32 × Int32 × Int32 × Int32 × Int32 × Int32 × Int32 × Int32 × (Nat → Int32)) := B_X8_read_0 tape_size tape_bytes su_undoneFrom x1 sr_spare sr_at sr_numberAt sr_fault su_who su_against su_kind su_won su_day su_land su_askedCount su_askedBits su_first su_foundSo su_foundNot su_fought su_needed su_asked
theorem kw_867 : Cond.methodLink RX11 197 yX8_read ∈ zW := zwC (i := 73) zc_4 rfl rfl
theorem kw_868 : Cond.instanceMethod yX8_read ∈ zW := zwC (i := 74) zc_4 rfl rfl
theorem kw_869 : Cond.selects RX8 yX8_read yX8_read ∈ zW := zwC (i := 75) zc_4 rfl rfl
theorem kw_870 : Cond.code yX8_read cX8_read 3 (some (.object "AlreadyJudged$Suit")) ∈ zW := zwC (i := 76) zc_4 rfl rfl
theorem kw_871 : Cond.methodLink RX8 22 yX8_blank ∈ zW := zwC (i := 77) zc_4 rfl rfl
theorem kw_872 : Cond.instanceMethod yX8_blank ∈ zW := zwC (i := 78) zc_4 rfl rfl
theorem kw_873 : Cond.selects RX8 yX8_blank yX8_blank ∈ zW := zwC (i := 79) zc_4 rfl rfl
theorem kw_874 : Cond.code yX8_blank cX8_blank 1 (some (.object "AlreadyJudged$Suit")) ∈ zW := zwC (i := 80) zc_4 rfl rfl
theorem kw_875 : Cond.classLink RX8 56 RX7 ∈ zW := zwC (i := 81) zc_4 rfl rfl
theorem kw_877 : Cond.methodLink RX8 59 yX7_forget ∈ zW := zwC (i := 83) zc_4 rfl rfl
theorem kw_878 : Cond.instanceMethod yX7_forget ∈ zW := zwC (i := 84) zc_4 rfl rfl
theorem kw_879 : Cond.selects RX7 yX7_forget yX7_forget ∈ zW := zwC (i := 85) zc_4 rfl rfl
theorem kw_880 : Cond.code yX7_forget cX7_forget 1 none ∈ zW := zwC (i := 86) zc_4 rfl rfl
theorem kw_931 : Cond.methodLink RX11 203 yX2_addSuit ∈ zW := zwC (i := 137) zc_4 rfl rfl
theorem kw_932 : Cond.instanceMethod yX2_addSuit ∈ zW := zwC (i := 138) zc_4 rfl rfl
theorem kw_933 : Cond.selects RX2 yX2_addSuit yX2_addSuit ∈ zW := zwC (i := 139) zc_4 rfl rfl
theorem kw_934 : Cond.code yX2_addSuit cX2_addSuit 2 (some .int) ∈ zW := zwC (i := 140) zc_4 rfl rfl
theorem zh_cX2_addSuit_0 : zck [42, 180, 0, 59, 16, 40, 161, 0, 6, 16, 253, 172, 42, 180, 0, 38, 42, 180, 0, 59, 43, 83] (zdu 0 cX2_addSuit.data.toList) = true := by decide +kernel
theorem dX2_addSuit_0 : decode cX2_addSuit 0 = .ok (.aload_n 0, 1) := zo_42 zh_cX2_addSuit_0 0 rfl
theorem dX2_addSuit_1 : decode cX2_addSuit 1 = .ok (.getfield 59, 3) := zo_180 zh_cX2_addSuit_0 1 rfl
theorem dX2_addSuit_4 : decode cX2_addSuit 4 = .ok (.bipush 40, 2) := zo_p16 zh_cX2_addSuit_0 4 40 rfl rfl
theorem dX2_addSuit_6 : decode cX2_addSuit 6 = .ok (.if_icmp .lt 6, 3) := zo_p161 zh_cX2_addSuit_0 6 6 rfl rfl
theorem dX2_addSuit_12 : decode cX2_addSuit 12 = .ok (.aload_n 0, 1) := zo_42 zh_cX2_addSuit_0 12 rfl
theorem dX2_addSuit_13 : decode cX2_addSuit 13 = .ok (.getfield 38, 3) := zo_180 zh_cX2_addSuit_0 13 rfl
theorem dX2_addSuit_16 : decode cX2_addSuit 16 = .ok (.aload_n 0, 1) := zo_42 zh_cX2_addSuit_0 16 rfl
theorem dX2_addSuit_17 : decode cX2_addSuit 17 = .ok (.getfield 59, 3) := zo_180 zh_cX2_addSuit_0 17 rfl
theorem zh_cX2_addSuit_1 : zck [43, 83, 42, 89, 180, 0, 59, 4, 96, 181, 0, 59, 42, 180, 0, 59, 4, 100, 172] (zdu 20 cX2_addSuit.data.toList) = true := by decide +kernel
theorem dX2_addSuit_20 : decode cX2_addSuit 20 = .ok (.aload_n 1, 1) := zo_43 zh_cX2_addSuit_1 0 rfl
theorem dX2_addSuit_21 : decode cX2_addSuit 21 = .ok (.aastore, 1) := zo_83 zh_cX2_addSuit_1 1 rfl
theorem dX2_addSuit_22 : decode cX2_addSuit 22 = .ok (.aload_n 0, 1) := zo_42 zh_cX2_addSuit_1 2 rfl
theorem dX2_addSuit_23 : decode cX2_addSuit 23 = .ok (.dup, 1) := zo_89 zh_cX2_addSuit_1 3 rfl
theorem dX2_addSuit_24 : decode cX2_addSuit 24 = .ok (.getfield 59, 3) := zo_180 zh_cX2_addSuit_1 4 rfl
theorem dX2_addSuit_27 : decode cX2_addSuit 27 = .ok (.iconst 1, 1) := zo_4 zh_cX2_addSuit_1 7 rfl
theorem dX2_addSuit_28 : decode cX2_addSuit 28 = .ok (.iadd, 1) := zo_96 zh_cX2_addSuit_1 8 rfl
theorem dX2_addSuit_29 : decode cX2_addSuit 29 = .ok (.putfield 59, 3) := zo_181 zh_cX2_addSuit_1 9 rfl
theorem dX2_addSuit_32 : decode cX2_addSuit 32 = .ok (.aload_n 0, 1) := zo_42 zh_cX2_addSuit_1 12 rfl
theorem dX2_addSuit_33 : decode cX2_addSuit 33 = .ok (.getfield 59, 3) := zo_180 zh_cX2_addSuit_1 13 rfl
theorem dX2_addSuit_36 : decode cX2_addSuit 36 = .ok (.iconst 1, 1) := zo_4 zh_cX2_addSuit_1 16 rfl
theorem dX2_addSuit_37 : decode cX2_addSuit 37 = .ok (.isub, 1) := zo_100 zh_cX2_addSuit_1 17 rfl
theorem dX2_addSuit_38 : decode cX2_addSuit 38 = .ok (.ireturn, 1) := zo_172 zh_cX2_addSuit_1 18 rfl
theorem zh_cX8_blank_0 : zck [42, 180, 0, 52, 199, 0, 11, 187, 0, 56, 89, 183, 0, 58, 176, 42, 180, 0, 52, 182, 0, 59] (zdu 0 cX8_blank.data.toList) = true := by decide +kernel
theorem dX8_blank_0 : decode cX8_blank 0 = .ok (.aload_n 0, 1) := zo_42 zh_cX8_blank_0 0 rfl
theorem dX8_blank_1 : decode cX8_blank 1 = .ok (.getfield 52, 3) := zo_180 zh_cX8_blank_0 1 rfl
theorem dX8_blank_4 : decode cX8_blank 4 = .ok (.ifnonnull 11, 3) := zo_p199 zh_cX8_blank_0 4 11 rfl rfl
theorem dX8_blank_7 : decode cX8_blank 7 = .ok (.new 56, 3) := zo_187 zh_cX8_blank_0 7 rfl
theorem dX8_blank_10 : decode cX8_blank 10 = .ok (.dup, 1) := zo_89 zh_cX8_blank_0 10 rfl
theorem dX8_blank_11 : decode cX8_blank 11 = .ok (.invokespecial 58, 3) := zo_183 zh_cX8_blank_0 11 rfl
theorem dX8_blank_14 : decode cX8_blank 14 = .ok (.areturn, 1) := zo_176 zh_cX8_blank_0 14 rfl
theorem dX8_blank_15 : decode cX8_blank 15 = .ok (.aload_n 0, 1) := zo_42 zh_cX8_blank_0 15 rfl
theorem dX8_blank_16 : decode cX8_blank 16 = .ok (.getfield 52, 3) := zo_180 zh_cX8_blank_0 16 rfl
theorem dX8_blank_19 : decode cX8_blank 19 = .ok (.invokevirtual 59, 3) := zo_182 zh_cX8_blank_0 19 rfl
theorem zh_cX8_blank_1 : zck [0, 59, 42, 180, 0, 52, 176] (zdu 20 cX8_blank.data.toList) = true := by decide +kernel
theorem dX8_blank_22 : decode cX8_blank 22 = .ok (.aload_n 0, 1) := zo_42 zh_cX8_blank_1 2 rfl
theorem dX8_blank_23 : decode cX8_blank 23 = .ok (.getfield 52, 3) := zo_180 zh_cX8_blank_1 3 rfl
theorem dX8_blank_26 : decode cX8_blank 26 = .ok (.areturn, 1) := zo_176 zh_cX8_blank_1 6 rfl
theorem dX8_read_0 : decode cX8_read 0 = .ok (.aload_n 0, 1) := zo_42 zh_cX8_read_0 0 rfl
theorem dX8_read_1 : decode cX8_read 1 = .ok (.iconst 0, 1) := zo_3 zh_cX8_read_0 1 rfl
theorem dX8_read_2 : decode cX8_read 2 = .ok (.putfield 15, 3) := zo_181 zh_cX8_read_0 2 rfl
theorem dX8_read_5 : decode cX8_read 5 = .ok (.aload_n 0, 1) := zo_42 zh_cX8_read_0 5 rfl
theorem dX8_read_6 : decode cX8_read 6 = .ok (.iconst (-1), 1) := zo_2 zh_cX8_read_0 6 rfl
theorem dX8_read_7 : decode cX8_read 7 = .ok (.putfield 19, 3) := zo_181 zh_cX8_read_0 7 rfl
theorem dX8_read_10 : decode cX8_read 10 = .ok (.aload_n 0, 1) := zo_42 zh_cX8_read_0 10 rfl
theorem dX8_read_11 : decode cX8_read 11 = .ok (.invokevirtual 22, 3) := zo_182 zh_cX8_read_0 11 rfl
theorem dX8_read_14 : decode cX8_read 14 = .ok (.astore_n 2, 1) := zo_77 zh_cX8_read_0 14 rfl
section ZKO
variable {p : Program} {l : Launch} {e : Env} {R : Room} {s : State} {m : MethodId} {args : Array Value} {below : List Frame} {meth : Method} {c : Code} {H : Heap} {locs : List Loc} {cells slots : Nat} {Q : State → Prop} {ls : Array Slot} {pc : Nat}
variable {A : Nat → Prop} {D : va_G} {cs : Nat → ClassId} {ws wc : va_W} {S : Type} {w2 : S → Nat → va_W} {y : MethodName} {wsY : List Cond} {rm : Room} {C own host : String} {index maxL mc ms n nL : Nat} {bytes cc : ByteArray} {ret : Option FieldType} {b : Nat} {As rest : List Value}
theorem zk_vrO {post : S → Prop} {B0 : S → Nat → Prop} (hO : zO s) (hM : Met l y wsY rm (va_Pc (.ref b :: As) (zPreO D cs wc H.size)) (va_Qr post (fun (u : S) (a : Nat) (t : State) => B0 u a ∧ va_P D classes (w2 u a) t.heap ∧ va_D (va_A wc H.size) (w2 u a)) (va_A wc H.size)) mc ms (va_A wc H.size))
    (S0 : CallFix p m c cc nL s args zW own) (cw : CallW R s args own C index y bytes maxL ret wsY rm mc ms n)
    (hrv : ∃ cellB : Cell, H[b]? = some cellB ∧ cellB.vm.isStatics = false ∧ s.vm.findClass C = some cellB.cls)
    (hP : va_P D classes ws H) (hD : va_D A ws) (hS : va_S A s.heap H locs) (hK : va_K D classes (zT cs) s) (hA : ∀ q : Nat, s.heap.size ≤ q → A q) (isC isR : List Nat) (hC : isC.map (fun i => ws[i]?) = wc.map some) (hnC : va_nd isC = true) (hR : isR.map (fun i => ws[i]?) = (isR.filterMap (fun i => ws[i]?)).map some) (hn : va_nd isR = true) (hdis : ∀ i ∈ isR, i ∉ isC)
    (hlen : As.length = n) (hsize : ls.size = nL) (hW : (rest.map fun v => v.category).sum ≤ 8) (hdg : decode cc pc = .ok (.invokevirtual index, 3)) (hf : cells + mc ≤ R.cells ∧ slots + ms ≤ R.slots)
    (kk : ∀ (u : S) (a : Nat) (H1 : Heap) (locs1 : List Loc), post u → B0 u a → va_P D classes (isR.filterMap (fun i => ws[i]?) ++ w2 u a) H1 → va_D A (isR.filterMap (fun i => ws[i]?) ++ w2 u a) → va_S A s.heap H1 locs1 → W p l e R s m args below meth c H1 locs1 (cells + mc) (slots + ms) Q (F0 m (pc + 3) ls (.ref a :: rest))) :
    W p l e R s m args below meth c H locs cells slots Q (F0 m pc ls (As.reverse ++ .ref b :: rest)) := by
  have hPc : va_P D classes wc H := hP.sub isC (zk_fm hC)
  have hDc : va_D A wc := hD.sub isC hnC hC
  have hFc := va_free hD hS hA isC hC
  refine va_callr (va_runV (As := As) (rest := rest) S0 hM cw ⟨zPreO_blind, hrv, fun U hU hW => ⟨rfl, ⟨by rw [hU], by rw [hU]; exact hPc, va_K.moved hW.alike hK, hDc.weaken (fun _ _ _ _ => trivial)⟩, zO.warm hW hO⟩⟩ rfl hlen hsize rfl (lv_room hW) hdg hf) hS (fun q _ h => hFc q h) hFc (fun u a t H1 locs1 ht hvm hw hB hz1 hk1 hS1 => ?_)
  have hB : B0 u a ∧ va_P D classes (w2 u a) t.heap ∧ va_D (va_A wc H.size) (w2 u a) := hB
  rw [ht] at hB
  obtain ⟨hP2, hD2⟩ := va_join hP hD isC isR hC hR hn hdis hk1 hFc hB.2.1 hB.2.2
  exact kk u a H1 locs1 hw hB.1 hP2 hD2 hS1
end ZKO
abbrev z_X8_blank : List Cond := .code yX8_blank cX8_blank 1 (some (.object "AlreadyJudged$Suit")) :: zW
abbrev rm_X8_blank : Room := { frames := 2, cells := 2, slots := 47, locals := 40 }
set_option maxHeartbeats 4000000 in
set_option maxRecDepth 100000 in
theorem c_X8_blankN (l : Launch) (D : va_G) (cs : Nat → ClassId) (ad : Nat → Nat) (sz : Nat) (a1 a2 a3 : Int32) : Met l yX8_blank z_X8_blank rm_X8_blank (va_Pc [.ref (ad 25)] (zPreO D cs [((ad 25), .inr (8, [.ref (ad 23), .null, .int a1, .int a2, .int a3]))] sz)) (va_Qr (fun (_ : Nat) => True) (fun (b : Nat) (a : Nat) (t : State) => True ∧ va_P D classes [((ad 25), .inr (8, [.ref (ad 23), .null, .int a1, .int a2, .int a3])), (a, .inr (7, [.int 0, .int 0, .int 0, .int 0, .int 0, .int 0, .int (-1), .ref b, .int 0, .int 0, .int 0, .int 0, .int 0, .int 0, .int 0])), (b, .inl (cs 0, 32, .inl (fun _ => 0)))] t.heap ∧ va_D (va_A [((ad 25), .inr (8, [.ref (ad 23), .null, .int a1, .int a2, .int a3]))] sz) [((ad 25), .inr (8, [.ref (ad 23), .null, .int a1, .int a2, .int a3])), (a, .inr (7, [.int 0, .int 0, .int 0, .int 0, .int 0, .int 0, .int (-1), .ref b, .int 0, .int 0, .int 0, .int 0, .int 0, .int 0, .int 0])), (b, .inl (cs 0, 32, .inl (fun _ => 0)))]) (va_A [((ad 25), .inr (8, [.ref (ad 23), .null, .int a1, .int a2, .int a3]))] sz)) 2 47 (va_A [((ad 25), .inr (8, [.ref (ad 23), .null, .int a1, .int a2, .int a3]))] sz) := by
  refine Met.ofW (cc := cX8_blank) (maxL := 1) (ret := (some (.object "AlreadyJudged$Suit"))) (by decide) rfl ?_
  intro p e s m args below meth c s₁ B hml hv
  obtain ⟨rfl, ⟨hsz, hP, hK, hD0⟩, hO⟩ := hv
  subst hsz
  have hD := hD0.self (sz := s.heap.size)
  have C0 : zC p s m _ meth c cX8_blank 1 (some (.object "AlreadyJudged$Suit")) RX8 zW := ⟨B.exec, B.bytes, B.returns, hml, findClass_of_methodNamed B.named, fun w hw => atoms_spec (ws := z_X8_blank) B.pre w (List.mem_cons_of_mem _ hw), B.notSynchronized⟩
  obtain ⟨hx, hb, hr, hml, hown, ht, hlocks⟩ := id C0
  generalize hAe : va_A [((ad 25), .inr (8, [.ref (ad 23), .null, .int a1, .int a2, .int a3]))] s.heap.size = A at hD ⊢
  have hA : ∀ q : Nat, s.heap.size ≤ q → A q := fun q h => by rw [← hAe]; exact Or.inr h
  have hS : va_S A s.heap s.heap [] := va_S.rf
  have hl := lv_entry ([.ref (ad 25)]) (n := 1) (Nat.le_of_ble_eq_true rfl)
  rw [lg_entry_eq]
  generalize (lg_sl ([.ref (ad 25)]) ++ List.replicate (1 - (lg_sl ([.ref (ad 25)])).length) Slot.unset).toArray = ls at hl ⊢
  obtain ⟨H, hH⟩ : ∃ H, H = s.heap := ⟨_, rfl⟩
  have hS : va_S A s.heap H [] := by rw [hH]; exact va_S.rf
  rw [← hH]
  have hP : va_P D classes [((ad 25), .inr (8, [.ref (ad 23), .null, .int a1, .int a2, .int a3]))] H := by rw [hH]; exact hP
  clear hH
  have hl : lv_has ls 1 [(0, .ref (ad 25))] := hl
  refine lv_aload_n hx hb dX8_blank_0 rfl (lv_at hl 0 rfl) ?_
  refine va_get (D := D) (ci := 8) (v := .null) (C := RX8) (T := TX8) (N := 5) hx hb ht iX8 hown hK hP 0 rfl rfl 1 (by decide) (ht _ kw_252) (fun _ h9 => h9) rfl dX8_blank_1 ?_
  refine lv_ifnonnullN hx hb dX8_blank_4 ?_
  refine va_new (ci := 7) (fs := [.int 0, .int 0, .int 0, .int 0, .int 0, .int 0, .int 0, .null, .int 0, .int 0, .int 0, .int 0, .int 0, .int 0, .int 0]) (C := RX7) (T := TX7) (N := 15) hx hb ht iX7 tyX7 tyX7_ok hown (ht _ kw_875) (ht _ kw_298) (ht _ kw_82) hK hP hD hS hA rfl (zkDX7) (Nat.le_of_ble_eq_true rfl) (Nat.le_of_ble_eq_true rfl) dX8_blank_7 (fun su H hP hD hS => ?_)
  have hP : va_P D classes [((ad 25), .inr (8, [.ref (ad 23), .null, .int a1, .int a2, .int a3])), (su, .inr (7, [.int 0, .int 0, .int 0, .int 0, .int 0, .int 0, .int 0, .null, .int 0, .int 0, .int 0, .int 0, .int 0, .int 0, .int 0]))] H := hP
  have hD : va_D A [((ad 25), .inr (8, [.ref (ad 23), .null, .int a1, .int a2, .int a3])), (su, .inr (7, [.int 0, .int 0, .int 0, .int 0, .int 0, .int 0, .int 0, .null, .int 0, .int 0, .int 0, .int 0, .int 0, .int 0, .int 0]))] := hD
  refine lv_dup hx hb dX8_blank_10 rfl ?_
  refine zk_jv (post := fun _ => True) (w1 := fun (u : Nat → Nat) => [(su, .inr (7, [.int 0, .int 0, .int 0, .int 0, .int 0, .int 0, .int (-1 : Int32), .ref (u 0), .int 0, .int 0, .int 0, .int 0, .int 0, .int 0, .int 0])), ((u 0), .inl (cs 0, 32, .inl (fun _ => 0)))]) (As := []) (rest := [.ref su]) (ci_X7_init l D cs su H.size) ⟨hx, hb, hml, hown, ht⟩ (⟨va_cnB 0 ht (zGN kw_301) rfl rfl rfl (zOn (q := (RX8, 58, yX7_init)) hO 7 rfl) (ht _ kw_82) (by decide +kernel) ⟨Nat.le_of_ble_eq_true rfl, Nat.le_of_ble_eq_true rfl⟩, rfl, ht _ kw_300⟩) hP hD hS hK hA [1] [0] rfl rfl rfl rfl (by decide) rfl hl.1 (Nat.le_of_ble_eq_true rfl) dX8_blank_11 ⟨Nat.le_of_ble_eq_true rfl, Nat.le_of_ble_eq_true rfl⟩ (fun u H locs hq hP hD hS => ?_)
  obtain ⟨q, hq0⟩ : ∃ q, q = u 0 := ⟨_, rfl⟩
  have hP : va_P D classes [((ad 25), .inr (8, [.ref (ad 23), .null, .int a1, .int a2, .int a3])), (su, .inr (7, [.int 0, .int 0, .int 0, .int 0, .int 0, .int 0, .int (-1), .ref q, .int 0, .int 0, .int 0, .int 0, .int 0, .int 0, .int 0])), (q, .inl (cs 0, 32, .inl (fun _ => 0)))] H := by rw [hq0]; exact hP.sub [0, 1, 2] rfl
  have hD : va_D A [((ad 25), .inr (8, [.ref (ad 23), .null, .int a1, .int a2, .int a3])), (su, .inr (7, [.int 0, .int 0, .int 0, .int 0, .int 0, .int 0, .int (-1), .ref q, .int 0, .int 0, .int 0, .int 0, .int 0, .int 0, .int 0])), (q, .inl (cs 0, 32, .inl (fun _ => 0)))] := by rw [hq0]; exact hD.sub [0, 1, 2] rfl rfl
  refine W.widen (k := 2) (n := 47) (Nat.le_of_ble_eq_true rfl) (Nat.le_of_ble_eq_true rfl) ?_
  exact W.aret (v := .ref su) hx hb hr (Or.inl ⟨_, rfl⟩) (Or.inr ⟨_, rfl⟩) (fun t ht2 hW => ⟨⟨q, su, rfl, trivial, trivial, by rw [ht2]; exact hP, hD⟩, hS.F ht2⟩) hS.2.2 dX8_blank_14 hlocks
theorem zsf (s_who : Int32) (s_against : Int32) (s_kind : Int32) (s_won : Int32) (s_day : Int32) (s_land : Int32) (s_undoneFrom : Int32) (s_asked : Nat → Int32) (s_askedCount : Int32) (s_askedBits : Int32) (s_first : Int32) (s_foundSo : Int32) (s_foundNot : Int32) (s_fought : Int32) (s_needed : Int32) : f_X7_forget s_who s_against s_kind s_won s_day s_land s_undoneFrom s_askedCount s_askedBits s_first s_foundSo s_foundNot s_fought s_needed = some (0, 0, 0, 0, 0, 0, 0) := rfl
theorem g_blank_forget : GoodIn zW (wsV RX8 59 RX7 yX7_forget z_X7_forget) := zGV kw_877 kw_878 kw_879 kw_82 kw_880
set_option maxHeartbeats 4000000 in
set_option maxRecDepth 100000 in
theorem c_X8_blankS (l : Launch) (D : va_G) (cs : Nat → ClassId) (ad : Nat → Nat) (sz : Nat) (a1 a2 a3 : Int32) (su q : Nat) (s_who : Int32) (s_against : Int32) (s_kind : Int32) (s_won : Int32) (s_day : Int32) (s_land : Int32) (s_undoneFrom : Int32) (s_asked : Nat → Int32) (s_askedCount : Int32) (s_askedBits : Int32) (s_first : Int32) (s_foundSo : Int32) (s_foundNot : Int32) (s_fought : Int32) (s_needed : Int32) : Met l yX8_blank z_X8_blank rm_X8_blank (va_Pc [.ref (ad 25)] (zPreO D cs [((ad 25), .inr (8, [.ref (ad 23), .ref su, .int a1, .int a2, .int a3])), (su, .inr (7, [.int s_who, .int s_against, .int s_kind, .int s_won, .int s_day, .int s_land, .int s_undoneFrom, .ref q, .int s_askedCount, .int s_askedBits, .int s_first, .int s_foundSo, .int s_foundNot, .int s_fought, .int s_needed])), (q, .inl (cs 0, 32, .inl s_asked))] sz)) (va_Qr (fun (_ : Nat) => True) (fun (b : Nat) (a : Nat) (t : State) => a = su ∧ va_P D classes [((ad 25), .inr (8, [.ref (ad 23), .ref a, .int a1, .int a2, .int a3])), (a, .inr (7, [.int s_who, .int s_against, .int s_kind, .int s_won, .int s_day, .int s_land, .int s_undoneFrom, .ref b, .int 0, .int 0, .int 0, .int 0, .int 0, .int 0, .int 0])), (b, .inl (cs 0, 32, .inl s_asked))] t.heap ∧ va_D (va_A [((ad 25), .inr (8, [.ref (ad 23), .ref su, .int a1, .int a2, .int a3])), (su, .inr (7, [.int s_who, .int s_against, .int s_kind, .int s_won, .int s_day, .int s_land, .int s_undoneFrom, .ref q, .int s_askedCount, .int s_askedBits, .int s_first, .int s_foundSo, .int s_foundNot, .int s_fought, .int s_needed])), (q, .inl (cs 0, 32, .inl s_asked))] sz) [((ad 25), .inr (8, [.ref (ad 23), .ref a, .int a1, .int a2, .int a3])), (a, .inr (7, [.int s_who, .int s_against, .int s_kind, .int s_won, .int s_day, .int s_land, .int s_undoneFrom, .ref b, .int 0, .int 0, .int 0, .int 0, .int 0, .int 0, .int 0])), (b, .inl (cs 0, 32, .inl s_asked))]) (va_A [((ad 25), .inr (8, [.ref (ad 23), .ref su, .int a1, .int a2, .int a3])), (su, .inr (7, [.int s_who, .int s_against, .int s_kind, .int s_won, .int s_day, .int s_land, .int s_undoneFrom, .ref q, .int s_askedCount, .int s_askedBits, .int s_first, .int s_foundSo, .int s_foundNot, .int s_fought, .int s_needed])), (q, .inl (cs 0, 32, .inl s_asked))] sz)) 2 47 (va_A [((ad 25), .inr (8, [.ref (ad 23), .ref su, .int a1, .int a2, .int a3])), (su, .inr (7, [.int s_who, .int s_against, .int s_kind, .int s_won, .int s_day, .int s_land, .int s_undoneFrom, .ref q, .int s_askedCount, .int s_askedBits, .int s_first, .int s_foundSo, .int s_foundNot, .int s_fought, .int s_needed])), (q, .inl (cs 0, 32, .inl s_asked))] sz) := by
  refine Met.ofW (cc := cX8_blank) (maxL := 1) (ret := (some (.object "AlreadyJudged$Suit"))) (by decide) rfl ?_
  intro p e s m args below meth c s₁ B hml hv
  obtain ⟨rfl, ⟨hsz, hP, hK, hD0⟩, hO⟩ := hv
  subst hsz
  have hD := hD0.self (sz := s.heap.size)
  have C0 : zC p s m _ meth c cX8_blank 1 (some (.object "AlreadyJudged$Suit")) RX8 zW := ⟨B.exec, B.bytes, B.returns, hml, findClass_of_methodNamed B.named, fun w hw => atoms_spec (ws := z_X8_blank) B.pre w (List.mem_cons_of_mem _ hw), B.notSynchronized⟩
  obtain ⟨hx, hb, hr, hml, hown, ht, hlocks⟩ := id C0
  generalize hAe : va_A [((ad 25), .inr (8, [.ref (ad 23), .ref su, .int a1, .int a2, .int a3])), (su, .inr (7, [.int s_who, .int s_against, .int s_kind, .int s_won, .int s_day, .int s_land, .int s_undoneFrom, .ref q, .int s_askedCount, .int s_askedBits, .int s_first, .int s_foundSo, .int s_foundNot, .int s_fought, .int s_needed])), (q, .inl (cs 0, 32, .inl s_asked))] s.heap.size = A at hD ⊢
  have hA : ∀ q : Nat, s.heap.size ≤ q → A q := fun q h => by rw [← hAe]; exact Or.inr h
  have hS : va_S A s.heap s.heap [] := va_S.rf
  have hl := lv_entry ([.ref (ad 25)]) (n := 1) (Nat.le_of_ble_eq_true rfl)
  rw [lg_entry_eq]
  generalize (lg_sl ([.ref (ad 25)]) ++ List.replicate (1 - (lg_sl ([.ref (ad 25)])).length) Slot.unset).toArray = ls at hl ⊢
  obtain ⟨H, hH⟩ : ∃ H, H = s.heap := ⟨_, rfl⟩
  have hS : va_S A s.heap H [] := by rw [hH]; exact va_S.rf
  rw [← hH]
  have hP : va_P D classes [((ad 25), .inr (8, [.ref (ad 23), .ref su, .int a1, .int a2, .int a3])), (su, .inr (7, [.int s_who, .int s_against, .int s_kind, .int s_won, .int s_day, .int s_land, .int s_undoneFrom, .ref q, .int s_askedCount, .int s_askedBits, .int s_first, .int s_foundSo, .int s_foundNot, .int s_fought, .int s_needed])), (q, .inl (cs 0, 32, .inl s_asked))] H := by rw [hH]; exact hP
  clear hH
  have hl : lv_has ls 1 [(0, .ref (ad 25))] := hl
  refine lv_aload_n hx hb dX8_blank_0 rfl (lv_at hl 0 rfl) ?_
  refine va_get (D := D) (ci := 8) (v := .ref su) (C := RX8) (T := TX8) (N := 5) hx hb ht iX8 hown hK hP 0 rfl rfl 1 (by decide) (ht _ kw_252) (fun _ h9 => h9) rfl dX8_blank_1 ?_
  refine lv_ifnonnull (tgt := 15) hx hb dX8_blank_4 (by decide) ?_
  refine lv_aload_n hx hb dX8_blank_15 rfl (lv_at hl 0 rfl) ?_
  refine va_get (D := D) (ci := 8) (v := .ref su) (C := RX8) (T := TX8) (N := 5) hx hb ht iX8 hown hK hP 0 rfl rfl 1 (by decide) (ht _ kw_252) (fun _ h9 => h9) rfl dX8_blank_16 ?_
  refine zk_vv (post := (fun u => u = (0, 0, 0, 0, 0, 0, 0))) (w1 := fun u => (wl_X7_forget ad cs su q s_who s_against s_kind s_won s_day s_land s_undoneFrom u.1 u.2.1 u.2.2.1 u.2.2.2.1 u.2.2.2.2.1 u.2.2.2.2.2.1 u.2.2.2.2.2.2)) (As := []) (rest := []) (c_X7_forget l D cs ad su q H.size s_who s_against s_kind s_won s_day s_land s_undoneFrom s_askedCount s_askedBits s_first s_foundSo s_foundNot s_fought s_needed (0, 0, 0, 0, 0, 0, 0) (zsf s_who s_against s_kind s_won s_day s_land s_undoneFrom s_asked s_askedCount s_askedBits s_first s_foundSo s_foundNot s_fought s_needed)) ⟨hx, hb, hml, hown, ht⟩ (cwV 0 ht g_blank_forget rfl rfl rfl (by decide +kernel) ⟨Nat.le_of_ble_eq_true rfl, Nat.le_of_ble_eq_true rfl⟩) (va_recv hK hP (ci := 7) (q0 := 1) rfl rfl) hP hD hS hK hA [1] [0, 2] rfl rfl rfl rfl (by decide) rfl hl.1 (Nat.le_of_ble_eq_true rfl) dX8_blank_19 ⟨Nat.zero_le _, Nat.zero_le _⟩ (fun u H locs hq hP hD hS => ?_)
  subst hq
  have hP : va_P D classes [((ad 25), .inr (8, [.ref (ad 23), .ref su, .int a1, .int a2, .int a3])), (su, .inr (7, [.int s_who, .int s_against, .int s_kind, .int s_won, .int s_day, .int s_land, .int s_undoneFrom, .ref q, .int 0, .int 0, .int 0, .int 0, .int 0, .int 0, .int 0])), (q, .inl (cs 0, 32, .inl s_asked))] H := hP.sub [0, 2, 1] rfl
  have hD : va_D A [((ad 25), .inr (8, [.ref (ad 23), .ref su, .int a1, .int a2, .int a3])), (su, .inr (7, [.int s_who, .int s_against, .int s_kind, .int s_won, .int s_day, .int s_land, .int s_undoneFrom, .ref q, .int 0, .int 0, .int 0, .int 0, .int 0, .int 0, .int 0])), (q, .inl (cs 0, 32, .inl s_asked))] := hD.sub [0, 2, 1] rfl rfl
  refine lv_aload_n hx hb dX8_blank_22 rfl (lv_at hl 0 rfl) ?_
  refine va_get (D := D) (ci := 8) (v := .ref su) (C := RX8) (T := TX8) (N := 5) hx hb ht iX8 hown hK hP 0 rfl rfl 1 (by decide) (ht _ kw_252) (fun _ h9 => h9) rfl dX8_blank_23 ?_
  refine W.widen (k := 2) (n := 47) (Nat.le_of_ble_eq_true rfl) (Nat.le_of_ble_eq_true rfl) ?_
  exact W.aret (v := .ref su) hx hb hr (Or.inl ⟨_, rfl⟩) (Or.inr ⟨_, rfl⟩) (fun t ht2 hW => ⟨⟨q, su, rfl, trivial, rfl, by rw [ht2]; exact hP, hD⟩, hS.F ht2⟩) hS.2.2 dX8_blank_26 hlocks
theorem g_blank : GoodIn zW (wsV RX8 22 RX8 yX8_blank z_X8_blank) := zGV kw_871 kw_872 kw_873 kw_79 kw_874
set_option maxHeartbeats 4000000 in
set_option maxRecDepth 100000 in
theorem c_X8_readN (l : Launch) (D : va_G) (cs : Nat → ClassId) (ad : Nat → Nat) (sz : Nat) (x1 : Int32) (ts : Int32) (tb : Nat → Int32) (a1 a2 a3 : Int32) (R : Value × Int32 × Int32 × Int32 × Int32 × Int32 × Int32 × Int32 × Int32 × Int32 × Int32 × Int32 × Int32 × Int32 × Int32 × Int32 × Int32 × (Nat → Int32)) (h : f_X8_read x1 ts tb .null 0 a2 (-1) 0 0 0 0 0 0 (-1) 0 0 0 0 0 0 0 (fun _ => 0) = some R) : Met l yX8_read z_X8_read rm_X8_read (va_Pc [.ref (ad 25), .int x1] (zPreO D cs [((ad 23), .inr (9, [.ref (ad 24), .int ts])), ((ad 24), .inl (cs 0, 120, .inl tb)), ((ad 25), .inr (8, [.ref (ad 23), .null, .int a1, .int a2, .int a3]))] sz)) (Q_X8_read D cs ad ts tb (-1) (va_A [((ad 23), .inr (9, [.ref (ad 24), .int ts])), ((ad 24), .inl (cs 0, 120, .inl tb)), ((ad 25), .inr (8, [.ref (ad 23), .null, .int a1, .int a2, .int a3]))] sz) R) 2 47 (va_A [((ad 23), .inr (9, [.ref (ad 24), .int ts])), ((ad 24), .inl (cs 0, 120, .inl tb)), ((ad 25), .inr (8, [.ref (ad 23), .null, .int a1, .int a2, .int a3]))] sz) := by
  refine Met.ofW (cc := cX8_read) (maxL := 3) (ret := (some (.object "AlreadyJudged$Suit"))) (by decide) rfl ?_
  intro p e s m args below meth c s₁ B hml hv
  obtain ⟨rfl, ⟨hsz, hP, hK, hD0⟩, hO⟩ := hv
  subst hsz
  have hD := hD0.self (sz := s.heap.size)
  have C0 : zC p s m _ meth c cX8_read 3 (some (.object "AlreadyJudged$Suit")) RX8 zW := ⟨B.exec, B.bytes, B.returns, hml, findClass_of_methodNamed B.named, fun w hw => atoms_spec (ws := z_X8_read) B.pre w (List.mem_cons_of_mem _ hw), B.notSynchronized⟩
  obtain ⟨hx, hb, hr, hml, hown, ht, hlocks⟩ := id C0
  generalize hAe : va_A [((ad 23), .inr (9, [.ref (ad 24), .int ts])), ((ad 24), .inl (cs 0, 120, .inl tb)), ((ad 25), .inr (8, [.ref (ad 23), .null, .int a1, .int a2, .int a3]))] s.heap.size = A at hD ⊢
  have hA : ∀ q : Nat, s.heap.size ≤ q → A q := fun q h => by rw [← hAe]; exact Or.inr h
  have hS : va_S A s.heap s.heap [] := va_S.rf
  have hl := lv_entry ([.ref (ad 25), .int x1]) (n := 3) (Nat.le_of_ble_eq_true rfl)
  rw [lg_entry_eq]
  generalize (lg_sl ([.ref (ad 25), .int x1]) ++ List.replicate (3 - (lg_sl ([.ref (ad 25), .int x1])).length) Slot.unset).toArray = ls at hl ⊢
  obtain ⟨H, hH⟩ : ∃ H, H = s.heap := ⟨_, rfl⟩
  have hS : va_S A s.heap H [] := by rw [hH]; exact va_S.rf
  rw [← hH]
  have hP : va_P D classes [((ad 23), .inr (9, [.ref (ad 24), .int ts])), ((ad 24), .inl (cs 0, 120, .inl tb)), ((ad 25), .inr (8, [.ref (ad 23), .null, .int a1, .int a2, .int a3]))] H := by rw [hH]; exact hP
  clear hH
  have hl : lv_has ls 3 [(0, .ref (ad 25)), (1, .int x1)] := hl
  refine lv_aload_n hx hb dX8_read_0 rfl (lv_at hl 0 rfl) ?_
  refine lv_iconst (v := (0 : Int32)) hx hb dX8_read_1 (by decide) ?_
  refine va_put (D := D) (ci := 8) (v := .int (0 : Int32)) (ty := .int) (C := RX8) (T := TX8) (N := 5) hx hb ht iX8 tyX8 tyX8_ok nmX8 hown hK hP hD hS 2 rfl rfl 2 (by decide) (ht _ kw_253) (fun _ h9 => h9) rfl (by decide +kernel) rfl rfl (Nat.le_of_ble_eq_true rfl) dX8_read_2 (fun H locs hP hD hS => ?_)
  have hP : va_P D classes [((ad 23), .inr (9, [.ref (ad 24), .int ts])), ((ad 24), .inl (cs 0, 120, .inl tb)), ((ad 25), .inr (8, [.ref (ad 23), .null, .int (0 : Int32), .int a2, .int a3]))] H := hP
  have hD : va_D A [((ad 23), .inr (9, [.ref (ad 24), .int ts])), ((ad 24), .inl (cs 0, 120, .inl tb)), ((ad 25), .inr (8, [.ref (ad 23), .null, .int (0 : Int32), .int a2, .int a3]))] := hD
  refine lv_aload_n hx hb dX8_read_5 rfl (lv_at hl 0 rfl) ?_
  refine lv_iconst (v := (-1 : Int32)) hx hb dX8_read_6 (by decide) ?_
  refine va_put (D := D) (ci := 8) (v := .int (-1 : Int32)) (ty := .int) (C := RX8) (T := TX8) (N := 5) hx hb ht iX8 tyX8 tyX8_ok nmX8 hown hK hP hD hS 2 rfl rfl 4 (by decide) (ht _ kw_255) (fun _ h9 => h9) rfl (by decide +kernel) rfl rfl (Nat.le_of_ble_eq_true rfl) dX8_read_7 (fun H locs hP hD hS => ?_)
  have hP : va_P D classes [((ad 23), .inr (9, [.ref (ad 24), .int ts])), ((ad 24), .inl (cs 0, 120, .inl tb)), ((ad 25), .inr (8, [.ref (ad 23), .null, .int (0 : Int32), .int a2, .int (-1 : Int32)]))] H := hP
  have hD : va_D A [((ad 23), .inr (9, [.ref (ad 24), .int ts])), ((ad 24), .inl (cs 0, 120, .inl tb)), ((ad 25), .inr (8, [.ref (ad 23), .null, .int (0 : Int32), .int a2, .int (-1 : Int32)]))] := hD
  refine lv_aload_n hx hb dX8_read_10 rfl (lv_at hl 0 rfl) ?_
  refine zk_vrO (post := fun (_ : Nat) => True) (B0 := fun (b : Nat) (a : Nat) => True) (w2 := fun (b : Nat) (a : Nat) => [((ad 25), .inr (8, [.ref (ad 23), .null, .int 0, .int a2, .int (-1)])), (a, .inr (7, [.int 0, .int 0, .int 0, .int 0, .int 0, .int 0, .int (-1), .ref b, .int 0, .int 0, .int 0, .int 0, .int 0, .int 0, .int 0])), (b, .inl (cs 0, 32, .inl (fun _ => 0)))]) (As := []) (rest := []) hO (c_X8_blankN l D cs ad H.size 0 a2 (-1)) ⟨hx, hb, hml, hown, ht⟩ (cwV 0 ht g_blank rfl rfl rfl (by decide +kernel) ⟨Nat.le_of_ble_eq_true rfl, Nat.le_of_ble_eq_true rfl⟩) (va_recv hK hP (ci := 8) (q0 := 2) rfl rfl) hP hD hS hK hA [2] [0, 1] rfl rfl rfl rfl (by decide) rfl hl.1 (Nat.le_of_ble_eq_true rfl) dX8_read_11 ⟨Nat.le_of_ble_eq_true rfl, Nat.le_of_ble_eq_true rfl⟩ (fun h_su_asked h_su H locs hq hq0 hP hD hS => ?_)
  have hP : va_P D classes (wl_X8_read ad cs h_su h_su_asked ts tb .null 0 a2 (-1) 0 0 0 0 0 0 (-1) 0 0 0 0 0 0 0 (fun _ => 0)) H := hP.sub [0, 1, 2, 3, 4] rfl
  have hD : va_D A (wl_X8_read ad cs h_su h_su_asked ts tb .null 0 a2 (-1) 0 0 0 0 0 0 (-1) 0 0 0 0 0 0 0 (fun _ => 0)) := hD.sub [0, 1, 2, 3, 4] rfl rfl
  refine lv_astore_n (lv' := [(2, .ref h_su), (0, .ref (ad 25)), (1, .int x1)]) hx hb dX8_read_14 rfl hl (by decide) rfl (fun ls hl => ?_)
  refine W.widen (k := 2) (n := 47) (Nat.le_of_ble_eq_true rfl) (Nat.le_of_ble_eq_true rfl) ?_
  exact L_X8_read_0 C0 hK hA x1 .null 0 a2 (-1) 0 0 0 0 0 0 0 0 0 0 0 0 0 (fun _ => 0) h H locs ls hP hD hS (lv_sub hl [1, 2, 0] rfl)
set_option maxHeartbeats 4000000 in
set_option maxRecDepth 100000 in
theorem c_X8_readS (l : Launch) (D : va_G) (cs : Nat → ClassId) (ad : Nat → Nat) (sz : Nat) (x1 : Int32) (ts : Int32) (tb : Nat → Int32) (a1 a2 a3 : Int32) (su q : Nat) (s_who : Int32) (s_against : Int32) (s_kind : Int32) (s_won : Int32) (s_day : Int32) (s_land : Int32) (s_undoneFrom : Int32) (s_asked : Nat → Int32) (s_askedCount : Int32) (s_askedBits : Int32) (s_first : Int32) (s_foundSo : Int32) (s_foundNot : Int32) (s_fought : Int32) (s_needed : Int32) (R : Value × Int32 × Int32 × Int32 × Int32 × Int32 × Int32 × Int32 × Int32 × Int32 × Int32 × Int32 × Int32 × Int32 × Int32 × Int32 × Int32 × (Nat → Int32)) (h : f_X8_read x1 ts tb (.ref su) 0 a2 (-1) s_who s_against s_kind s_won s_day s_land s_undoneFrom 0 0 0 0 0 0 0 s_asked = some R) : Met l yX8_read z_X8_read rm_X8_read (va_Pc [.ref (ad 25), .int x1] (zPreO D cs [((ad 23), .inr (9, [.ref (ad 24), .int ts])), ((ad 24), .inl (cs 0, 120, .inl tb)), ((ad 25), .inr (8, [.ref (ad 23), .ref su, .int a1, .int a2, .int a3])), (su, .inr (7, [.int s_who, .int s_against, .int s_kind, .int s_won, .int s_day, .int s_land, .int s_undoneFrom, .ref q, .int s_askedCount, .int s_askedBits, .int s_first, .int s_foundSo, .int s_foundNot, .int s_fought, .int s_needed])), (q, .inl (cs 0, 32, .inl s_asked))] sz)) (Q_X8_read D cs ad ts tb s_undoneFrom (va_A [((ad 23), .inr (9, [.ref (ad 24), .int ts])), ((ad 24), .inl (cs 0, 120, .inl tb)), ((ad 25), .inr (8, [.ref (ad 23), .ref su, .int a1, .int a2, .int a3])), (su, .inr (7, [.int s_who, .int s_against, .int s_kind, .int s_won, .int s_day, .int s_land, .int s_undoneFrom, .ref q, .int s_askedCount, .int s_askedBits, .int s_first, .int s_foundSo, .int s_foundNot, .int s_fought, .int s_needed])), (q, .inl (cs 0, 32, .inl s_asked))] sz) R) 2 47 (va_A [((ad 23), .inr (9, [.ref (ad 24), .int ts])), ((ad 24), .inl (cs 0, 120, .inl tb)), ((ad 25), .inr (8, [.ref (ad 23), .ref su, .int a1, .int a2, .int a3])), (su, .inr (7, [.int s_who, .int s_against, .int s_kind, .int s_won, .int s_day, .int s_land, .int s_undoneFrom, .ref q, .int s_askedCount, .int s_askedBits, .int s_first, .int s_foundSo, .int s_foundNot, .int s_fought, .int s_needed])), (q, .inl (cs 0, 32, .inl s_asked))] sz) := by
  refine Met.ofW (cc := cX8_read) (maxL := 3) (ret := (some (.object "AlreadyJudged$Suit"))) (by decide) rfl ?_
  intro p e s m args below meth c s₁ B hml hv
  obtain ⟨rfl, ⟨hsz, hP, hK, hD0⟩, hO⟩ := hv
  subst hsz
  have hD := hD0.self (sz := s.heap.size)
  have C0 : zC p s m _ meth c cX8_read 3 (some (.object "AlreadyJudged$Suit")) RX8 zW := ⟨B.exec, B.bytes, B.returns, hml, findClass_of_methodNamed B.named, fun w hw => atoms_spec (ws := z_X8_read) B.pre w (List.mem_cons_of_mem _ hw), B.notSynchronized⟩
  obtain ⟨hx, hb, hr, hml, hown, ht, hlocks⟩ := id C0
  generalize hAe : va_A [((ad 23), .inr (9, [.ref (ad 24), .int ts])), ((ad 24), .inl (cs 0, 120, .inl tb)), ((ad 25), .inr (8, [.ref (ad 23), .ref su, .int a1, .int a2, .int a3])), (su, .inr (7, [.int s_who, .int s_against, .int s_kind, .int s_won, .int s_day, .int s_land, .int s_undoneFrom, .ref q, .int s_askedCount, .int s_askedBits, .int s_first, .int s_foundSo, .int s_foundNot, .int s_fought, .int s_needed])), (q, .inl (cs 0, 32, .inl s_asked))] s.heap.size = A at hD ⊢
  have hA : ∀ q : Nat, s.heap.size ≤ q → A q := fun q h => by rw [← hAe]; exact Or.inr h
  have hS : va_S A s.heap s.heap [] := va_S.rf
  have hl := lv_entry ([.ref (ad 25), .int x1]) (n := 3) (Nat.le_of_ble_eq_true rfl)
  rw [lg_entry_eq]
  generalize (lg_sl ([.ref (ad 25), .int x1]) ++ List.replicate (3 - (lg_sl ([.ref (ad 25), .int x1])).length) Slot.unset).toArray = ls at hl ⊢
  obtain ⟨H, hH⟩ : ∃ H, H = s.heap := ⟨_, rfl⟩
  have hS : va_S A s.heap H [] := by rw [hH]; exact va_S.rf
  rw [← hH]
  have hP : va_P D classes [((ad 23), .inr (9, [.ref (ad 24), .int ts])), ((ad 24), .inl (cs 0, 120, .inl tb)), ((ad 25), .inr (8, [.ref (ad 23), .ref su, .int a1, .int a2, .int a3])), (su, .inr (7, [.int s_who, .int s_against, .int s_kind, .int s_won, .int s_day, .int s_land, .int s_undoneFrom, .ref q, .int s_askedCount, .int s_askedBits, .int s_first, .int s_foundSo, .int s_foundNot, .int s_fought, .int s_needed])), (q, .inl (cs 0, 32, .inl s_asked))] H := by rw [hH]; exact hP
  clear hH
  have hl : lv_has ls 3 [(0, .ref (ad 25)), (1, .int x1)] := hl
  refine lv_aload_n hx hb dX8_read_0 rfl (lv_at hl 0 rfl) ?_
  refine lv_iconst (v := (0 : Int32)) hx hb dX8_read_1 (by decide) ?_
  refine va_put (D := D) (ci := 8) (v := .int (0 : Int32)) (ty := .int) (C := RX8) (T := TX8) (N := 5) hx hb ht iX8 tyX8 tyX8_ok nmX8 hown hK hP hD hS 2 rfl rfl 2 (by decide) (ht _ kw_253) (fun _ h9 => h9) rfl (by decide +kernel) rfl rfl (Nat.le_of_ble_eq_true rfl) dX8_read_2 (fun H locs hP hD hS => ?_)
  have hP : va_P D classes [((ad 23), .inr (9, [.ref (ad 24), .int ts])), ((ad 24), .inl (cs 0, 120, .inl tb)), ((ad 25), .inr (8, [.ref (ad 23), .ref su, .int (0 : Int32), .int a2, .int a3])), (su, .inr (7, [.int s_who, .int s_against, .int s_kind, .int s_won, .int s_day, .int s_land, .int s_undoneFrom, .ref q, .int s_askedCount, .int s_askedBits, .int s_first, .int s_foundSo, .int s_foundNot, .int s_fought, .int s_needed])), (q, .inl (cs 0, 32, .inl s_asked))] H := hP
  have hD : va_D A [((ad 23), .inr (9, [.ref (ad 24), .int ts])), ((ad 24), .inl (cs 0, 120, .inl tb)), ((ad 25), .inr (8, [.ref (ad 23), .ref su, .int (0 : Int32), .int a2, .int a3])), (su, .inr (7, [.int s_who, .int s_against, .int s_kind, .int s_won, .int s_day, .int s_land, .int s_undoneFrom, .ref q, .int s_askedCount, .int s_askedBits, .int s_first, .int s_foundSo, .int s_foundNot, .int s_fought, .int s_needed])), (q, .inl (cs 0, 32, .inl s_asked))] := hD
  refine lv_aload_n hx hb dX8_read_5 rfl (lv_at hl 0 rfl) ?_
  refine lv_iconst (v := (-1 : Int32)) hx hb dX8_read_6 (by decide) ?_
  refine va_put (D := D) (ci := 8) (v := .int (-1 : Int32)) (ty := .int) (C := RX8) (T := TX8) (N := 5) hx hb ht iX8 tyX8 tyX8_ok nmX8 hown hK hP hD hS 2 rfl rfl 4 (by decide) (ht _ kw_255) (fun _ h9 => h9) rfl (by decide +kernel) rfl rfl (Nat.le_of_ble_eq_true rfl) dX8_read_7 (fun H locs hP hD hS => ?_)
  have hP : va_P D classes [((ad 23), .inr (9, [.ref (ad 24), .int ts])), ((ad 24), .inl (cs 0, 120, .inl tb)), ((ad 25), .inr (8, [.ref (ad 23), .ref su, .int (0 : Int32), .int a2, .int (-1 : Int32)])), (su, .inr (7, [.int s_who, .int s_against, .int s_kind, .int s_won, .int s_day, .int s_land, .int s_undoneFrom, .ref q, .int s_askedCount, .int s_askedBits, .int s_first, .int s_foundSo, .int s_foundNot, .int s_fought, .int s_needed])), (q, .inl (cs 0, 32, .inl s_asked))] H := hP
  have hD : va_D A [((ad 23), .inr (9, [.ref (ad 24), .int ts])), ((ad 24), .inl (cs 0, 120, .inl tb)), ((ad 25), .inr (8, [.ref (ad 23), .ref su, .int (0 : Int32), .int a2, .int (-1 : Int32)])), (su, .inr (7, [.int s_who, .int s_against, .int s_kind, .int s_won, .int s_day, .int s_land, .int s_undoneFrom, .ref q, .int s_askedCount, .int s_askedBits, .int s_first, .int s_foundSo, .int s_foundNot, .int s_fought, .int s_needed])), (q, .inl (cs 0, 32, .inl s_asked))] := hD
  refine lv_aload_n hx hb dX8_read_10 rfl (lv_at hl 0 rfl) ?_
  refine zk_vrO (post := fun (_ : Nat) => True) (B0 := fun (b : Nat) (a : Nat) => a = su) (w2 := fun (b : Nat) (a : Nat) => [((ad 25), .inr (8, [.ref (ad 23), .ref a, .int 0, .int a2, .int (-1)])), (a, .inr (7, [.int s_who, .int s_against, .int s_kind, .int s_won, .int s_day, .int s_land, .int s_undoneFrom, .ref b, .int 0, .int 0, .int 0, .int 0, .int 0, .int 0, .int 0])), (b, .inl (cs 0, 32, .inl s_asked))]) (As := []) (rest := []) hO (c_X8_blankS l D cs ad H.size 0 a2 (-1) su q s_who s_against s_kind s_won s_day s_land s_undoneFrom s_asked s_askedCount s_askedBits s_first s_foundSo s_foundNot s_fought s_needed) ⟨hx, hb, hml, hown, ht⟩ (cwV 0 ht g_blank rfl rfl rfl (by decide +kernel) ⟨Nat.le_of_ble_eq_true rfl, Nat.le_of_ble_eq_true rfl⟩) (va_recv hK hP (ci := 8) (q0 := 2) rfl rfl) hP hD hS hK hA [2, 3, 4] [0, 1] rfl rfl rfl rfl (by decide) rfl hl.1 (Nat.le_of_ble_eq_true rfl) dX8_read_11 ⟨Nat.le_of_ble_eq_true rfl, Nat.le_of_ble_eq_true rfl⟩ (fun h_su_asked h_su H locs hq hq0 hP hD hS => ?_)
  subst hq0
  have hP : va_P D classes (wl_X8_read ad cs h_su h_su_asked ts tb (.ref h_su) 0 a2 (-1) s_who s_against s_kind s_won s_day s_land s_undoneFrom 0 0 0 0 0 0 0 s_asked) H := hP.sub [0, 1, 2, 3, 4] rfl
  have hD : va_D A (wl_X8_read ad cs h_su h_su_asked ts tb (.ref h_su) 0 a2 (-1) s_who s_against s_kind s_won s_day s_land s_undoneFrom 0 0 0 0 0 0 0 s_asked) := hD.sub [0, 1, 2, 3, 4] rfl rfl
  refine lv_astore_n (lv' := [(2, .ref h_su), (0, .ref (ad 25)), (1, .int x1)]) hx hb dX8_read_14 rfl hl (by decide) rfl (fun ls hl => ?_)
  refine W.widen (k := 2) (n := 47) (Nat.le_of_ble_eq_true rfl) (Nat.le_of_ble_eq_true rfl) ?_
  exact L_X8_read_0 C0 hK hA x1 (.ref h_su) 0 a2 (-1) s_who s_against s_kind s_won s_day s_land 0 0 0 0 0 0 0 s_asked h H locs ls hP hD hS (lv_sub hl [1, 2, 0] rfl)
abbrev z_X2_addSuit : List Cond := .code yX2_addSuit cX2_addSuit 2 (some .int) :: zW
abbrev rm_X2_addSuit : Room := { frames := 0, cells := 0, slots := 0, locals := 0 }
set_option maxHeartbeats 4000000 in
set_option maxRecDepth 100000 in
theorem c_X2_addSuit (l : Launch) (D : va_G) (cs : Nat → ClassId) (sz : Nat) (c_shoePerson : Nat) (c_shoeOther : Nat) (c_shoeSort : Nat) (c_shoeDay : Nat) (c_claimWho : Nat) (c_claimAgainst : Nat) (c_claimFact : Nat) (c_claimPlea : Nat) (c_suits : Nat) (c_laws : Nat) (c_shoeCount : Int32) (c_claimCount : Int32) (c_suitCount : Int32) (h_c su : Nat) (f : Nat → Option Nat) (fs : List Value) (hlt : c_suitCount < 40) (hix : vp_in c_suitCount 40) : Met l yX2_addSuit z_X2_addSuit rm_X2_addSuit (va_Pc [.ref h_c, .ref su] (zPre D cs [(h_c, .inr (2, [.ref c_shoePerson, .ref c_shoeOther, .ref c_shoeSort, .ref c_shoeDay, .ref c_claimWho, .ref c_claimAgainst, .ref c_claimFact, .ref c_claimPlea, .ref c_suits, .ref c_laws, .int c_shoeCount, .int c_claimCount, .int c_suitCount])), (c_suits, .inl (cs 5, 40, .inr (.inr (.inr (.inr f))))), (su, .inr (7, fs))] sz)) (va_Qi (fun (r : Int32) (_ : Unit) => r = (c_suitCount + (1 : Int32)) - (1 : Int32)) (fun (_ : Unit) (t : State) => va_P D classes [(h_c, .inr (2, [.ref c_shoePerson, .ref c_shoeOther, .ref c_shoeSort, .ref c_shoeDay, .ref c_claimWho, .ref c_claimAgainst, .ref c_claimFact, .ref c_claimPlea, .ref c_suits, .ref c_laws, .int c_shoeCount, .int c_claimCount, .int (c_suitCount + (1 : Int32))])), (c_suits, .inl (cs 5, 40, .inr (.inr (.inr (.inr (va_up f c_suitCount.toNatClampNeg (some su))))))), (su, .inr (7, fs))] t.heap ∧ va_D (va_A [(h_c, .inr (2, [.ref c_shoePerson, .ref c_shoeOther, .ref c_shoeSort, .ref c_shoeDay, .ref c_claimWho, .ref c_claimAgainst, .ref c_claimFact, .ref c_claimPlea, .ref c_suits, .ref c_laws, .int c_shoeCount, .int c_claimCount, .int c_suitCount])), (c_suits, .inl (cs 5, 40, .inr (.inr (.inr (.inr f))))), (su, .inr (7, fs))] sz) [(h_c, .inr (2, [.ref c_shoePerson, .ref c_shoeOther, .ref c_shoeSort, .ref c_shoeDay, .ref c_claimWho, .ref c_claimAgainst, .ref c_claimFact, .ref c_claimPlea, .ref c_suits, .ref c_laws, .int c_shoeCount, .int c_claimCount, .int (c_suitCount + (1 : Int32))])), (c_suits, .inl (cs 5, 40, .inr (.inr (.inr (.inr (va_up f c_suitCount.toNatClampNeg (some su))))))), (su, .inr (7, fs))]) (va_A [(h_c, .inr (2, [.ref c_shoePerson, .ref c_shoeOther, .ref c_shoeSort, .ref c_shoeDay, .ref c_claimWho, .ref c_claimAgainst, .ref c_claimFact, .ref c_claimPlea, .ref c_suits, .ref c_laws, .int c_shoeCount, .int c_claimCount, .int c_suitCount])), (c_suits, .inl (cs 5, 40, .inr (.inr (.inr (.inr f))))), (su, .inr (7, fs))] sz)) 0 0 (va_A [(h_c, .inr (2, [.ref c_shoePerson, .ref c_shoeOther, .ref c_shoeSort, .ref c_shoeDay, .ref c_claimWho, .ref c_claimAgainst, .ref c_claimFact, .ref c_claimPlea, .ref c_suits, .ref c_laws, .int c_shoeCount, .int c_claimCount, .int c_suitCount])), (c_suits, .inl (cs 5, 40, .inr (.inr (.inr (.inr f))))), (su, .inr (7, fs))] sz) := by
  refine Met.ofW (cc := cX2_addSuit) (maxL := 2) (ret := (some .int)) (by decide) rfl ?_
  intro p e s m args below meth c s₁ B hml hv
  obtain ⟨rfl, hsz, hP, hK, hD0⟩ := hv
  subst hsz
  have hD := hD0.self (sz := s.heap.size)
  have C0 : zC p s m _ meth c cX2_addSuit 2 (some .int) RX2 zW := ⟨B.exec, B.bytes, B.returns, hml, findClass_of_methodNamed B.named, fun w hw => atoms_spec (ws := z_X2_addSuit) B.pre w (List.mem_cons_of_mem _ hw), B.notSynchronized⟩
  obtain ⟨hx, hb, hr, hml, hown, ht, hlocks⟩ := id C0
  generalize hAe : va_A [(h_c, .inr (2, [.ref c_shoePerson, .ref c_shoeOther, .ref c_shoeSort, .ref c_shoeDay, .ref c_claimWho, .ref c_claimAgainst, .ref c_claimFact, .ref c_claimPlea, .ref c_suits, .ref c_laws, .int c_shoeCount, .int c_claimCount, .int c_suitCount])), (c_suits, .inl (cs 5, 40, .inr (.inr (.inr (.inr f))))), (su, .inr (7, fs))] s.heap.size = A at hD ⊢
  have hA : ∀ q : Nat, s.heap.size ≤ q → A q := fun q h => by rw [← hAe]; exact Or.inr h
  have hS : va_S A s.heap s.heap [] := va_S.rf
  have hl := lv_entry ([.ref h_c, .ref su]) (n := 2) (Nat.le_of_ble_eq_true rfl)
  rw [lg_entry_eq]
  generalize (lg_sl ([.ref h_c, .ref su]) ++ List.replicate (2 - (lg_sl ([.ref h_c, .ref su])).length) Slot.unset).toArray = ls at hl ⊢
  obtain ⟨H, hH⟩ : ∃ H, H = s.heap := ⟨_, rfl⟩
  have hS : va_S A s.heap H [] := by rw [hH]; exact va_S.rf
  rw [← hH]
  have hP : va_P D classes [(h_c, .inr (2, [.ref c_shoePerson, .ref c_shoeOther, .ref c_shoeSort, .ref c_shoeDay, .ref c_claimWho, .ref c_claimAgainst, .ref c_claimFact, .ref c_claimPlea, .ref c_suits, .ref c_laws, .int c_shoeCount, .int c_claimCount, .int c_suitCount])), (c_suits, .inl (cs 5, 40, .inr (.inr (.inr (.inr f))))), (su, .inr (7, fs))] H := by rw [hH]; exact hP
  clear hH
  have hl : lv_has ls 2 [(0, .ref h_c), (1, .ref su)] := hl
  refine lv_aload_n hx hb dX2_addSuit_0 rfl (lv_at hl 0 rfl) ?_
  refine va_get (D := D) (ci := 2) (v := .int c_suitCount) (C := RX2) (T := TX2) (N := 13) hx hb ht iX2 hown hK hP 0 rfl rfl 12 (by decide) (ht _ kw_154) (fun _ h9 => h9) rfl dX2_addSuit_1 ?_
  refine lv_bipush (v := (40 : Int32)) hx hb dX2_addSuit_4 (by decide) ?_
  refine lv_icmp_lt (tgt := 12) hx hb dX2_addSuit_6 (by decide) (fun cc => ?_) (fun cc => absurd hlt cc)
  refine lv_aload_n hx hb dX2_addSuit_12 rfl (lv_at hl 0 rfl) ?_
  refine va_get (D := D) (ci := 2) (v := .ref c_suits) (C := RX2) (T := TX2) (N := 13) hx hb ht iX2 hown hK hP 0 rfl rfl 8 (by decide) (ht _ kw_143) (fun _ h9 => h9) rfl dX2_addSuit_13 ?_
  refine lv_aload_n hx hb dX2_addSuit_16 rfl (lv_at hl 0 rfl) ?_
  refine va_get (D := D) (ci := 2) (v := .int c_suitCount) (C := RX2) (T := TX2) (N := 13) hx hb ht iX2 hown hK hP 0 rfl rfl 12 (by decide) (ht _ kw_154) (fun _ h9 => h9) rfl dX2_addSuit_17 ?_
  refine lv_aload_n hx hb dX2_addSuit_20 rfl (lv_at hl 1 rfl) ?_
  refine va_astq hx hb hK hP hD hS 1 5 2 7 rfl rfl rfl rfl hix dX2_addSuit_21 (fun H locs hP hD hS => ?_)
  have hP : va_P D classes [(h_c, .inr (2, [.ref c_shoePerson, .ref c_shoeOther, .ref c_shoeSort, .ref c_shoeDay, .ref c_claimWho, .ref c_claimAgainst, .ref c_claimFact, .ref c_claimPlea, .ref c_suits, .ref c_laws, .int c_shoeCount, .int c_claimCount, .int c_suitCount])), (c_suits, .inl (cs 5, 40, .inr (.inr (.inr (.inr (va_up f c_suitCount.toNatClampNeg (some su))))))), (su, .inr (7, fs))] H := hP
  have hD : va_D A [(h_c, .inr (2, [.ref c_shoePerson, .ref c_shoeOther, .ref c_shoeSort, .ref c_shoeDay, .ref c_claimWho, .ref c_claimAgainst, .ref c_claimFact, .ref c_claimPlea, .ref c_suits, .ref c_laws, .int c_shoeCount, .int c_claimCount, .int c_suitCount])), (c_suits, .inl (cs 5, 40, .inr (.inr (.inr (.inr (va_up f c_suitCount.toNatClampNeg (some su))))))), (su, .inr (7, fs))] := hD
  refine lv_aload_n hx hb dX2_addSuit_22 rfl (lv_at hl 0 rfl) ?_
  refine lv_dup hx hb dX2_addSuit_23 rfl ?_
  refine va_get (D := D) (ci := 2) (v := .int c_suitCount) (C := RX2) (T := TX2) (N := 13) hx hb ht iX2 hown hK hP 0 rfl rfl 12 (by decide) (ht _ kw_154) (fun _ h9 => h9) rfl dX2_addSuit_24 ?_
  refine lv_iconst (v := (1 : Int32)) hx hb dX2_addSuit_27 (by decide) ?_
  refine lv_iadd hx hb dX2_addSuit_28 ?_
  refine va_put (D := D) (ci := 2) (v := .int (c_suitCount + (1 : Int32))) (ty := .int) (C := RX2) (T := TX2) (N := 13) hx hb ht iX2 tyX2 tyX2_ok nmX2 hown hK hP hD hS 0 rfl rfl 12 (by decide) (ht _ kw_154) (fun _ h9 => h9) rfl (by decide +kernel) rfl rfl (Nat.le_of_ble_eq_true rfl) dX2_addSuit_29 (fun H locs hP hD hS => ?_)
  have hP : va_P D classes [(h_c, .inr (2, [.ref c_shoePerson, .ref c_shoeOther, .ref c_shoeSort, .ref c_shoeDay, .ref c_claimWho, .ref c_claimAgainst, .ref c_claimFact, .ref c_claimPlea, .ref c_suits, .ref c_laws, .int c_shoeCount, .int c_claimCount, .int (c_suitCount + (1 : Int32))])), (c_suits, .inl (cs 5, 40, .inr (.inr (.inr (.inr (va_up f c_suitCount.toNatClampNeg (some su))))))), (su, .inr (7, fs))] H := hP
  have hD : va_D A [(h_c, .inr (2, [.ref c_shoePerson, .ref c_shoeOther, .ref c_shoeSort, .ref c_shoeDay, .ref c_claimWho, .ref c_claimAgainst, .ref c_claimFact, .ref c_claimPlea, .ref c_suits, .ref c_laws, .int c_shoeCount, .int c_claimCount, .int (c_suitCount + (1 : Int32))])), (c_suits, .inl (cs 5, 40, .inr (.inr (.inr (.inr (va_up f c_suitCount.toNatClampNeg (some su))))))), (su, .inr (7, fs))] := hD
  refine lv_aload_n hx hb dX2_addSuit_32 rfl (lv_at hl 0 rfl) ?_
  refine va_get (D := D) (ci := 2) (v := .int (c_suitCount + (1 : Int32))) (C := RX2) (T := TX2) (N := 13) hx hb ht iX2 hown hK hP 0 rfl rfl 12 (by decide) (ht _ kw_154) (fun _ h9 => h9) rfl dX2_addSuit_33 ?_
  refine lv_iconst (v := (1 : Int32)) hx hb dX2_addSuit_36 (by decide) ?_
  refine lv_isub hx hb dX2_addSuit_37 ?_
  exact W.iret (v := (c_suitCount + (1 : Int32)) - (1 : Int32)) hx hb hr (fun t ht2 hW => ⟨⟨(c_suitCount + (1 : Int32)) - (1 : Int32), (), rfl, rfl, by rw [ht2]; exact hP, hD⟩, hS.F ht2⟩) hS.2.2 dX2_addSuit_38 hlocks
theorem g_addSuit : GoodIn zW (wsV RX11 203 RX2 yX2_addSuit z_X2_addSuit) := zGV kw_931 kw_932 kw_933 kw_76 kw_934
theorem g_sread : GoodIn zW (wsV RX11 197 RX8 yX8_read z_X8_read) := zGV kw_867 kw_868 kw_869 kw_79 kw_870
theorem kw_256 : Cond.fieldLink RX11 200 "AlreadyJudged$SuitReader" "fault" "I" ∈ zW := zwC (i := 182) zc_1 rfl rfl
theorem kw_699 : Cond.fieldLink RX11 37 "AlreadyJudged" "suitReader" "LAlreadyJudged$SuitReader;" ∈ zW := zwC (i := 145) zc_3 rfl rfl
theorem zh_cX11_suit_0 : zck [42, 180, 0, 10, 180, 0, 191, 16, 40, 161, 0, 6, 16, 253, 172, 42, 180, 0, 37, 42, 180, 0] (zdu 0 cX11_suit.data.toList) = true := by decide +kernel
theorem dX11_suit_0 : decode cX11_suit 0 = .ok (.aload_n 0, 1) := zo_42 zh_cX11_suit_0 0 rfl
theorem dX11_suit_1 : decode cX11_suit 1 = .ok (.getfield 10, 3) := zo_180 zh_cX11_suit_0 1 rfl
theorem dX11_suit_4 : decode cX11_suit 4 = .ok (.getfield 191, 3) := zo_180 zh_cX11_suit_0 4 rfl
theorem dX11_suit_7 : decode cX11_suit 7 = .ok (.bipush 40, 2) := zo_p16 zh_cX11_suit_0 7 40 rfl rfl
theorem dX11_suit_9 : decode cX11_suit 9 = .ok (.if_icmp .lt 6, 3) := zo_p161 zh_cX11_suit_0 9 6 rfl rfl
theorem dX11_suit_12 : decode cX11_suit 12 = .ok (.bipush (-3), 2) := zo_n16 zh_cX11_suit_0 12 2 rfl rfl
theorem dX11_suit_14 : decode cX11_suit 14 = .ok (.ireturn, 1) := zo_172 zh_cX11_suit_0 14 rfl
theorem dX11_suit_15 : decode cX11_suit 15 = .ok (.aload_n 0, 1) := zo_42 zh_cX11_suit_0 15 rfl
theorem dX11_suit_16 : decode cX11_suit 16 = .ok (.getfield 37, 3) := zo_180 zh_cX11_suit_0 16 rfl
theorem dX11_suit_19 : decode cX11_suit 19 = .ok (.aload_n 0, 1) := zo_42 zh_cX11_suit_0 19 rfl
theorem zh_cX11_suit_1 : zck [180, 0, 10, 180, 0, 194, 182, 0, 197, 76, 42, 180, 0, 28, 3, 181, 0, 98, 43, 199, 0, 14] (zdu 20 cX11_suit.data.toList) = true := by decide +kernel
theorem dX11_suit_20 : decode cX11_suit 20 = .ok (.getfield 10, 3) := zo_180 zh_cX11_suit_1 0 rfl
theorem dX11_suit_23 : decode cX11_suit 23 = .ok (.getfield 194, 3) := zo_180 zh_cX11_suit_1 3 rfl
theorem dX11_suit_26 : decode cX11_suit 26 = .ok (.invokevirtual 197, 3) := zo_182 zh_cX11_suit_1 6 rfl
theorem zo_76 {c : ByteArray} {s : Nat} {K : List Nat} (h : zck K (zdu s c.data.toList) = true) (k : Nat) (hk : zt1 K k 76 = true) : decode c (s + k) = .ok (.astore_n 1, 1) := zde ((zbd (zu1 (zh1 h hk))).trans rfl)
theorem dX11_suit_29 : decode cX11_suit 29 = .ok (.astore_n 1, 1) := zo_76 zh_cX11_suit_1 9 rfl
theorem dX11_suit_30 : decode cX11_suit 30 = .ok (.aload_n 0, 1) := zo_42 zh_cX11_suit_1 10 rfl
theorem dX11_suit_31 : decode cX11_suit 31 = .ok (.getfield 28, 3) := zo_180 zh_cX11_suit_1 11 rfl
theorem dX11_suit_34 : decode cX11_suit 34 = .ok (.iconst 0, 1) := zo_3 zh_cX11_suit_1 14 rfl
theorem dX11_suit_35 : decode cX11_suit 35 = .ok (.putfield 98, 3) := zo_181 zh_cX11_suit_1 15 rfl
theorem dX11_suit_38 : decode cX11_suit 38 = .ok (.aload_n 1, 1) := zo_43 zh_cX11_suit_1 18 rfl
theorem dX11_suit_39 : decode cX11_suit 39 = .ok (.ifnonnull 14, 3) := zo_p199 zh_cX11_suit_1 19 14 rfl rfl
theorem zh_cX11_suit_2 : zck [0, 14, 16, 156, 42, 180, 0, 37, 180, 0, 200, 100, 172, 42, 180, 0, 10, 43, 182, 0, 203, 172] (zdu 40 cX11_suit.data.toList) = true := by decide +kernel
theorem dX11_suit_42 : decode cX11_suit 42 = .ok (.bipush (-100), 2) := zo_n16 zh_cX11_suit_2 2 99 rfl rfl
theorem dX11_suit_44 : decode cX11_suit 44 = .ok (.aload_n 0, 1) := zo_42 zh_cX11_suit_2 4 rfl
theorem dX11_suit_45 : decode cX11_suit 45 = .ok (.getfield 37, 3) := zo_180 zh_cX11_suit_2 5 rfl
theorem dX11_suit_48 : decode cX11_suit 48 = .ok (.getfield 200, 3) := zo_180 zh_cX11_suit_2 8 rfl
theorem dX11_suit_51 : decode cX11_suit 51 = .ok (.isub, 1) := zo_100 zh_cX11_suit_2 11 rfl
theorem dX11_suit_52 : decode cX11_suit 52 = .ok (.ireturn, 1) := zo_172 zh_cX11_suit_2 12 rfl
theorem dX11_suit_53 : decode cX11_suit 53 = .ok (.aload_n 0, 1) := zo_42 zh_cX11_suit_2 13 rfl
theorem dX11_suit_54 : decode cX11_suit 54 = .ok (.getfield 10, 3) := zo_180 zh_cX11_suit_2 14 rfl
theorem dX11_suit_57 : decode cX11_suit 57 = .ok (.aload_n 1, 1) := zo_43 zh_cX11_suit_2 17 rfl
theorem dX11_suit_58 : decode cX11_suit 58 = .ok (.invokevirtual 203, 3) := zo_182 zh_cX11_suit_2 18 rfl
theorem zh_cX11_suit_3 : zck [203, 172] (zdu 60 cX11_suit.data.toList) = true := by decide +kernel
theorem dX11_suit_61 : decode cX11_suit 61 = .ok (.ireturn, 1) := zo_172 zh_cX11_suit_3 1 rfl
abbrev z_X11_suit : List Cond := .code yX11_suit cX11_suit 2 (some .int) :: zW
abbrev rm_X11_suit : Room := { frames := 5, cells := 2, slots := 47, locals := 112 }
abbrev wSuN (ad : Nat → Nat) (cs : Nat → ClassId) (ci : Nat → Int32) (ca : Nat → Nat → Int32) (cr : Nat → Nat → Option Nat) : va_W := [((ad 0), .inr (11, [.ref (ad 4), .ref (ad 15), .ref (ad 23), .ref (ad 25), .ref (ad 26), .ref (ad 28), .ref (ad 34), .ref (ad 39), .ref (ad 1), .ref (ad 2), .ref (ad 3)])), ((ad 4), .inr (2, [.ref (ad 5), .ref (ad 6), .ref (ad 7), .ref (ad 8), .ref (ad 9), .ref (ad 10), .ref (ad 11), .ref (ad 12), .ref (ad 13), .ref (ad 14), .int (ci 0), .int (ci 1), .int (ci 2)])), ((ad 13), .inl (cs 5, 40, .inr (.inr (.inr (.inr (cr 0)))))), ((ad 23), .inr (9, [.ref (ad 24), .int (ci 6)])), ((ad 24), .inl (cs 0, 120, .inl (ca 15))), ((ad 25), .inr (8, [.ref (ad 23), .null, .int (ci 7), .int (ci 8), .int (ci 9)]))]
set_option maxHeartbeats 4000000 in
set_option maxRecDepth 100000 in
theorem c_X11_suitNB (l : Launch) (D : va_G) (cs : Nat → ClassId) (k : (Nat → Nat) × (Nat → Nat)) (sz : Nat) (ad : Nat → Nat) (ci : Nat → Int32) (ca : Nat → Nat → Int32) (cr : Nat → Nat → Option Nat) (hfull : ¬ (ci 2) < 40) : Met l yX11_suit z_X11_suit rm_X11_suit (va_Pc [.ref (ad 0)] (zPreE k D cs (wSuN ad cs ci ca cr) sz)) (va_Qi (fun (r : Int32) (_ : Unit) => r = (-3 : Int32)) (fun (u : Unit) (t : State) => va_P D classes (wSuN ad cs ci ca cr) t.heap ∧ va_D (va_A (wSuN ad cs ci ca cr) sz) (wSuN ad cs ci ca cr)) (va_A (wSuN ad cs ci ca cr) sz)) 2 47 (va_A (wSuN ad cs ci ca cr) sz) := by
  refine Met.ofW (cc := cX11_suit) (maxL := 2) (ret := (some .int)) (by decide) rfl ?_
  intro p e s m args below meth c s₁ B hml hv
  obtain ⟨rfl, ⟨⟨hsz, hP, hK, hD0⟩, hO⟩, hE⟩ := hv
  subst hsz
  have hD := hD0.self (sz := s.heap.size)
  have C0 : zC p s m _ meth c cX11_suit 2 (some .int) RX11 zW := ⟨B.exec, B.bytes, B.returns, hml, findClass_of_methodNamed B.named, fun w hw => atoms_spec (ws := z_X11_suit) B.pre w (List.mem_cons_of_mem _ hw), B.notSynchronized⟩
  obtain ⟨hx, hb, hr, hml, hown, ht, hlocks⟩ := id C0
  generalize hAe : va_A (wSuN ad cs ci ca cr) s.heap.size = A at hD hE ⊢
  have hA : ∀ q : Nat, s.heap.size ≤ q → A q := fun q h => by rw [← hAe]; exact Or.inr h
  have hS : va_S A s.heap s.heap [] := va_S.rf
  have hl := lv_entry ([.ref (ad 0)]) (n := 2) (Nat.le_of_ble_eq_true rfl)
  rw [lg_entry_eq]
  generalize (lg_sl ([.ref (ad 0)]) ++ List.replicate (2 - (lg_sl ([.ref (ad 0)])).length) Slot.unset).toArray = ls at hl ⊢
  obtain ⟨H, hH⟩ : ∃ H, H = s.heap := ⟨_, rfl⟩
  have hS : va_S A s.heap H [] := by rw [hH]; exact va_S.rf
  rw [← hH]
  have hP : va_P D classes (wSuN ad cs ci ca cr) H := by rw [hH]; exact hP
  clear hH
  have hl : lv_has ls 2 [(0, .ref (ad 0))] := hl
  refine lv_aload_n hx hb dX11_suit_0 rfl (lv_at hl 0 rfl) ?_
  refine va_get (D := D) (ci := 11) (v := .ref (ad 4)) (C := RX11) (T := TX11) (N := 11) hx hb ht iX11 hown hK hP 0 rfl rfl 0 (by decide) (ht _ kw_696) (fun _ h9 => h9) rfl dX11_suit_1 ?_
  refine va_get (D := D) (ci := 2) (v := .int (ci 2)) (C := RX2) (T := TX2) (N := 13) hx hb ht iX2 hown hK hP 1 rfl rfl 12 (by decide) (ht _ kw_155) (fun _ h9 => h9) rfl dX11_suit_4 ?_
  refine lv_bipush (v := (40 : Int32)) hx hb dX11_suit_7 (by decide) ?_
  refine lv_icmp_lt (tgt := 15) hx hb dX11_suit_9 (by decide) (fun cc => absurd cc hfull) (fun cc => ?_)
  refine lv_bipush (v := (-3 : Int32)) hx hb dX11_suit_12 (by decide) ?_
  refine W.widen (k := 2) (n := 47) (Nat.le_of_ble_eq_true rfl) (Nat.le_of_ble_eq_true rfl) ?_
  exact W.iret (v := (-3 : Int32)) hx hb hr (fun t ht2 hW => ⟨⟨(-3 : Int32), (), rfl, rfl, by rw [ht2]; exact hP, hD⟩, hS.F ht2⟩) hS.2.2 dX11_suit_14 hlocks
set_option maxHeartbeats 4000000 in
set_option maxRecDepth 100000 in
theorem c_X11_suitNT (l : Launch) (D : va_G) (cs : Nat → ClassId) (k : (Nat → Nat) × (Nat → Nat)) (sz : Nat) (ad : Nat → Nat) (ci : Nat → Int32) (ca : Nat → Nat → Int32) (cr : Nat → Nat → Option Nat) (q_sr_spare : Value) (q_sr_at : Int32) (q_sr_numberAt : Int32) (q_sr_fault : Int32) (r_who : Int32) (r_against : Int32) (r_kind : Int32) (r_won : Int32) (r_day : Int32) (r_land : Int32) (r_askedCount : Int32) (r_askedBits : Int32) (r_first : Int32) (r_foundSo : Int32) (r_foundNot : Int32) (r_fought : Int32) (r_needed : Int32) (r_asked : Nat → Int32) (h5 : f_X8_read ((ci 1)) (ci 6) (ca 15) .null 0 (ci 8) (-1) 0 0 0 0 0 0 (-1) 0 0 0 0 0 0 0 (fun _ => 0) = some (q_sr_spare, q_sr_at, q_sr_numberAt, q_sr_fault, r_who, r_against, r_kind, r_won, r_day, r_land, r_askedCount, r_askedBits, r_first, r_foundSo, r_foundNot, r_fought, r_needed, r_asked)) (hlt : (ci 2) < 40) (hfl : ¬ 0 ≤ (q_sr_spare, q_sr_at, q_sr_numberAt, q_sr_fault, r_who, r_against, r_kind, r_won, r_day, r_land, r_askedCount, r_askedBits, r_first, r_foundSo, r_foundNot, r_fought, r_needed, r_asked).2.2.2.1) (hix : vp_in (ci 2) 40) : Met l yX11_suit z_X11_suit rm_X11_suit (va_Pc [.ref (ad 0)] (zPreE k D cs (wSuN ad cs ci ca cr) sz)) (va_Qi (fun (r : Int32) (_ : Nat × Nat) => r = ((ci 2) + (1 : Int32)) - (1 : Int32)) (fun (u : Nat × Nat) (t : State) => va_P D classes [((ad 0), .inr (11, [.ref (ad 4), .ref (ad 15), .ref (ad 23), .ref (ad 25), .ref (ad 26), .ref (ad 28), .ref (ad 34), .ref (ad 39), .ref (ad 1), .ref (ad 2), .ref (ad 3)])), ((ad 4), .inr (2, [.ref (ad 5), .ref (ad 6), .ref (ad 7), .ref (ad 8), .ref (ad 9), .ref (ad 10), .ref (ad 11), .ref (ad 12), .ref (ad 13), .ref (ad 14), .int (ci 0), .int (ci 1), .int ((ci 2) + (1 : Int32))])), ((ad 13), .inl (cs 5, 40, .inr (.inr (.inr (.inr (va_up (cr 0) (ci 2).toNatClampNeg (some u.1))))))), ((ad 23), .inr (9, [.ref (ad 24), .int (0 : Int32)])), ((ad 24), .inl (cs 0, 120, .inl (ca 15))), ((ad 25), .inr (8, [.ref (ad 23), .null, .int q_sr_at, .int q_sr_numberAt, .int q_sr_fault])), (u.1, .inr (7, [.int r_who, .int r_against, .int r_kind, .int r_won, .int r_day, .int r_land, .int (-1), .ref u.2, .int r_askedCount, .int r_askedBits, .int r_first, .int r_foundSo, .int r_foundNot, .int r_fought, .int r_needed])), (u.2, .inl (cs 0, 32, .inl r_asked))] t.heap ∧ va_D (va_A (wSuN ad cs ci ca cr) sz) [((ad 0), .inr (11, [.ref (ad 4), .ref (ad 15), .ref (ad 23), .ref (ad 25), .ref (ad 26), .ref (ad 28), .ref (ad 34), .ref (ad 39), .ref (ad 1), .ref (ad 2), .ref (ad 3)])), ((ad 4), .inr (2, [.ref (ad 5), .ref (ad 6), .ref (ad 7), .ref (ad 8), .ref (ad 9), .ref (ad 10), .ref (ad 11), .ref (ad 12), .ref (ad 13), .ref (ad 14), .int (ci 0), .int (ci 1), .int ((ci 2) + (1 : Int32))])), ((ad 13), .inl (cs 5, 40, .inr (.inr (.inr (.inr (va_up (cr 0) (ci 2).toNatClampNeg (some u.1))))))), ((ad 23), .inr (9, [.ref (ad 24), .int (0 : Int32)])), ((ad 24), .inl (cs 0, 120, .inl (ca 15))), ((ad 25), .inr (8, [.ref (ad 23), .null, .int q_sr_at, .int q_sr_numberAt, .int q_sr_fault])), (u.1, .inr (7, [.int r_who, .int r_against, .int r_kind, .int r_won, .int r_day, .int r_land, .int (-1), .ref u.2, .int r_askedCount, .int r_askedBits, .int r_first, .int r_foundSo, .int r_foundNot, .int r_fought, .int r_needed])), (u.2, .inl (cs 0, 32, .inl r_asked))]) (va_A (wSuN ad cs ci ca cr) sz)) 2 47 (va_A (wSuN ad cs ci ca cr) sz) := by
  refine Met.ofW (cc := cX11_suit) (maxL := 2) (ret := (some .int)) (by decide) rfl ?_
  intro p e s m args below meth c s₁ B hml hv
  obtain ⟨rfl, ⟨⟨hsz, hP, hK, hD0⟩, hO⟩, hE⟩ := hv
  subst hsz
  have hD := hD0.self (sz := s.heap.size)
  have C0 : zC p s m _ meth c cX11_suit 2 (some .int) RX11 zW := ⟨B.exec, B.bytes, B.returns, hml, findClass_of_methodNamed B.named, fun w hw => atoms_spec (ws := z_X11_suit) B.pre w (List.mem_cons_of_mem _ hw), B.notSynchronized⟩
  obtain ⟨hx, hb, hr, hml, hown, ht, hlocks⟩ := id C0
  generalize hAe : va_A (wSuN ad cs ci ca cr) s.heap.size = A at hD hE ⊢
  have hA : ∀ q : Nat, s.heap.size ≤ q → A q := fun q h => by rw [← hAe]; exact Or.inr h
  have hS : va_S A s.heap s.heap [] := va_S.rf
  have hl := lv_entry ([.ref (ad 0)]) (n := 2) (Nat.le_of_ble_eq_true rfl)
  rw [lg_entry_eq]
  generalize (lg_sl ([.ref (ad 0)]) ++ List.replicate (2 - (lg_sl ([.ref (ad 0)])).length) Slot.unset).toArray = ls at hl ⊢
  obtain ⟨H, hH⟩ : ∃ H, H = s.heap := ⟨_, rfl⟩
  have hS : va_S A s.heap H [] := by rw [hH]; exact va_S.rf
  rw [← hH]
  have hP : va_P D classes (wSuN ad cs ci ca cr) H := by rw [hH]; exact hP
  clear hH
  have hl : lv_has ls 2 [(0, .ref (ad 0))] := hl
  refine lv_aload_n hx hb dX11_suit_0 rfl (lv_at hl 0 rfl) ?_
  refine va_get (D := D) (ci := 11) (v := .ref (ad 4)) (C := RX11) (T := TX11) (N := 11) hx hb ht iX11 hown hK hP 0 rfl rfl 0 (by decide) (ht _ kw_696) (fun _ h9 => h9) rfl dX11_suit_1 ?_
  refine va_get (D := D) (ci := 2) (v := .int (ci 2)) (C := RX2) (T := TX2) (N := 13) hx hb ht iX2 hown hK hP 1 rfl rfl 12 (by decide) (ht _ kw_155) (fun _ h9 => h9) rfl dX11_suit_4 ?_
  refine lv_bipush (v := (40 : Int32)) hx hb dX11_suit_7 (by decide) ?_
  refine lv_icmp_lt (tgt := 15) hx hb dX11_suit_9 (by decide) (fun cc => ?_) (fun cc => absurd hlt cc)
  refine lv_aload_n hx hb dX11_suit_15 rfl (lv_at hl 0 rfl) ?_
  refine va_get (D := D) (ci := 11) (v := .ref (ad 25)) (C := RX11) (T := TX11) (N := 11) hx hb ht iX11 hown hK hP 0 rfl rfl 3 (by decide) (ht _ kw_699) (fun _ h9 => h9) rfl dX11_suit_16 ?_
  refine lv_aload_n hx hb dX11_suit_19 rfl (lv_at hl 0 rfl) ?_
  refine va_get (D := D) (ci := 11) (v := .ref (ad 4)) (C := RX11) (T := TX11) (N := 11) hx hb ht iX11 hown hK hP 0 rfl rfl 0 (by decide) (ht _ kw_696) (fun _ h9 => h9) rfl dX11_suit_20 ?_
  refine va_get (D := D) (ci := 2) (v := .int (ci 1)) (C := RX2) (T := TX2) (N := 13) hx hb ht iX2 hown hK hP 1 rfl rfl 11 (by decide) (ht _ kw_153) (fun _ h9 => h9) rfl dX11_suit_23 ?_
  refine zk_vqO (post := (fun (r : Option Nat) (z : (Value × Int32 × Int32 × Int32 × Int32 × Int32 × Int32 × Int32 × Int32 × Int32 × Int32 × Int32 × Int32 × Int32 × Int32 × Int32 × Int32 × (Nat → Int32)) × Nat × Nat) => r = (if 0 ≤ (q_sr_spare, q_sr_at, q_sr_numberAt, q_sr_fault, r_who, r_against, r_kind, r_won, r_day, r_land, r_askedCount, r_askedBits, r_first, r_foundSo, r_foundNot, r_fought, r_needed, r_asked).2.2.2.1 then none else some z.2.1) ∧ z.1 = (q_sr_spare, q_sr_at, q_sr_numberAt, q_sr_fault, r_who, r_against, r_kind, r_won, r_day, r_land, r_askedCount, r_askedBits, r_first, r_foundSo, r_foundNot, r_fought, r_needed, r_asked))) (w1 := fun (z : (Value × Int32 × Int32 × Int32 × Int32 × Int32 × Int32 × Int32 × Int32 × Int32 × Int32 × Int32 × Int32 × Int32 × Int32 × Int32 × Int32 × (Nat → Int32)) × Nat × Nat) => (wl_X8_read ad cs z.2.1 z.2.2 (ci 6) (ca 15) (if 0 ≤ z.1.2.2.2.1 then .ref z.2.1 else .null) z.1.2.1 z.1.2.2.1 z.1.2.2.2.1 z.1.2.2.2.2.1 z.1.2.2.2.2.2.1 z.1.2.2.2.2.2.2.1 z.1.2.2.2.2.2.2.2.1 z.1.2.2.2.2.2.2.2.2.1 z.1.2.2.2.2.2.2.2.2.2.1 (-1) z.1.2.2.2.2.2.2.2.2.2.2.1 z.1.2.2.2.2.2.2.2.2.2.2.2.1 z.1.2.2.2.2.2.2.2.2.2.2.2.2.1 z.1.2.2.2.2.2.2.2.2.2.2.2.2.2.1 z.1.2.2.2.2.2.2.2.2.2.2.2.2.2.2.1 z.1.2.2.2.2.2.2.2.2.2.2.2.2.2.2.2.1 z.1.2.2.2.2.2.2.2.2.2.2.2.2.2.2.2.2.1 z.1.2.2.2.2.2.2.2.2.2.2.2.2.2.2.2.2.2)) (As := [.int ((ci 1))]) (rest := []) hO (c_X8_readN l D cs ad H.size ((ci 1)) (ci 6) (ca 15) (ci 7) (ci 8) (ci 9) (q_sr_spare, q_sr_at, q_sr_numberAt, q_sr_fault, r_who, r_against, r_kind, r_won, r_day, r_land, r_askedCount, r_askedBits, r_first, r_foundSo, r_foundNot, r_fought, r_needed, r_asked) h5) ⟨hx, hb, hml, hown, ht⟩ (cwV 1 ht g_sread rfl rfl rfl (by decide +kernel) ⟨Nat.le_of_ble_eq_true rfl, Nat.le_of_ble_eq_true rfl⟩) (va_recv hK hP (ci := 8) (q0 := 5) rfl rfl) hP hD hS hK hA [3, 4, 5] [0, 1, 2] rfl rfl rfl rfl (by decide) rfl hl.1 (Nat.le_of_ble_eq_true rfl) dX11_suit_26 ⟨Nat.le_of_ble_eq_true rfl, Nat.le_of_ble_eq_true rfl⟩ (fun r z H locs hq hP hD hS => ?_)
  obtain ⟨z1, h_su, h_q⟩ := z
  obtain ⟨hq1, hq2⟩ := hq
  dsimp only at hq1 hq2 hP hD
  subst hq2
  dsimp only at hP hD hq1
  rw [if_neg hfl] at hq1 hP hD
  subst hq1
  have hP : va_P D classes [((ad 0), .inr (11, [.ref (ad 4), .ref (ad 15), .ref (ad 23), .ref (ad 25), .ref (ad 26), .ref (ad 28), .ref (ad 34), .ref (ad 39), .ref (ad 1), .ref (ad 2), .ref (ad 3)])), ((ad 4), .inr (2, [.ref (ad 5), .ref (ad 6), .ref (ad 7), .ref (ad 8), .ref (ad 9), .ref (ad 10), .ref (ad 11), .ref (ad 12), .ref (ad 13), .ref (ad 14), .int (ci 0), .int (ci 1), .int (ci 2)])), ((ad 13), .inl (cs 5, 40, .inr (.inr (.inr (.inr (cr 0)))))), ((ad 23), .inr (9, [.ref (ad 24), .int (ci 6)])), ((ad 24), .inl (cs 0, 120, .inl (ca 15))), ((ad 25), .inr (8, [.ref (ad 23), .null, .int q_sr_at, .int q_sr_numberAt, .int q_sr_fault])), (h_su, .inr (7, [.int r_who, .int r_against, .int r_kind, .int r_won, .int r_day, .int r_land, .int (-1), .ref h_q, .int r_askedCount, .int r_askedBits, .int r_first, .int r_foundSo, .int r_foundNot, .int r_fought, .int r_needed])), (h_q, .inl (cs 0, 32, .inl r_asked))] H := hP.sub [0, 1, 2, 3, 4, 5, 6, 7] rfl
  have hD : va_D A [((ad 0), .inr (11, [.ref (ad 4), .ref (ad 15), .ref (ad 23), .ref (ad 25), .ref (ad 26), .ref (ad 28), .ref (ad 34), .ref (ad 39), .ref (ad 1), .ref (ad 2), .ref (ad 3)])), ((ad 4), .inr (2, [.ref (ad 5), .ref (ad 6), .ref (ad 7), .ref (ad 8), .ref (ad 9), .ref (ad 10), .ref (ad 11), .ref (ad 12), .ref (ad 13), .ref (ad 14), .int (ci 0), .int (ci 1), .int (ci 2)])), ((ad 13), .inl (cs 5, 40, .inr (.inr (.inr (.inr (cr 0)))))), ((ad 23), .inr (9, [.ref (ad 24), .int (ci 6)])), ((ad 24), .inl (cs 0, 120, .inl (ca 15))), ((ad 25), .inr (8, [.ref (ad 23), .null, .int q_sr_at, .int q_sr_numberAt, .int q_sr_fault])), (h_su, .inr (7, [.int r_who, .int r_against, .int r_kind, .int r_won, .int r_day, .int r_land, .int (-1), .ref h_q, .int r_askedCount, .int r_askedBits, .int r_first, .int r_foundSo, .int r_foundNot, .int r_fought, .int r_needed])), (h_q, .inl (cs 0, 32, .inl r_asked))] := hD.sub [0, 1, 2, 3, 4, 5, 6, 7] rfl rfl
  refine W.eq (g2 := F0 m 29 ls [.ref h_su]) rfl ?_
  refine lv_astore_n (lv' := [(1, .ref h_su), (0, .ref (ad 0))]) hx hb dX11_suit_29 rfl hl (by decide) rfl (fun ls hl => ?_)
  refine lv_aload_n hx hb dX11_suit_30 rfl (lv_at hl 1 rfl) ?_
  refine va_get (D := D) (ci := 11) (v := .ref (ad 23)) (C := RX11) (T := TX11) (N := 11) hx hb ht iX11 hown hK hP 0 rfl rfl 2 (by decide) (ht _ kw_698) (fun _ h9 => h9) rfl dX11_suit_31 ?_
  refine lv_iconst (v := (0 : Int32)) hx hb dX11_suit_34 (by decide) ?_
  refine va_put (D := D) (ci := 9) (v := .int (0 : Int32)) (ty := .int) (C := RX9) (T := TX9) (N := 2) hx hb ht iX9 tyX9 tyX9_ok nmX9 hown hK hP hD hS 3 rfl rfl 1 (by decide) (ht _ kw_236) (fun _ h9 => h9) rfl (by decide +kernel) rfl rfl (Nat.le_of_ble_eq_true rfl) dX11_suit_35 (fun H locs hP hD hS => ?_)
  have hP : va_P D classes [((ad 0), .inr (11, [.ref (ad 4), .ref (ad 15), .ref (ad 23), .ref (ad 25), .ref (ad 26), .ref (ad 28), .ref (ad 34), .ref (ad 39), .ref (ad 1), .ref (ad 2), .ref (ad 3)])), ((ad 4), .inr (2, [.ref (ad 5), .ref (ad 6), .ref (ad 7), .ref (ad 8), .ref (ad 9), .ref (ad 10), .ref (ad 11), .ref (ad 12), .ref (ad 13), .ref (ad 14), .int (ci 0), .int (ci 1), .int (ci 2)])), ((ad 13), .inl (cs 5, 40, .inr (.inr (.inr (.inr (cr 0)))))), ((ad 23), .inr (9, [.ref (ad 24), .int (0 : Int32)])), ((ad 24), .inl (cs 0, 120, .inl (ca 15))), ((ad 25), .inr (8, [.ref (ad 23), .null, .int q_sr_at, .int q_sr_numberAt, .int q_sr_fault])), (h_su, .inr (7, [.int r_who, .int r_against, .int r_kind, .int r_won, .int r_day, .int r_land, .int (-1), .ref h_q, .int r_askedCount, .int r_askedBits, .int r_first, .int r_foundSo, .int r_foundNot, .int r_fought, .int r_needed])), (h_q, .inl (cs 0, 32, .inl r_asked))] H := hP
  have hD : va_D A [((ad 0), .inr (11, [.ref (ad 4), .ref (ad 15), .ref (ad 23), .ref (ad 25), .ref (ad 26), .ref (ad 28), .ref (ad 34), .ref (ad 39), .ref (ad 1), .ref (ad 2), .ref (ad 3)])), ((ad 4), .inr (2, [.ref (ad 5), .ref (ad 6), .ref (ad 7), .ref (ad 8), .ref (ad 9), .ref (ad 10), .ref (ad 11), .ref (ad 12), .ref (ad 13), .ref (ad 14), .int (ci 0), .int (ci 1), .int (ci 2)])), ((ad 13), .inl (cs 5, 40, .inr (.inr (.inr (.inr (cr 0)))))), ((ad 23), .inr (9, [.ref (ad 24), .int (0 : Int32)])), ((ad 24), .inl (cs 0, 120, .inl (ca 15))), ((ad 25), .inr (8, [.ref (ad 23), .null, .int q_sr_at, .int q_sr_numberAt, .int q_sr_fault])), (h_su, .inr (7, [.int r_who, .int r_against, .int r_kind, .int r_won, .int r_day, .int r_land, .int (-1), .ref h_q, .int r_askedCount, .int r_askedBits, .int r_first, .int r_foundSo, .int r_foundNot, .int r_fought, .int r_needed])), (h_q, .inl (cs 0, 32, .inl r_asked))] := hD
  refine lv_aload_n hx hb dX11_suit_38 rfl (lv_at hl 0 rfl) ?_
  refine lv_ifnonnull (tgt := 53) hx hb dX11_suit_39 (by decide) ?_
  refine lv_aload_n hx hb dX11_suit_53 rfl (lv_at hl 1 rfl) ?_
  refine va_get (D := D) (ci := 11) (v := .ref (ad 4)) (C := RX11) (T := TX11) (N := 11) hx hb ht iX11 hown hK hP 0 rfl rfl 0 (by decide) (ht _ kw_696) (fun _ h9 => h9) rfl dX11_suit_54 ?_
  refine lv_aload_n hx hb dX11_suit_57 rfl (lv_at hl 0 rfl) ?_
  have hix : vp_in (ci 2) 40 := hix
  refine zk_vi (post := fun (r : Int32) (_ : Unit) => r = ((ci 2) + (1 : Int32)) - (1 : Int32)) (w1 := fun (_ : Unit) => [((ad 4), .inr (2, [.ref (ad 5), .ref (ad 6), .ref (ad 7), .ref (ad 8), .ref (ad 9), .ref (ad 10), .ref (ad 11), .ref (ad 12), .ref (ad 13), .ref (ad 14), .int (ci 0), .int (ci 1), .int ((ci 2) + (1 : Int32))])), ((ad 13), .inl (cs 5, 40, .inr (.inr (.inr (.inr (va_up (cr 0) (ci 2).toNatClampNeg (some h_su))))))), (h_su, .inr (7, [.int r_who, .int r_against, .int r_kind, .int r_won, .int r_day, .int r_land, .int (-1), .ref h_q, .int r_askedCount, .int r_askedBits, .int r_first, .int r_foundSo, .int r_foundNot, .int r_fought, .int r_needed]))]) (As := [.ref h_su]) (rest := []) (c_X2_addSuit l D cs H.size (ad 5) (ad 6) (ad 7) (ad 8) (ad 9) (ad 10) (ad 11) (ad 12) (ad 13) (ad 14) (ci 0) (ci 1) (ci 2) (ad 4) h_su (cr 0) [.int r_who, .int r_against, .int r_kind, .int r_won, .int r_day, .int r_land, .int (-1), .ref h_q, .int r_askedCount, .int r_askedBits, .int r_first, .int r_foundSo, .int r_foundNot, .int r_fought, .int r_needed] hlt hix) ⟨hx, hb, hml, hown, ht⟩ (cwV 1 ht g_addSuit rfl rfl rfl (by decide +kernel) ⟨Nat.le_of_ble_eq_true rfl, Nat.le_of_ble_eq_true rfl⟩) (va_recv hK hP (ci := 2) (q0 := 1) rfl rfl) hP hD hS hK hA [1, 2, 6] [0, 3, 4, 5, 7] rfl rfl rfl rfl (by decide) rfl hl.1 (Nat.le_of_ble_eq_true rfl) dX11_suit_58 ⟨Nat.le_of_ble_eq_true rfl, Nat.le_of_ble_eq_true rfl⟩ (fun r u H locs hq hP hD hS => ?_)
  subst hq
  have hP : va_P D classes [((ad 0), .inr (11, [.ref (ad 4), .ref (ad 15), .ref (ad 23), .ref (ad 25), .ref (ad 26), .ref (ad 28), .ref (ad 34), .ref (ad 39), .ref (ad 1), .ref (ad 2), .ref (ad 3)])), ((ad 4), .inr (2, [.ref (ad 5), .ref (ad 6), .ref (ad 7), .ref (ad 8), .ref (ad 9), .ref (ad 10), .ref (ad 11), .ref (ad 12), .ref (ad 13), .ref (ad 14), .int (ci 0), .int (ci 1), .int ((ci 2) + (1 : Int32))])), ((ad 13), .inl (cs 5, 40, .inr (.inr (.inr (.inr (va_up (cr 0) (ci 2).toNatClampNeg (some h_su))))))), ((ad 23), .inr (9, [.ref (ad 24), .int (0 : Int32)])), ((ad 24), .inl (cs 0, 120, .inl (ca 15))), ((ad 25), .inr (8, [.ref (ad 23), .null, .int q_sr_at, .int q_sr_numberAt, .int q_sr_fault])), (h_su, .inr (7, [.int r_who, .int r_against, .int r_kind, .int r_won, .int r_day, .int r_land, .int (-1), .ref h_q, .int r_askedCount, .int r_askedBits, .int r_first, .int r_foundSo, .int r_foundNot, .int r_fought, .int r_needed])), (h_q, .inl (cs 0, 32, .inl r_asked))] H := hP.sub [0, 5, 6, 1, 2, 3, 7, 4] rfl
  have hD : va_D A [((ad 0), .inr (11, [.ref (ad 4), .ref (ad 15), .ref (ad 23), .ref (ad 25), .ref (ad 26), .ref (ad 28), .ref (ad 34), .ref (ad 39), .ref (ad 1), .ref (ad 2), .ref (ad 3)])), ((ad 4), .inr (2, [.ref (ad 5), .ref (ad 6), .ref (ad 7), .ref (ad 8), .ref (ad 9), .ref (ad 10), .ref (ad 11), .ref (ad 12), .ref (ad 13), .ref (ad 14), .int (ci 0), .int (ci 1), .int ((ci 2) + (1 : Int32))])), ((ad 13), .inl (cs 5, 40, .inr (.inr (.inr (.inr (va_up (cr 0) (ci 2).toNatClampNeg (some h_su))))))), ((ad 23), .inr (9, [.ref (ad 24), .int (0 : Int32)])), ((ad 24), .inl (cs 0, 120, .inl (ca 15))), ((ad 25), .inr (8, [.ref (ad 23), .null, .int q_sr_at, .int q_sr_numberAt, .int q_sr_fault])), (h_su, .inr (7, [.int r_who, .int r_against, .int r_kind, .int r_won, .int r_day, .int r_land, .int (-1), .ref h_q, .int r_askedCount, .int r_askedBits, .int r_first, .int r_foundSo, .int r_foundNot, .int r_fought, .int r_needed])), (h_q, .inl (cs 0, 32, .inl r_asked))] := hD.sub [0, 5, 6, 1, 2, 3, 7, 4] rfl rfl
  refine W.widen (k := 2) (n := 47) (Nat.le_of_ble_eq_true rfl) (Nat.le_of_ble_eq_true rfl) ?_
  exact W.iret (v := ((ci 2) + (1 : Int32)) - (1 : Int32)) hx hb hr (fun t ht2 hW => ⟨⟨((ci 2) + (1 : Int32)) - (1 : Int32), (h_su, h_q), rfl, rfl, by rw [ht2]; exact hP, hD⟩, hS.F ht2⟩) hS.2.2 dX11_suit_61 hlocks
set_option maxHeartbeats 4000000 in
set_option maxRecDepth 100000 in
theorem c_X11_suitNF (l : Launch) (D : va_G) (cs : Nat → ClassId) (k : (Nat → Nat) × (Nat → Nat)) (sz : Nat) (ad : Nat → Nat) (ci : Nat → Int32) (ca : Nat → Nat → Int32) (cr : Nat → Nat → Option Nat) (q_sr_spare : Value) (q_sr_at : Int32) (q_sr_numberAt : Int32) (q_sr_fault : Int32) (r_who : Int32) (r_against : Int32) (r_kind : Int32) (r_won : Int32) (r_day : Int32) (r_land : Int32) (r_askedCount : Int32) (r_askedBits : Int32) (r_first : Int32) (r_foundSo : Int32) (r_foundNot : Int32) (r_fought : Int32) (r_needed : Int32) (r_asked : Nat → Int32) (h5 : f_X8_read ((ci 1)) (ci 6) (ca 15) .null 0 (ci 8) (-1) 0 0 0 0 0 0 (-1) 0 0 0 0 0 0 0 (fun _ => 0) = some (q_sr_spare, q_sr_at, q_sr_numberAt, q_sr_fault, r_who, r_against, r_kind, r_won, r_day, r_land, r_askedCount, r_askedBits, r_first, r_foundSo, r_foundNot, r_fought, r_needed, r_asked)) (hlt : (ci 2) < 40) (hfl : 0 ≤ (q_sr_spare, q_sr_at, q_sr_numberAt, q_sr_fault, r_who, r_against, r_kind, r_won, r_day, r_land, r_askedCount, r_askedBits, r_first, r_foundSo, r_foundNot, r_fought, r_needed, r_asked).2.2.2.1) : Met l yX11_suit z_X11_suit rm_X11_suit (va_Pc [.ref (ad 0)] (zPreE k D cs (wSuN ad cs ci ca cr) sz)) (va_Qi (fun (r : Int32) (_ : Nat × Nat) => r = (-100 : Int32) - q_sr_fault) (fun (u : Nat × Nat) (t : State) => va_P D classes [((ad 0), .inr (11, [.ref (ad 4), .ref (ad 15), .ref (ad 23), .ref (ad 25), .ref (ad 26), .ref (ad 28), .ref (ad 34), .ref (ad 39), .ref (ad 1), .ref (ad 2), .ref (ad 3)])), ((ad 4), .inr (2, [.ref (ad 5), .ref (ad 6), .ref (ad 7), .ref (ad 8), .ref (ad 9), .ref (ad 10), .ref (ad 11), .ref (ad 12), .ref (ad 13), .ref (ad 14), .int (ci 0), .int (ci 1), .int (ci 2)])), ((ad 13), .inl (cs 5, 40, .inr (.inr (.inr (.inr (cr 0)))))), ((ad 23), .inr (9, [.ref (ad 24), .int (0 : Int32)])), ((ad 24), .inl (cs 0, 120, .inl (ca 15))), ((ad 25), .inr (8, [.ref (ad 23), .ref u.1, .int q_sr_at, .int q_sr_numberAt, .int q_sr_fault])), (u.1, .inr (7, [.int r_who, .int r_against, .int r_kind, .int r_won, .int r_day, .int r_land, .int (-1), .ref u.2, .int r_askedCount, .int r_askedBits, .int r_first, .int r_foundSo, .int r_foundNot, .int r_fought, .int r_needed])), (u.2, .inl (cs 0, 32, .inl r_asked))] t.heap ∧ va_D (va_A (wSuN ad cs ci ca cr) sz) [((ad 0), .inr (11, [.ref (ad 4), .ref (ad 15), .ref (ad 23), .ref (ad 25), .ref (ad 26), .ref (ad 28), .ref (ad 34), .ref (ad 39), .ref (ad 1), .ref (ad 2), .ref (ad 3)])), ((ad 4), .inr (2, [.ref (ad 5), .ref (ad 6), .ref (ad 7), .ref (ad 8), .ref (ad 9), .ref (ad 10), .ref (ad 11), .ref (ad 12), .ref (ad 13), .ref (ad 14), .int (ci 0), .int (ci 1), .int (ci 2)])), ((ad 13), .inl (cs 5, 40, .inr (.inr (.inr (.inr (cr 0)))))), ((ad 23), .inr (9, [.ref (ad 24), .int (0 : Int32)])), ((ad 24), .inl (cs 0, 120, .inl (ca 15))), ((ad 25), .inr (8, [.ref (ad 23), .ref u.1, .int q_sr_at, .int q_sr_numberAt, .int q_sr_fault])), (u.1, .inr (7, [.int r_who, .int r_against, .int r_kind, .int r_won, .int r_day, .int r_land, .int (-1), .ref u.2, .int r_askedCount, .int r_askedBits, .int r_first, .int r_foundSo, .int r_foundNot, .int r_fought, .int r_needed])), (u.2, .inl (cs 0, 32, .inl r_asked))]) (va_A (wSuN ad cs ci ca cr) sz)) 2 47 (va_A (wSuN ad cs ci ca cr) sz) := by
  refine Met.ofW (cc := cX11_suit) (maxL := 2) (ret := (some .int)) (by decide) rfl ?_
  intro p e s m args below meth c s₁ B hml hv
  obtain ⟨rfl, ⟨⟨hsz, hP, hK, hD0⟩, hO⟩, hE⟩ := hv
  subst hsz
  have hD := hD0.self (sz := s.heap.size)
  have C0 : zC p s m _ meth c cX11_suit 2 (some .int) RX11 zW := ⟨B.exec, B.bytes, B.returns, hml, findClass_of_methodNamed B.named, fun w hw => atoms_spec (ws := z_X11_suit) B.pre w (List.mem_cons_of_mem _ hw), B.notSynchronized⟩
  obtain ⟨hx, hb, hr, hml, hown, ht, hlocks⟩ := id C0
  generalize hAe : va_A (wSuN ad cs ci ca cr) s.heap.size = A at hD hE ⊢
  have hA : ∀ q : Nat, s.heap.size ≤ q → A q := fun q h => by rw [← hAe]; exact Or.inr h
  have hS : va_S A s.heap s.heap [] := va_S.rf
  have hl := lv_entry ([.ref (ad 0)]) (n := 2) (Nat.le_of_ble_eq_true rfl)
  rw [lg_entry_eq]
  generalize (lg_sl ([.ref (ad 0)]) ++ List.replicate (2 - (lg_sl ([.ref (ad 0)])).length) Slot.unset).toArray = ls at hl ⊢
  obtain ⟨H, hH⟩ : ∃ H, H = s.heap := ⟨_, rfl⟩
  have hS : va_S A s.heap H [] := by rw [hH]; exact va_S.rf
  rw [← hH]
  have hP : va_P D classes (wSuN ad cs ci ca cr) H := by rw [hH]; exact hP
  clear hH
  have hl : lv_has ls 2 [(0, .ref (ad 0))] := hl
  refine lv_aload_n hx hb dX11_suit_0 rfl (lv_at hl 0 rfl) ?_
  refine va_get (D := D) (ci := 11) (v := .ref (ad 4)) (C := RX11) (T := TX11) (N := 11) hx hb ht iX11 hown hK hP 0 rfl rfl 0 (by decide) (ht _ kw_696) (fun _ h9 => h9) rfl dX11_suit_1 ?_
  refine va_get (D := D) (ci := 2) (v := .int (ci 2)) (C := RX2) (T := TX2) (N := 13) hx hb ht iX2 hown hK hP 1 rfl rfl 12 (by decide) (ht _ kw_155) (fun _ h9 => h9) rfl dX11_suit_4 ?_
  refine lv_bipush (v := (40 : Int32)) hx hb dX11_suit_7 (by decide) ?_
  refine lv_icmp_lt (tgt := 15) hx hb dX11_suit_9 (by decide) (fun cc => ?_) (fun cc => absurd hlt cc)
  refine lv_aload_n hx hb dX11_suit_15 rfl (lv_at hl 0 rfl) ?_
  refine va_get (D := D) (ci := 11) (v := .ref (ad 25)) (C := RX11) (T := TX11) (N := 11) hx hb ht iX11 hown hK hP 0 rfl rfl 3 (by decide) (ht _ kw_699) (fun _ h9 => h9) rfl dX11_suit_16 ?_
  refine lv_aload_n hx hb dX11_suit_19 rfl (lv_at hl 0 rfl) ?_
  refine va_get (D := D) (ci := 11) (v := .ref (ad 4)) (C := RX11) (T := TX11) (N := 11) hx hb ht iX11 hown hK hP 0 rfl rfl 0 (by decide) (ht _ kw_696) (fun _ h9 => h9) rfl dX11_suit_20 ?_
  refine va_get (D := D) (ci := 2) (v := .int (ci 1)) (C := RX2) (T := TX2) (N := 13) hx hb ht iX2 hown hK hP 1 rfl rfl 11 (by decide) (ht _ kw_153) (fun _ h9 => h9) rfl dX11_suit_23 ?_
  refine zk_vqO (post := (fun (r : Option Nat) (z : (Value × Int32 × Int32 × Int32 × Int32 × Int32 × Int32 × Int32 × Int32 × Int32 × Int32 × Int32 × Int32 × Int32 × Int32 × Int32 × Int32 × (Nat → Int32)) × Nat × Nat) => r = (if 0 ≤ (q_sr_spare, q_sr_at, q_sr_numberAt, q_sr_fault, r_who, r_against, r_kind, r_won, r_day, r_land, r_askedCount, r_askedBits, r_first, r_foundSo, r_foundNot, r_fought, r_needed, r_asked).2.2.2.1 then none else some z.2.1) ∧ z.1 = (q_sr_spare, q_sr_at, q_sr_numberAt, q_sr_fault, r_who, r_against, r_kind, r_won, r_day, r_land, r_askedCount, r_askedBits, r_first, r_foundSo, r_foundNot, r_fought, r_needed, r_asked))) (w1 := fun (z : (Value × Int32 × Int32 × Int32 × Int32 × Int32 × Int32 × Int32 × Int32 × Int32 × Int32 × Int32 × Int32 × Int32 × Int32 × Int32 × Int32 × (Nat → Int32)) × Nat × Nat) => (wl_X8_read ad cs z.2.1 z.2.2 (ci 6) (ca 15) (if 0 ≤ z.1.2.2.2.1 then .ref z.2.1 else .null) z.1.2.1 z.1.2.2.1 z.1.2.2.2.1 z.1.2.2.2.2.1 z.1.2.2.2.2.2.1 z.1.2.2.2.2.2.2.1 z.1.2.2.2.2.2.2.2.1 z.1.2.2.2.2.2.2.2.2.1 z.1.2.2.2.2.2.2.2.2.2.1 (-1) z.1.2.2.2.2.2.2.2.2.2.2.1 z.1.2.2.2.2.2.2.2.2.2.2.2.1 z.1.2.2.2.2.2.2.2.2.2.2.2.2.1 z.1.2.2.2.2.2.2.2.2.2.2.2.2.2.1 z.1.2.2.2.2.2.2.2.2.2.2.2.2.2.2.1 z.1.2.2.2.2.2.2.2.2.2.2.2.2.2.2.2.1 z.1.2.2.2.2.2.2.2.2.2.2.2.2.2.2.2.2.1 z.1.2.2.2.2.2.2.2.2.2.2.2.2.2.2.2.2.2)) (As := [.int ((ci 1))]) (rest := []) hO (c_X8_readN l D cs ad H.size ((ci 1)) (ci 6) (ca 15) (ci 7) (ci 8) (ci 9) (q_sr_spare, q_sr_at, q_sr_numberAt, q_sr_fault, r_who, r_against, r_kind, r_won, r_day, r_land, r_askedCount, r_askedBits, r_first, r_foundSo, r_foundNot, r_fought, r_needed, r_asked) h5) ⟨hx, hb, hml, hown, ht⟩ (cwV 1 ht g_sread rfl rfl rfl (by decide +kernel) ⟨Nat.le_of_ble_eq_true rfl, Nat.le_of_ble_eq_true rfl⟩) (va_recv hK hP (ci := 8) (q0 := 5) rfl rfl) hP hD hS hK hA [3, 4, 5] [0, 1, 2] rfl rfl rfl rfl (by decide) rfl hl.1 (Nat.le_of_ble_eq_true rfl) dX11_suit_26 ⟨Nat.le_of_ble_eq_true rfl, Nat.le_of_ble_eq_true rfl⟩ (fun r z H locs hq hP hD hS => ?_)
  obtain ⟨z1, h_su, h_q⟩ := z
  obtain ⟨hq1, hq2⟩ := hq
  dsimp only at hq1 hq2 hP hD
  subst hq2
  dsimp only at hP hD hq1
  rw [if_pos hfl] at hq1 hP hD
  subst hq1
  have hP : va_P D classes [((ad 0), .inr (11, [.ref (ad 4), .ref (ad 15), .ref (ad 23), .ref (ad 25), .ref (ad 26), .ref (ad 28), .ref (ad 34), .ref (ad 39), .ref (ad 1), .ref (ad 2), .ref (ad 3)])), ((ad 4), .inr (2, [.ref (ad 5), .ref (ad 6), .ref (ad 7), .ref (ad 8), .ref (ad 9), .ref (ad 10), .ref (ad 11), .ref (ad 12), .ref (ad 13), .ref (ad 14), .int (ci 0), .int (ci 1), .int (ci 2)])), ((ad 13), .inl (cs 5, 40, .inr (.inr (.inr (.inr (cr 0)))))), ((ad 23), .inr (9, [.ref (ad 24), .int (ci 6)])), ((ad 24), .inl (cs 0, 120, .inl (ca 15))), ((ad 25), .inr (8, [.ref (ad 23), .ref h_su, .int q_sr_at, .int q_sr_numberAt, .int q_sr_fault])), (h_su, .inr (7, [.int r_who, .int r_against, .int r_kind, .int r_won, .int r_day, .int r_land, .int (-1), .ref h_q, .int r_askedCount, .int r_askedBits, .int r_first, .int r_foundSo, .int r_foundNot, .int r_fought, .int r_needed])), (h_q, .inl (cs 0, 32, .inl r_asked))] H := hP.sub [0, 1, 2, 3, 4, 5, 6, 7] rfl
  have hD : va_D A [((ad 0), .inr (11, [.ref (ad 4), .ref (ad 15), .ref (ad 23), .ref (ad 25), .ref (ad 26), .ref (ad 28), .ref (ad 34), .ref (ad 39), .ref (ad 1), .ref (ad 2), .ref (ad 3)])), ((ad 4), .inr (2, [.ref (ad 5), .ref (ad 6), .ref (ad 7), .ref (ad 8), .ref (ad 9), .ref (ad 10), .ref (ad 11), .ref (ad 12), .ref (ad 13), .ref (ad 14), .int (ci 0), .int (ci 1), .int (ci 2)])), ((ad 13), .inl (cs 5, 40, .inr (.inr (.inr (.inr (cr 0)))))), ((ad 23), .inr (9, [.ref (ad 24), .int (ci 6)])), ((ad 24), .inl (cs 0, 120, .inl (ca 15))), ((ad 25), .inr (8, [.ref (ad 23), .ref h_su, .int q_sr_at, .int q_sr_numberAt, .int q_sr_fault])), (h_su, .inr (7, [.int r_who, .int r_against, .int r_kind, .int r_won, .int r_day, .int r_land, .int (-1), .ref h_q, .int r_askedCount, .int r_askedBits, .int r_first, .int r_foundSo, .int r_foundNot, .int r_fought, .int r_needed])), (h_q, .inl (cs 0, 32, .inl r_asked))] := hD.sub [0, 1, 2, 3, 4, 5, 6, 7] rfl rfl
  refine W.eq (g2 := F0 m 29 ls [.null]) rfl ?_
  refine lv_astore_nN (lv' := [(1, .null), (0, .ref (ad 0))]) hx hb dX11_suit_29 rfl hl (by decide) rfl (fun ls hl => ?_)
  refine lv_aload_n hx hb dX11_suit_30 rfl (lv_at hl 1 rfl) ?_
  refine va_get (D := D) (ci := 11) (v := .ref (ad 23)) (C := RX11) (T := TX11) (N := 11) hx hb ht iX11 hown hK hP 0 rfl rfl 2 (by decide) (ht _ kw_698) (fun _ h9 => h9) rfl dX11_suit_31 ?_
  refine lv_iconst (v := (0 : Int32)) hx hb dX11_suit_34 (by decide) ?_
  refine va_put (D := D) (ci := 9) (v := .int (0 : Int32)) (ty := .int) (C := RX9) (T := TX9) (N := 2) hx hb ht iX9 tyX9 tyX9_ok nmX9 hown hK hP hD hS 3 rfl rfl 1 (by decide) (ht _ kw_236) (fun _ h9 => h9) rfl (by decide +kernel) rfl rfl (Nat.le_of_ble_eq_true rfl) dX11_suit_35 (fun H locs hP hD hS => ?_)
  have hP : va_P D classes [((ad 0), .inr (11, [.ref (ad 4), .ref (ad 15), .ref (ad 23), .ref (ad 25), .ref (ad 26), .ref (ad 28), .ref (ad 34), .ref (ad 39), .ref (ad 1), .ref (ad 2), .ref (ad 3)])), ((ad 4), .inr (2, [.ref (ad 5), .ref (ad 6), .ref (ad 7), .ref (ad 8), .ref (ad 9), .ref (ad 10), .ref (ad 11), .ref (ad 12), .ref (ad 13), .ref (ad 14), .int (ci 0), .int (ci 1), .int (ci 2)])), ((ad 13), .inl (cs 5, 40, .inr (.inr (.inr (.inr (cr 0)))))), ((ad 23), .inr (9, [.ref (ad 24), .int (0 : Int32)])), ((ad 24), .inl (cs 0, 120, .inl (ca 15))), ((ad 25), .inr (8, [.ref (ad 23), .ref h_su, .int q_sr_at, .int q_sr_numberAt, .int q_sr_fault])), (h_su, .inr (7, [.int r_who, .int r_against, .int r_kind, .int r_won, .int r_day, .int r_land, .int (-1), .ref h_q, .int r_askedCount, .int r_askedBits, .int r_first, .int r_foundSo, .int r_foundNot, .int r_fought, .int r_needed])), (h_q, .inl (cs 0, 32, .inl r_asked))] H := hP
  have hD : va_D A [((ad 0), .inr (11, [.ref (ad 4), .ref (ad 15), .ref (ad 23), .ref (ad 25), .ref (ad 26), .ref (ad 28), .ref (ad 34), .ref (ad 39), .ref (ad 1), .ref (ad 2), .ref (ad 3)])), ((ad 4), .inr (2, [.ref (ad 5), .ref (ad 6), .ref (ad 7), .ref (ad 8), .ref (ad 9), .ref (ad 10), .ref (ad 11), .ref (ad 12), .ref (ad 13), .ref (ad 14), .int (ci 0), .int (ci 1), .int (ci 2)])), ((ad 13), .inl (cs 5, 40, .inr (.inr (.inr (.inr (cr 0)))))), ((ad 23), .inr (9, [.ref (ad 24), .int (0 : Int32)])), ((ad 24), .inl (cs 0, 120, .inl (ca 15))), ((ad 25), .inr (8, [.ref (ad 23), .ref h_su, .int q_sr_at, .int q_sr_numberAt, .int q_sr_fault])), (h_su, .inr (7, [.int r_who, .int r_against, .int r_kind, .int r_won, .int r_day, .int r_land, .int (-1), .ref h_q, .int r_askedCount, .int r_askedBits, .int r_first, .int r_foundSo, .int r_foundNot, .int r_fought, .int r_needed])), (h_q, .inl (cs 0, 32, .inl r_asked))] := hD
  refine lv_aload_nN hx hb dX11_suit_38 rfl (lv_at hl 0 rfl) ?_
  refine lv_ifnonnullN hx hb dX11_suit_39 ?_
  refine lv_bipush (v := (-100 : Int32)) hx hb dX11_suit_42 (by decide) ?_
  refine lv_aload_n hx hb dX11_suit_44 rfl (lv_at hl 1 rfl) ?_
  refine va_get (D := D) (ci := 11) (v := .ref (ad 25)) (C := RX11) (T := TX11) (N := 11) hx hb ht iX11 hown hK hP 0 rfl rfl 3 (by decide) (ht _ kw_699) (fun _ h9 => h9) rfl dX11_suit_45 ?_
  refine va_get (D := D) (ci := 8) (v := .int q_sr_fault) (C := RX8) (T := TX8) (N := 5) hx hb ht iX8 hown hK hP 5 rfl rfl 4 (by decide) (ht _ kw_256) (fun _ h9 => h9) rfl dX11_suit_48 ?_
  refine lv_isub hx hb dX11_suit_51 ?_
  refine W.widen (k := 2) (n := 47) (Nat.le_of_ble_eq_true rfl) (Nat.le_of_ble_eq_true rfl) ?_
  exact W.iret (v := (-100 : Int32) - q_sr_fault) hx hb hr (fun t ht2 hW => ⟨⟨(-100 : Int32) - q_sr_fault, (h_su, h_q), rfl, rfl, by rw [ht2]; exact hP, hD⟩, hS.F ht2⟩) hS.2.2 dX11_suit_52 hlocks
abbrev wSuS (ad : Nat → Nat) (cs : Nat → ClassId) (ci : Nat → Int32) (ca : Nat → Nat → Int32) (cr : Nat → Nat → Option Nat) (su q : Nat) : va_W := [((ad 0), .inr (11, [.ref (ad 4), .ref (ad 15), .ref (ad 23), .ref (ad 25), .ref (ad 26), .ref (ad 28), .ref (ad 34), .ref (ad 39), .ref (ad 1), .ref (ad 2), .ref (ad 3)])), ((ad 4), .inr (2, [.ref (ad 5), .ref (ad 6), .ref (ad 7), .ref (ad 8), .ref (ad 9), .ref (ad 10), .ref (ad 11), .ref (ad 12), .ref (ad 13), .ref (ad 14), .int (ci 0), .int (ci 1), .int (ci 2)])), ((ad 13), .inl (cs 5, 40, .inr (.inr (.inr (.inr (cr 0)))))), ((ad 23), .inr (9, [.ref (ad 24), .int (ci 6)])), ((ad 24), .inl (cs 0, 120, .inl (ca 15))), ((ad 25), .inr (8, [.ref (ad 23), .ref su, .int (ci 7), .int (ci 8), .int (ci 9)])), (su, .inr (7, [.int (ci 54), .int (ci 55), .int (ci 56), .int (ci 57), .int (ci 58), .int (ci 59), .int (ci 60), .ref q, .int (ci 61), .int (ci 62), .int (ci 63), .int (ci 64), .int (ci 65), .int (ci 66), .int (ci 67)])), (q, .inl (cs 0, 32, .inl (ca 42)))]
set_option maxHeartbeats 4000000 in
set_option maxRecDepth 100000 in
theorem c_X11_suitSB (l : Launch) (D : va_G) (cs : Nat → ClassId) (k : (Nat → Nat) × (Nat → Nat)) (sz : Nat) (ad : Nat → Nat) (ci : Nat → Int32) (ca : Nat → Nat → Int32) (cr : Nat → Nat → Option Nat) (su q : Nat) (hfull : ¬ (ci 2) < 40) : Met l yX11_suit z_X11_suit rm_X11_suit (va_Pc [.ref (ad 0)] (zPreE k D cs (wSuS ad cs ci ca cr su q) sz)) (va_Qi (fun (r : Int32) (_ : Unit) => r = (-3 : Int32)) (fun (u : Unit) (t : State) => va_P D classes (wSuS ad cs ci ca cr su q) t.heap ∧ va_D (va_A (wSuS ad cs ci ca cr su q) sz) (wSuS ad cs ci ca cr su q)) (va_A (wSuS ad cs ci ca cr su q) sz)) 2 47 (va_A (wSuS ad cs ci ca cr su q) sz) := by
  refine Met.ofW (cc := cX11_suit) (maxL := 2) (ret := (some .int)) (by decide) rfl ?_
  intro p e s m args below meth c s₁ B hml hv
  obtain ⟨rfl, ⟨⟨hsz, hP, hK, hD0⟩, hO⟩, hE⟩ := hv
  subst hsz
  have hD := hD0.self (sz := s.heap.size)
  have C0 : zC p s m _ meth c cX11_suit 2 (some .int) RX11 zW := ⟨B.exec, B.bytes, B.returns, hml, findClass_of_methodNamed B.named, fun w hw => atoms_spec (ws := z_X11_suit) B.pre w (List.mem_cons_of_mem _ hw), B.notSynchronized⟩
  obtain ⟨hx, hb, hr, hml, hown, ht, hlocks⟩ := id C0
  generalize hAe : va_A (wSuS ad cs ci ca cr su q) s.heap.size = A at hD hE ⊢
  have hA : ∀ q : Nat, s.heap.size ≤ q → A q := fun q h => by rw [← hAe]; exact Or.inr h
  have hS : va_S A s.heap s.heap [] := va_S.rf
  have hl := lv_entry ([.ref (ad 0)]) (n := 2) (Nat.le_of_ble_eq_true rfl)
  rw [lg_entry_eq]
  generalize (lg_sl ([.ref (ad 0)]) ++ List.replicate (2 - (lg_sl ([.ref (ad 0)])).length) Slot.unset).toArray = ls at hl ⊢
  obtain ⟨H, hH⟩ : ∃ H, H = s.heap := ⟨_, rfl⟩
  have hS : va_S A s.heap H [] := by rw [hH]; exact va_S.rf
  rw [← hH]
  have hP : va_P D classes (wSuS ad cs ci ca cr su q) H := by rw [hH]; exact hP
  clear hH
  have hl : lv_has ls 2 [(0, .ref (ad 0))] := hl
  refine lv_aload_n hx hb dX11_suit_0 rfl (lv_at hl 0 rfl) ?_
  refine va_get (D := D) (ci := 11) (v := .ref (ad 4)) (C := RX11) (T := TX11) (N := 11) hx hb ht iX11 hown hK hP 0 rfl rfl 0 (by decide) (ht _ kw_696) (fun _ h9 => h9) rfl dX11_suit_1 ?_
  refine va_get (D := D) (ci := 2) (v := .int (ci 2)) (C := RX2) (T := TX2) (N := 13) hx hb ht iX2 hown hK hP 1 rfl rfl 12 (by decide) (ht _ kw_155) (fun _ h9 => h9) rfl dX11_suit_4 ?_
  refine lv_bipush (v := (40 : Int32)) hx hb dX11_suit_7 (by decide) ?_
  refine lv_icmp_lt (tgt := 15) hx hb dX11_suit_9 (by decide) (fun cc => absurd cc hfull) (fun cc => ?_)
  refine lv_bipush (v := (-3 : Int32)) hx hb dX11_suit_12 (by decide) ?_
  refine W.widen (k := 2) (n := 47) (Nat.le_of_ble_eq_true rfl) (Nat.le_of_ble_eq_true rfl) ?_
  exact W.iret (v := (-3 : Int32)) hx hb hr (fun t ht2 hW => ⟨⟨(-3 : Int32), (), rfl, rfl, by rw [ht2]; exact hP, hD⟩, hS.F ht2⟩) hS.2.2 dX11_suit_14 hlocks
set_option maxHeartbeats 4000000 in
set_option maxRecDepth 100000 in
theorem c_X11_suitST (l : Launch) (D : va_G) (cs : Nat → ClassId) (k : (Nat → Nat) × (Nat → Nat)) (sz : Nat) (ad : Nat → Nat) (ci : Nat → Int32) (ca : Nat → Nat → Int32) (cr : Nat → Nat → Option Nat) (su q : Nat) (q_sr_spare : Value) (q_sr_at : Int32) (q_sr_numberAt : Int32) (q_sr_fault : Int32) (r_who : Int32) (r_against : Int32) (r_kind : Int32) (r_won : Int32) (r_day : Int32) (r_land : Int32) (r_askedCount : Int32) (r_askedBits : Int32) (r_first : Int32) (r_foundSo : Int32) (r_foundNot : Int32) (r_fought : Int32) (r_needed : Int32) (r_asked : Nat → Int32) (h5 : f_X8_read ((ci 1)) (ci 6) (ca 15) (.ref su) 0 (ci 8) (-1) (ci 54) (ci 55) (ci 56) (ci 57) (ci 58) (ci 59) (ci 60) 0 0 0 0 0 0 0 (ca 42) = some (q_sr_spare, q_sr_at, q_sr_numberAt, q_sr_fault, r_who, r_against, r_kind, r_won, r_day, r_land, r_askedCount, r_askedBits, r_first, r_foundSo, r_foundNot, r_fought, r_needed, r_asked)) (hlt : (ci 2) < 40) (hfl : ¬ 0 ≤ (q_sr_spare, q_sr_at, q_sr_numberAt, q_sr_fault, r_who, r_against, r_kind, r_won, r_day, r_land, r_askedCount, r_askedBits, r_first, r_foundSo, r_foundNot, r_fought, r_needed, r_asked).2.2.2.1) (hix : vp_in (ci 2) 40) : Met l yX11_suit z_X11_suit rm_X11_suit (va_Pc [.ref (ad 0)] (zPreE k D cs (wSuS ad cs ci ca cr su q) sz)) (va_Qi (fun (r : Int32) (_ : Nat × Nat) => r = ((ci 2) + (1 : Int32)) - (1 : Int32)) (fun (u : Nat × Nat) (t : State) => va_P D classes [((ad 0), .inr (11, [.ref (ad 4), .ref (ad 15), .ref (ad 23), .ref (ad 25), .ref (ad 26), .ref (ad 28), .ref (ad 34), .ref (ad 39), .ref (ad 1), .ref (ad 2), .ref (ad 3)])), ((ad 4), .inr (2, [.ref (ad 5), .ref (ad 6), .ref (ad 7), .ref (ad 8), .ref (ad 9), .ref (ad 10), .ref (ad 11), .ref (ad 12), .ref (ad 13), .ref (ad 14), .int (ci 0), .int (ci 1), .int ((ci 2) + (1 : Int32))])), ((ad 13), .inl (cs 5, 40, .inr (.inr (.inr (.inr (va_up (cr 0) (ci 2).toNatClampNeg (some u.1))))))), ((ad 23), .inr (9, [.ref (ad 24), .int (0 : Int32)])), ((ad 24), .inl (cs 0, 120, .inl (ca 15))), ((ad 25), .inr (8, [.ref (ad 23), .null, .int q_sr_at, .int q_sr_numberAt, .int q_sr_fault])), (u.1, .inr (7, [.int r_who, .int r_against, .int r_kind, .int r_won, .int r_day, .int r_land, .int (ci 60), .ref u.2, .int r_askedCount, .int r_askedBits, .int r_first, .int r_foundSo, .int r_foundNot, .int r_fought, .int r_needed])), (u.2, .inl (cs 0, 32, .inl r_asked))] t.heap ∧ va_D (va_A (wSuS ad cs ci ca cr su q) sz) [((ad 0), .inr (11, [.ref (ad 4), .ref (ad 15), .ref (ad 23), .ref (ad 25), .ref (ad 26), .ref (ad 28), .ref (ad 34), .ref (ad 39), .ref (ad 1), .ref (ad 2), .ref (ad 3)])), ((ad 4), .inr (2, [.ref (ad 5), .ref (ad 6), .ref (ad 7), .ref (ad 8), .ref (ad 9), .ref (ad 10), .ref (ad 11), .ref (ad 12), .ref (ad 13), .ref (ad 14), .int (ci 0), .int (ci 1), .int ((ci 2) + (1 : Int32))])), ((ad 13), .inl (cs 5, 40, .inr (.inr (.inr (.inr (va_up (cr 0) (ci 2).toNatClampNeg (some u.1))))))), ((ad 23), .inr (9, [.ref (ad 24), .int (0 : Int32)])), ((ad 24), .inl (cs 0, 120, .inl (ca 15))), ((ad 25), .inr (8, [.ref (ad 23), .null, .int q_sr_at, .int q_sr_numberAt, .int q_sr_fault])), (u.1, .inr (7, [.int r_who, .int r_against, .int r_kind, .int r_won, .int r_day, .int r_land, .int (ci 60), .ref u.2, .int r_askedCount, .int r_askedBits, .int r_first, .int r_foundSo, .int r_foundNot, .int r_fought, .int r_needed])), (u.2, .inl (cs 0, 32, .inl r_asked))]) (va_A (wSuS ad cs ci ca cr su q) sz)) 2 47 (va_A (wSuS ad cs ci ca cr su q) sz) := by
  refine Met.ofW (cc := cX11_suit) (maxL := 2) (ret := (some .int)) (by decide) rfl ?_
  intro p e s m args below meth c s₁ B hml hv
  obtain ⟨rfl, ⟨⟨hsz, hP, hK, hD0⟩, hO⟩, hE⟩ := hv
  subst hsz
  have hD := hD0.self (sz := s.heap.size)
  have C0 : zC p s m _ meth c cX11_suit 2 (some .int) RX11 zW := ⟨B.exec, B.bytes, B.returns, hml, findClass_of_methodNamed B.named, fun w hw => atoms_spec (ws := z_X11_suit) B.pre w (List.mem_cons_of_mem _ hw), B.notSynchronized⟩
  obtain ⟨hx, hb, hr, hml, hown, ht, hlocks⟩ := id C0
  generalize hAe : va_A (wSuS ad cs ci ca cr su q) s.heap.size = A at hD hE ⊢
  have hA : ∀ q : Nat, s.heap.size ≤ q → A q := fun q h => by rw [← hAe]; exact Or.inr h
  have hS : va_S A s.heap s.heap [] := va_S.rf
  have hl := lv_entry ([.ref (ad 0)]) (n := 2) (Nat.le_of_ble_eq_true rfl)
  rw [lg_entry_eq]
  generalize (lg_sl ([.ref (ad 0)]) ++ List.replicate (2 - (lg_sl ([.ref (ad 0)])).length) Slot.unset).toArray = ls at hl ⊢
  obtain ⟨H, hH⟩ : ∃ H, H = s.heap := ⟨_, rfl⟩
  have hS : va_S A s.heap H [] := by rw [hH]; exact va_S.rf
  rw [← hH]
  have hP : va_P D classes (wSuS ad cs ci ca cr su q) H := by rw [hH]; exact hP
  clear hH
  have hl : lv_has ls 2 [(0, .ref (ad 0))] := hl
  refine lv_aload_n hx hb dX11_suit_0 rfl (lv_at hl 0 rfl) ?_
  refine va_get (D := D) (ci := 11) (v := .ref (ad 4)) (C := RX11) (T := TX11) (N := 11) hx hb ht iX11 hown hK hP 0 rfl rfl 0 (by decide) (ht _ kw_696) (fun _ h9 => h9) rfl dX11_suit_1 ?_
  refine va_get (D := D) (ci := 2) (v := .int (ci 2)) (C := RX2) (T := TX2) (N := 13) hx hb ht iX2 hown hK hP 1 rfl rfl 12 (by decide) (ht _ kw_155) (fun _ h9 => h9) rfl dX11_suit_4 ?_
  refine lv_bipush (v := (40 : Int32)) hx hb dX11_suit_7 (by decide) ?_
  refine lv_icmp_lt (tgt := 15) hx hb dX11_suit_9 (by decide) (fun cc => ?_) (fun cc => absurd hlt cc)
  refine lv_aload_n hx hb dX11_suit_15 rfl (lv_at hl 0 rfl) ?_
  refine va_get (D := D) (ci := 11) (v := .ref (ad 25)) (C := RX11) (T := TX11) (N := 11) hx hb ht iX11 hown hK hP 0 rfl rfl 3 (by decide) (ht _ kw_699) (fun _ h9 => h9) rfl dX11_suit_16 ?_
  refine lv_aload_n hx hb dX11_suit_19 rfl (lv_at hl 0 rfl) ?_
  refine va_get (D := D) (ci := 11) (v := .ref (ad 4)) (C := RX11) (T := TX11) (N := 11) hx hb ht iX11 hown hK hP 0 rfl rfl 0 (by decide) (ht _ kw_696) (fun _ h9 => h9) rfl dX11_suit_20 ?_
  refine va_get (D := D) (ci := 2) (v := .int (ci 1)) (C := RX2) (T := TX2) (N := 13) hx hb ht iX2 hown hK hP 1 rfl rfl 11 (by decide) (ht _ kw_153) (fun _ h9 => h9) rfl dX11_suit_23 ?_
  refine zk_vqO (post := (fun (r : Option Nat) (z : (Value × Int32 × Int32 × Int32 × Int32 × Int32 × Int32 × Int32 × Int32 × Int32 × Int32 × Int32 × Int32 × Int32 × Int32 × Int32 × Int32 × (Nat → Int32)) × Nat × Nat) => r = (if 0 ≤ (q_sr_spare, q_sr_at, q_sr_numberAt, q_sr_fault, r_who, r_against, r_kind, r_won, r_day, r_land, r_askedCount, r_askedBits, r_first, r_foundSo, r_foundNot, r_fought, r_needed, r_asked).2.2.2.1 then none else some z.2.1) ∧ z.1 = (q_sr_spare, q_sr_at, q_sr_numberAt, q_sr_fault, r_who, r_against, r_kind, r_won, r_day, r_land, r_askedCount, r_askedBits, r_first, r_foundSo, r_foundNot, r_fought, r_needed, r_asked))) (w1 := fun (z : (Value × Int32 × Int32 × Int32 × Int32 × Int32 × Int32 × Int32 × Int32 × Int32 × Int32 × Int32 × Int32 × Int32 × Int32 × Int32 × Int32 × (Nat → Int32)) × Nat × Nat) => (wl_X8_read ad cs z.2.1 z.2.2 (ci 6) (ca 15) (if 0 ≤ z.1.2.2.2.1 then .ref z.2.1 else .null) z.1.2.1 z.1.2.2.1 z.1.2.2.2.1 z.1.2.2.2.2.1 z.1.2.2.2.2.2.1 z.1.2.2.2.2.2.2.1 z.1.2.2.2.2.2.2.2.1 z.1.2.2.2.2.2.2.2.2.1 z.1.2.2.2.2.2.2.2.2.2.1 (ci 60) z.1.2.2.2.2.2.2.2.2.2.2.1 z.1.2.2.2.2.2.2.2.2.2.2.2.1 z.1.2.2.2.2.2.2.2.2.2.2.2.2.1 z.1.2.2.2.2.2.2.2.2.2.2.2.2.2.1 z.1.2.2.2.2.2.2.2.2.2.2.2.2.2.2.1 z.1.2.2.2.2.2.2.2.2.2.2.2.2.2.2.2.1 z.1.2.2.2.2.2.2.2.2.2.2.2.2.2.2.2.2.1 z.1.2.2.2.2.2.2.2.2.2.2.2.2.2.2.2.2.2)) (As := [.int ((ci 1))]) (rest := []) hO (c_X8_readS l D cs ad H.size ((ci 1)) (ci 6) (ca 15) (ci 7) (ci 8) (ci 9) su q (ci 54) (ci 55) (ci 56) (ci 57) (ci 58) (ci 59) (ci 60) (ca 42) (ci 61) (ci 62) (ci 63) (ci 64) (ci 65) (ci 66) (ci 67) (q_sr_spare, q_sr_at, q_sr_numberAt, q_sr_fault, r_who, r_against, r_kind, r_won, r_day, r_land, r_askedCount, r_askedBits, r_first, r_foundSo, r_foundNot, r_fought, r_needed, r_asked) h5) ⟨hx, hb, hml, hown, ht⟩ (cwV 1 ht g_sread rfl rfl rfl (by decide +kernel) ⟨Nat.le_of_ble_eq_true rfl, Nat.le_of_ble_eq_true rfl⟩) (va_recv hK hP (ci := 8) (q0 := 5) rfl rfl) hP hD hS hK hA [3, 4, 5, 6, 7] [0, 1, 2] rfl rfl rfl rfl (by decide) rfl hl.1 (Nat.le_of_ble_eq_true rfl) dX11_suit_26 ⟨Nat.le_of_ble_eq_true rfl, Nat.le_of_ble_eq_true rfl⟩ (fun r z H locs hq hP hD hS => ?_)
  obtain ⟨z1, h_su, h_q⟩ := z
  obtain ⟨hq1, hq2⟩ := hq
  dsimp only at hq1 hq2 hP hD
  subst hq2
  dsimp only at hP hD hq1
  rw [if_neg hfl] at hq1 hP hD
  subst hq1
  have hP : va_P D classes [((ad 0), .inr (11, [.ref (ad 4), .ref (ad 15), .ref (ad 23), .ref (ad 25), .ref (ad 26), .ref (ad 28), .ref (ad 34), .ref (ad 39), .ref (ad 1), .ref (ad 2), .ref (ad 3)])), ((ad 4), .inr (2, [.ref (ad 5), .ref (ad 6), .ref (ad 7), .ref (ad 8), .ref (ad 9), .ref (ad 10), .ref (ad 11), .ref (ad 12), .ref (ad 13), .ref (ad 14), .int (ci 0), .int (ci 1), .int (ci 2)])), ((ad 13), .inl (cs 5, 40, .inr (.inr (.inr (.inr (cr 0)))))), ((ad 23), .inr (9, [.ref (ad 24), .int (ci 6)])), ((ad 24), .inl (cs 0, 120, .inl (ca 15))), ((ad 25), .inr (8, [.ref (ad 23), .null, .int q_sr_at, .int q_sr_numberAt, .int q_sr_fault])), (h_su, .inr (7, [.int r_who, .int r_against, .int r_kind, .int r_won, .int r_day, .int r_land, .int (ci 60), .ref h_q, .int r_askedCount, .int r_askedBits, .int r_first, .int r_foundSo, .int r_foundNot, .int r_fought, .int r_needed])), (h_q, .inl (cs 0, 32, .inl r_asked))] H := hP.sub [0, 1, 2, 3, 4, 5, 6, 7] rfl
  have hD : va_D A [((ad 0), .inr (11, [.ref (ad 4), .ref (ad 15), .ref (ad 23), .ref (ad 25), .ref (ad 26), .ref (ad 28), .ref (ad 34), .ref (ad 39), .ref (ad 1), .ref (ad 2), .ref (ad 3)])), ((ad 4), .inr (2, [.ref (ad 5), .ref (ad 6), .ref (ad 7), .ref (ad 8), .ref (ad 9), .ref (ad 10), .ref (ad 11), .ref (ad 12), .ref (ad 13), .ref (ad 14), .int (ci 0), .int (ci 1), .int (ci 2)])), ((ad 13), .inl (cs 5, 40, .inr (.inr (.inr (.inr (cr 0)))))), ((ad 23), .inr (9, [.ref (ad 24), .int (ci 6)])), ((ad 24), .inl (cs 0, 120, .inl (ca 15))), ((ad 25), .inr (8, [.ref (ad 23), .null, .int q_sr_at, .int q_sr_numberAt, .int q_sr_fault])), (h_su, .inr (7, [.int r_who, .int r_against, .int r_kind, .int r_won, .int r_day, .int r_land, .int (ci 60), .ref h_q, .int r_askedCount, .int r_askedBits, .int r_first, .int r_foundSo, .int r_foundNot, .int r_fought, .int r_needed])), (h_q, .inl (cs 0, 32, .inl r_asked))] := hD.sub [0, 1, 2, 3, 4, 5, 6, 7] rfl rfl
  refine W.eq (g2 := F0 m 29 ls [.ref h_su]) rfl ?_
  refine lv_astore_n (lv' := [(1, .ref h_su), (0, .ref (ad 0))]) hx hb dX11_suit_29 rfl hl (by decide) rfl (fun ls hl => ?_)
  refine lv_aload_n hx hb dX11_suit_30 rfl (lv_at hl 1 rfl) ?_
  refine va_get (D := D) (ci := 11) (v := .ref (ad 23)) (C := RX11) (T := TX11) (N := 11) hx hb ht iX11 hown hK hP 0 rfl rfl 2 (by decide) (ht _ kw_698) (fun _ h9 => h9) rfl dX11_suit_31 ?_
  refine lv_iconst (v := (0 : Int32)) hx hb dX11_suit_34 (by decide) ?_
  refine va_put (D := D) (ci := 9) (v := .int (0 : Int32)) (ty := .int) (C := RX9) (T := TX9) (N := 2) hx hb ht iX9 tyX9 tyX9_ok nmX9 hown hK hP hD hS 3 rfl rfl 1 (by decide) (ht _ kw_236) (fun _ h9 => h9) rfl (by decide +kernel) rfl rfl (Nat.le_of_ble_eq_true rfl) dX11_suit_35 (fun H locs hP hD hS => ?_)
  have hP : va_P D classes [((ad 0), .inr (11, [.ref (ad 4), .ref (ad 15), .ref (ad 23), .ref (ad 25), .ref (ad 26), .ref (ad 28), .ref (ad 34), .ref (ad 39), .ref (ad 1), .ref (ad 2), .ref (ad 3)])), ((ad 4), .inr (2, [.ref (ad 5), .ref (ad 6), .ref (ad 7), .ref (ad 8), .ref (ad 9), .ref (ad 10), .ref (ad 11), .ref (ad 12), .ref (ad 13), .ref (ad 14), .int (ci 0), .int (ci 1), .int (ci 2)])), ((ad 13), .inl (cs 5, 40, .inr (.inr (.inr (.inr (cr 0)))))), ((ad 23), .inr (9, [.ref (ad 24), .int (0 : Int32)])), ((ad 24), .inl (cs 0, 120, .inl (ca 15))), ((ad 25), .inr (8, [.ref (ad 23), .null, .int q_sr_at, .int q_sr_numberAt, .int q_sr_fault])), (h_su, .inr (7, [.int r_who, .int r_against, .int r_kind, .int r_won, .int r_day, .int r_land, .int (ci 60), .ref h_q, .int r_askedCount, .int r_askedBits, .int r_first, .int r_foundSo, .int r_foundNot, .int r_fought, .int r_needed])), (h_q, .inl (cs 0, 32, .inl r_asked))] H := hP
  have hD : va_D A [((ad 0), .inr (11, [.ref (ad 4), .ref (ad 15), .ref (ad 23), .ref (ad 25), .ref (ad 26), .ref (ad 28), .ref (ad 34), .ref (ad 39), .ref (ad 1), .ref (ad 2), .ref (ad 3)])), ((ad 4), .inr (2, [.ref (ad 5), .ref (ad 6), .ref (ad 7), .ref (ad 8), .ref (ad 9), .ref (ad 10), .ref (ad 11), .ref (ad 12), .ref (ad 13), .ref (ad 14), .int (ci 0), .int (ci 1), .int (ci 2)])), ((ad 13), .inl (cs 5, 40, .inr (.inr (.inr (.inr (cr 0)))))), ((ad 23), .inr (9, [.ref (ad 24), .int (0 : Int32)])), ((ad 24), .inl (cs 0, 120, .inl (ca 15))), ((ad 25), .inr (8, [.ref (ad 23), .null, .int q_sr_at, .int q_sr_numberAt, .int q_sr_fault])), (h_su, .inr (7, [.int r_who, .int r_against, .int r_kind, .int r_won, .int r_day, .int r_land, .int (ci 60), .ref h_q, .int r_askedCount, .int r_askedBits, .int r_first, .int r_foundSo, .int r_foundNot, .int r_fought, .int r_needed])), (h_q, .inl (cs 0, 32, .inl r_asked))] := hD
  refine lv_aload_n hx hb dX11_suit_38 rfl (lv_at hl 0 rfl) ?_
  refine lv_ifnonnull (tgt := 53) hx hb dX11_suit_39 (by decide) ?_
  refine lv_aload_n hx hb dX11_suit_53 rfl (lv_at hl 1 rfl) ?_
  refine va_get (D := D) (ci := 11) (v := .ref (ad 4)) (C := RX11) (T := TX11) (N := 11) hx hb ht iX11 hown hK hP 0 rfl rfl 0 (by decide) (ht _ kw_696) (fun _ h9 => h9) rfl dX11_suit_54 ?_
  refine lv_aload_n hx hb dX11_suit_57 rfl (lv_at hl 0 rfl) ?_
  have hix : vp_in (ci 2) 40 := hix
  refine zk_vi (post := fun (r : Int32) (_ : Unit) => r = ((ci 2) + (1 : Int32)) - (1 : Int32)) (w1 := fun (_ : Unit) => [((ad 4), .inr (2, [.ref (ad 5), .ref (ad 6), .ref (ad 7), .ref (ad 8), .ref (ad 9), .ref (ad 10), .ref (ad 11), .ref (ad 12), .ref (ad 13), .ref (ad 14), .int (ci 0), .int (ci 1), .int ((ci 2) + (1 : Int32))])), ((ad 13), .inl (cs 5, 40, .inr (.inr (.inr (.inr (va_up (cr 0) (ci 2).toNatClampNeg (some h_su))))))), (h_su, .inr (7, [.int r_who, .int r_against, .int r_kind, .int r_won, .int r_day, .int r_land, .int (ci 60), .ref h_q, .int r_askedCount, .int r_askedBits, .int r_first, .int r_foundSo, .int r_foundNot, .int r_fought, .int r_needed]))]) (As := [.ref h_su]) (rest := []) (c_X2_addSuit l D cs H.size (ad 5) (ad 6) (ad 7) (ad 8) (ad 9) (ad 10) (ad 11) (ad 12) (ad 13) (ad 14) (ci 0) (ci 1) (ci 2) (ad 4) h_su (cr 0) [.int r_who, .int r_against, .int r_kind, .int r_won, .int r_day, .int r_land, .int (ci 60), .ref h_q, .int r_askedCount, .int r_askedBits, .int r_first, .int r_foundSo, .int r_foundNot, .int r_fought, .int r_needed] hlt hix) ⟨hx, hb, hml, hown, ht⟩ (cwV 1 ht g_addSuit rfl rfl rfl (by decide +kernel) ⟨Nat.le_of_ble_eq_true rfl, Nat.le_of_ble_eq_true rfl⟩) (va_recv hK hP (ci := 2) (q0 := 1) rfl rfl) hP hD hS hK hA [1, 2, 6] [0, 3, 4, 5, 7] rfl rfl rfl rfl (by decide) rfl hl.1 (Nat.le_of_ble_eq_true rfl) dX11_suit_58 ⟨Nat.le_of_ble_eq_true rfl, Nat.le_of_ble_eq_true rfl⟩ (fun r u H locs hq hP hD hS => ?_)
  subst hq
  have hP : va_P D classes [((ad 0), .inr (11, [.ref (ad 4), .ref (ad 15), .ref (ad 23), .ref (ad 25), .ref (ad 26), .ref (ad 28), .ref (ad 34), .ref (ad 39), .ref (ad 1), .ref (ad 2), .ref (ad 3)])), ((ad 4), .inr (2, [.ref (ad 5), .ref (ad 6), .ref (ad 7), .ref (ad 8), .ref (ad 9), .ref (ad 10), .ref (ad 11), .ref (ad 12), .ref (ad 13), .ref (ad 14), .int (ci 0), .int (ci 1), .int ((ci 2) + (1 : Int32))])), ((ad 13), .inl (cs 5, 40, .inr (.inr (.inr (.inr (va_up (cr 0) (ci 2).toNatClampNeg (some h_su))))))), ((ad 23), .inr (9, [.ref (ad 24), .int (0 : Int32)])), ((ad 24), .inl (cs 0, 120, .inl (ca 15))), ((ad 25), .inr (8, [.ref (ad 23), .null, .int q_sr_at, .int q_sr_numberAt, .int q_sr_fault])), (h_su, .inr (7, [.int r_who, .int r_against, .int r_kind, .int r_won, .int r_day, .int r_land, .int (ci 60), .ref h_q, .int r_askedCount, .int r_askedBits, .int r_first, .int r_foundSo, .int r_foundNot, .int r_fought, .int r_needed])), (h_q, .inl (cs 0, 32, .inl r_asked))] H := hP.sub [0, 5, 6, 1, 2, 3, 7, 4] rfl
  have hD : va_D A [((ad 0), .inr (11, [.ref (ad 4), .ref (ad 15), .ref (ad 23), .ref (ad 25), .ref (ad 26), .ref (ad 28), .ref (ad 34), .ref (ad 39), .ref (ad 1), .ref (ad 2), .ref (ad 3)])), ((ad 4), .inr (2, [.ref (ad 5), .ref (ad 6), .ref (ad 7), .ref (ad 8), .ref (ad 9), .ref (ad 10), .ref (ad 11), .ref (ad 12), .ref (ad 13), .ref (ad 14), .int (ci 0), .int (ci 1), .int ((ci 2) + (1 : Int32))])), ((ad 13), .inl (cs 5, 40, .inr (.inr (.inr (.inr (va_up (cr 0) (ci 2).toNatClampNeg (some h_su))))))), ((ad 23), .inr (9, [.ref (ad 24), .int (0 : Int32)])), ((ad 24), .inl (cs 0, 120, .inl (ca 15))), ((ad 25), .inr (8, [.ref (ad 23), .null, .int q_sr_at, .int q_sr_numberAt, .int q_sr_fault])), (h_su, .inr (7, [.int r_who, .int r_against, .int r_kind, .int r_won, .int r_day, .int r_land, .int (ci 60), .ref h_q, .int r_askedCount, .int r_askedBits, .int r_first, .int r_foundSo, .int r_foundNot, .int r_fought, .int r_needed])), (h_q, .inl (cs 0, 32, .inl r_asked))] := hD.sub [0, 5, 6, 1, 2, 3, 7, 4] rfl rfl
  refine W.widen (k := 2) (n := 47) (Nat.le_of_ble_eq_true rfl) (Nat.le_of_ble_eq_true rfl) ?_
  exact W.iret (v := ((ci 2) + (1 : Int32)) - (1 : Int32)) hx hb hr (fun t ht2 hW => ⟨⟨((ci 2) + (1 : Int32)) - (1 : Int32), (h_su, h_q), rfl, rfl, by rw [ht2]; exact hP, hD⟩, hS.F ht2⟩) hS.2.2 dX11_suit_61 hlocks
set_option maxHeartbeats 4000000 in
set_option maxRecDepth 100000 in
theorem c_X11_suitSF (l : Launch) (D : va_G) (cs : Nat → ClassId) (k : (Nat → Nat) × (Nat → Nat)) (sz : Nat) (ad : Nat → Nat) (ci : Nat → Int32) (ca : Nat → Nat → Int32) (cr : Nat → Nat → Option Nat) (su q : Nat) (q_sr_spare : Value) (q_sr_at : Int32) (q_sr_numberAt : Int32) (q_sr_fault : Int32) (r_who : Int32) (r_against : Int32) (r_kind : Int32) (r_won : Int32) (r_day : Int32) (r_land : Int32) (r_askedCount : Int32) (r_askedBits : Int32) (r_first : Int32) (r_foundSo : Int32) (r_foundNot : Int32) (r_fought : Int32) (r_needed : Int32) (r_asked : Nat → Int32) (h5 : f_X8_read ((ci 1)) (ci 6) (ca 15) (.ref su) 0 (ci 8) (-1) (ci 54) (ci 55) (ci 56) (ci 57) (ci 58) (ci 59) (ci 60) 0 0 0 0 0 0 0 (ca 42) = some (q_sr_spare, q_sr_at, q_sr_numberAt, q_sr_fault, r_who, r_against, r_kind, r_won, r_day, r_land, r_askedCount, r_askedBits, r_first, r_foundSo, r_foundNot, r_fought, r_needed, r_asked)) (hlt : (ci 2) < 40) (hfl : 0 ≤ (q_sr_spare, q_sr_at, q_sr_numberAt, q_sr_fault, r_who, r_against, r_kind, r_won, r_day, r_land, r_askedCount, r_askedBits, r_first, r_foundSo, r_foundNot, r_fought, r_needed, r_asked).2.2.2.1) : Met l yX11_suit z_X11_suit rm_X11_suit (va_Pc [.ref (ad 0)] (zPreE k D cs (wSuS ad cs ci ca cr su q) sz)) (va_Qi (fun (r : Int32) (_ : Nat × Nat) => r = (-100 : Int32) - q_sr_fault) (fun (u : Nat × Nat) (t : State) => va_P D classes [((ad 0), .inr (11, [.ref (ad 4), .ref (ad 15), .ref (ad 23), .ref (ad 25), .ref (ad 26), .ref (ad 28), .ref (ad 34), .ref (ad 39), .ref (ad 1), .ref (ad 2), .ref (ad 3)])), ((ad 4), .inr (2, [.ref (ad 5), .ref (ad 6), .ref (ad 7), .ref (ad 8), .ref (ad 9), .ref (ad 10), .ref (ad 11), .ref (ad 12), .ref (ad 13), .ref (ad 14), .int (ci 0), .int (ci 1), .int (ci 2)])), ((ad 13), .inl (cs 5, 40, .inr (.inr (.inr (.inr (cr 0)))))), ((ad 23), .inr (9, [.ref (ad 24), .int (0 : Int32)])), ((ad 24), .inl (cs 0, 120, .inl (ca 15))), ((ad 25), .inr (8, [.ref (ad 23), .ref u.1, .int q_sr_at, .int q_sr_numberAt, .int q_sr_fault])), (u.1, .inr (7, [.int r_who, .int r_against, .int r_kind, .int r_won, .int r_day, .int r_land, .int (ci 60), .ref u.2, .int r_askedCount, .int r_askedBits, .int r_first, .int r_foundSo, .int r_foundNot, .int r_fought, .int r_needed])), (u.2, .inl (cs 0, 32, .inl r_asked))] t.heap ∧ va_D (va_A (wSuS ad cs ci ca cr su q) sz) [((ad 0), .inr (11, [.ref (ad 4), .ref (ad 15), .ref (ad 23), .ref (ad 25), .ref (ad 26), .ref (ad 28), .ref (ad 34), .ref (ad 39), .ref (ad 1), .ref (ad 2), .ref (ad 3)])), ((ad 4), .inr (2, [.ref (ad 5), .ref (ad 6), .ref (ad 7), .ref (ad 8), .ref (ad 9), .ref (ad 10), .ref (ad 11), .ref (ad 12), .ref (ad 13), .ref (ad 14), .int (ci 0), .int (ci 1), .int (ci 2)])), ((ad 13), .inl (cs 5, 40, .inr (.inr (.inr (.inr (cr 0)))))), ((ad 23), .inr (9, [.ref (ad 24), .int (0 : Int32)])), ((ad 24), .inl (cs 0, 120, .inl (ca 15))), ((ad 25), .inr (8, [.ref (ad 23), .ref u.1, .int q_sr_at, .int q_sr_numberAt, .int q_sr_fault])), (u.1, .inr (7, [.int r_who, .int r_against, .int r_kind, .int r_won, .int r_day, .int r_land, .int (ci 60), .ref u.2, .int r_askedCount, .int r_askedBits, .int r_first, .int r_foundSo, .int r_foundNot, .int r_fought, .int r_needed])), (u.2, .inl (cs 0, 32, .inl r_asked))]) (va_A (wSuS ad cs ci ca cr su q) sz)) 2 47 (va_A (wSuS ad cs ci ca cr su q) sz) := by
  refine Met.ofW (cc := cX11_suit) (maxL := 2) (ret := (some .int)) (by decide) rfl ?_
  intro p e s m args below meth c s₁ B hml hv
  obtain ⟨rfl, ⟨⟨hsz, hP, hK, hD0⟩, hO⟩, hE⟩ := hv
  subst hsz
  have hD := hD0.self (sz := s.heap.size)
  have C0 : zC p s m _ meth c cX11_suit 2 (some .int) RX11 zW := ⟨B.exec, B.bytes, B.returns, hml, findClass_of_methodNamed B.named, fun w hw => atoms_spec (ws := z_X11_suit) B.pre w (List.mem_cons_of_mem _ hw), B.notSynchronized⟩
  obtain ⟨hx, hb, hr, hml, hown, ht, hlocks⟩ := id C0
  generalize hAe : va_A (wSuS ad cs ci ca cr su q) s.heap.size = A at hD hE ⊢
  have hA : ∀ q : Nat, s.heap.size ≤ q → A q := fun q h => by rw [← hAe]; exact Or.inr h
  have hS : va_S A s.heap s.heap [] := va_S.rf
  have hl := lv_entry ([.ref (ad 0)]) (n := 2) (Nat.le_of_ble_eq_true rfl)
  rw [lg_entry_eq]
  generalize (lg_sl ([.ref (ad 0)]) ++ List.replicate (2 - (lg_sl ([.ref (ad 0)])).length) Slot.unset).toArray = ls at hl ⊢
  obtain ⟨H, hH⟩ : ∃ H, H = s.heap := ⟨_, rfl⟩
  have hS : va_S A s.heap H [] := by rw [hH]; exact va_S.rf
  rw [← hH]
  have hP : va_P D classes (wSuS ad cs ci ca cr su q) H := by rw [hH]; exact hP
  clear hH
  have hl : lv_has ls 2 [(0, .ref (ad 0))] := hl
  refine lv_aload_n hx hb dX11_suit_0 rfl (lv_at hl 0 rfl) ?_
  refine va_get (D := D) (ci := 11) (v := .ref (ad 4)) (C := RX11) (T := TX11) (N := 11) hx hb ht iX11 hown hK hP 0 rfl rfl 0 (by decide) (ht _ kw_696) (fun _ h9 => h9) rfl dX11_suit_1 ?_
  refine va_get (D := D) (ci := 2) (v := .int (ci 2)) (C := RX2) (T := TX2) (N := 13) hx hb ht iX2 hown hK hP 1 rfl rfl 12 (by decide) (ht _ kw_155) (fun _ h9 => h9) rfl dX11_suit_4 ?_
  refine lv_bipush (v := (40 : Int32)) hx hb dX11_suit_7 (by decide) ?_
  refine lv_icmp_lt (tgt := 15) hx hb dX11_suit_9 (by decide) (fun cc => ?_) (fun cc => absurd hlt cc)
  refine lv_aload_n hx hb dX11_suit_15 rfl (lv_at hl 0 rfl) ?_
  refine va_get (D := D) (ci := 11) (v := .ref (ad 25)) (C := RX11) (T := TX11) (N := 11) hx hb ht iX11 hown hK hP 0 rfl rfl 3 (by decide) (ht _ kw_699) (fun _ h9 => h9) rfl dX11_suit_16 ?_
  refine lv_aload_n hx hb dX11_suit_19 rfl (lv_at hl 0 rfl) ?_
  refine va_get (D := D) (ci := 11) (v := .ref (ad 4)) (C := RX11) (T := TX11) (N := 11) hx hb ht iX11 hown hK hP 0 rfl rfl 0 (by decide) (ht _ kw_696) (fun _ h9 => h9) rfl dX11_suit_20 ?_
  refine va_get (D := D) (ci := 2) (v := .int (ci 1)) (C := RX2) (T := TX2) (N := 13) hx hb ht iX2 hown hK hP 1 rfl rfl 11 (by decide) (ht _ kw_153) (fun _ h9 => h9) rfl dX11_suit_23 ?_
  refine zk_vqO (post := (fun (r : Option Nat) (z : (Value × Int32 × Int32 × Int32 × Int32 × Int32 × Int32 × Int32 × Int32 × Int32 × Int32 × Int32 × Int32 × Int32 × Int32 × Int32 × Int32 × (Nat → Int32)) × Nat × Nat) => r = (if 0 ≤ (q_sr_spare, q_sr_at, q_sr_numberAt, q_sr_fault, r_who, r_against, r_kind, r_won, r_day, r_land, r_askedCount, r_askedBits, r_first, r_foundSo, r_foundNot, r_fought, r_needed, r_asked).2.2.2.1 then none else some z.2.1) ∧ z.1 = (q_sr_spare, q_sr_at, q_sr_numberAt, q_sr_fault, r_who, r_against, r_kind, r_won, r_day, r_land, r_askedCount, r_askedBits, r_first, r_foundSo, r_foundNot, r_fought, r_needed, r_asked))) (w1 := fun (z : (Value × Int32 × Int32 × Int32 × Int32 × Int32 × Int32 × Int32 × Int32 × Int32 × Int32 × Int32 × Int32 × Int32 × Int32 × Int32 × Int32 × (Nat → Int32)) × Nat × Nat) => (wl_X8_read ad cs z.2.1 z.2.2 (ci 6) (ca 15) (if 0 ≤ z.1.2.2.2.1 then .ref z.2.1 else .null) z.1.2.1 z.1.2.2.1 z.1.2.2.2.1 z.1.2.2.2.2.1 z.1.2.2.2.2.2.1 z.1.2.2.2.2.2.2.1 z.1.2.2.2.2.2.2.2.1 z.1.2.2.2.2.2.2.2.2.1 z.1.2.2.2.2.2.2.2.2.2.1 (ci 60) z.1.2.2.2.2.2.2.2.2.2.2.1 z.1.2.2.2.2.2.2.2.2.2.2.2.1 z.1.2.2.2.2.2.2.2.2.2.2.2.2.1 z.1.2.2.2.2.2.2.2.2.2.2.2.2.2.1 z.1.2.2.2.2.2.2.2.2.2.2.2.2.2.2.1 z.1.2.2.2.2.2.2.2.2.2.2.2.2.2.2.2.1 z.1.2.2.2.2.2.2.2.2.2.2.2.2.2.2.2.2.1 z.1.2.2.2.2.2.2.2.2.2.2.2.2.2.2.2.2.2)) (As := [.int ((ci 1))]) (rest := []) hO (c_X8_readS l D cs ad H.size ((ci 1)) (ci 6) (ca 15) (ci 7) (ci 8) (ci 9) su q (ci 54) (ci 55) (ci 56) (ci 57) (ci 58) (ci 59) (ci 60) (ca 42) (ci 61) (ci 62) (ci 63) (ci 64) (ci 65) (ci 66) (ci 67) (q_sr_spare, q_sr_at, q_sr_numberAt, q_sr_fault, r_who, r_against, r_kind, r_won, r_day, r_land, r_askedCount, r_askedBits, r_first, r_foundSo, r_foundNot, r_fought, r_needed, r_asked) h5) ⟨hx, hb, hml, hown, ht⟩ (cwV 1 ht g_sread rfl rfl rfl (by decide +kernel) ⟨Nat.le_of_ble_eq_true rfl, Nat.le_of_ble_eq_true rfl⟩) (va_recv hK hP (ci := 8) (q0 := 5) rfl rfl) hP hD hS hK hA [3, 4, 5, 6, 7] [0, 1, 2] rfl rfl rfl rfl (by decide) rfl hl.1 (Nat.le_of_ble_eq_true rfl) dX11_suit_26 ⟨Nat.le_of_ble_eq_true rfl, Nat.le_of_ble_eq_true rfl⟩ (fun r z H locs hq hP hD hS => ?_)
  obtain ⟨z1, h_su, h_q⟩ := z
  obtain ⟨hq1, hq2⟩ := hq
  dsimp only at hq1 hq2 hP hD
  subst hq2
  dsimp only at hP hD hq1
  rw [if_pos hfl] at hq1 hP hD
  subst hq1
  have hP : va_P D classes [((ad 0), .inr (11, [.ref (ad 4), .ref (ad 15), .ref (ad 23), .ref (ad 25), .ref (ad 26), .ref (ad 28), .ref (ad 34), .ref (ad 39), .ref (ad 1), .ref (ad 2), .ref (ad 3)])), ((ad 4), .inr (2, [.ref (ad 5), .ref (ad 6), .ref (ad 7), .ref (ad 8), .ref (ad 9), .ref (ad 10), .ref (ad 11), .ref (ad 12), .ref (ad 13), .ref (ad 14), .int (ci 0), .int (ci 1), .int (ci 2)])), ((ad 13), .inl (cs 5, 40, .inr (.inr (.inr (.inr (cr 0)))))), ((ad 23), .inr (9, [.ref (ad 24), .int (ci 6)])), ((ad 24), .inl (cs 0, 120, .inl (ca 15))), ((ad 25), .inr (8, [.ref (ad 23), .ref h_su, .int q_sr_at, .int q_sr_numberAt, .int q_sr_fault])), (h_su, .inr (7, [.int r_who, .int r_against, .int r_kind, .int r_won, .int r_day, .int r_land, .int (ci 60), .ref h_q, .int r_askedCount, .int r_askedBits, .int r_first, .int r_foundSo, .int r_foundNot, .int r_fought, .int r_needed])), (h_q, .inl (cs 0, 32, .inl r_asked))] H := hP.sub [0, 1, 2, 3, 4, 5, 6, 7] rfl
  have hD : va_D A [((ad 0), .inr (11, [.ref (ad 4), .ref (ad 15), .ref (ad 23), .ref (ad 25), .ref (ad 26), .ref (ad 28), .ref (ad 34), .ref (ad 39), .ref (ad 1), .ref (ad 2), .ref (ad 3)])), ((ad 4), .inr (2, [.ref (ad 5), .ref (ad 6), .ref (ad 7), .ref (ad 8), .ref (ad 9), .ref (ad 10), .ref (ad 11), .ref (ad 12), .ref (ad 13), .ref (ad 14), .int (ci 0), .int (ci 1), .int (ci 2)])), ((ad 13), .inl (cs 5, 40, .inr (.inr (.inr (.inr (cr 0)))))), ((ad 23), .inr (9, [.ref (ad 24), .int (ci 6)])), ((ad 24), .inl (cs 0, 120, .inl (ca 15))), ((ad 25), .inr (8, [.ref (ad 23), .ref h_su, .int q_sr_at, .int q_sr_numberAt, .int q_sr_fault])), (h_su, .inr (7, [.int r_who, .int r_against, .int r_kind, .int r_won, .int r_day, .int r_land, .int (ci 60), .ref h_q, .int r_askedCount, .int r_askedBits, .int r_first, .int r_foundSo, .int r_foundNot, .int r_fought, .int r_needed])), (h_q, .inl (cs 0, 32, .inl r_asked))] := hD.sub [0, 1, 2, 3, 4, 5, 6, 7] rfl rfl
  refine W.eq (g2 := F0 m 29 ls [.null]) rfl ?_
  refine lv_astore_nN (lv' := [(1, .null), (0, .ref (ad 0))]) hx hb dX11_suit_29 rfl hl (by decide) rfl (fun ls hl => ?_)
  refine lv_aload_n hx hb dX11_suit_30 rfl (lv_at hl 1 rfl) ?_
  refine va_get (D := D) (ci := 11) (v := .ref (ad 23)) (C := RX11) (T := TX11) (N := 11) hx hb ht iX11 hown hK hP 0 rfl rfl 2 (by decide) (ht _ kw_698) (fun _ h9 => h9) rfl dX11_suit_31 ?_
  refine lv_iconst (v := (0 : Int32)) hx hb dX11_suit_34 (by decide) ?_
  refine va_put (D := D) (ci := 9) (v := .int (0 : Int32)) (ty := .int) (C := RX9) (T := TX9) (N := 2) hx hb ht iX9 tyX9 tyX9_ok nmX9 hown hK hP hD hS 3 rfl rfl 1 (by decide) (ht _ kw_236) (fun _ h9 => h9) rfl (by decide +kernel) rfl rfl (Nat.le_of_ble_eq_true rfl) dX11_suit_35 (fun H locs hP hD hS => ?_)
  have hP : va_P D classes [((ad 0), .inr (11, [.ref (ad 4), .ref (ad 15), .ref (ad 23), .ref (ad 25), .ref (ad 26), .ref (ad 28), .ref (ad 34), .ref (ad 39), .ref (ad 1), .ref (ad 2), .ref (ad 3)])), ((ad 4), .inr (2, [.ref (ad 5), .ref (ad 6), .ref (ad 7), .ref (ad 8), .ref (ad 9), .ref (ad 10), .ref (ad 11), .ref (ad 12), .ref (ad 13), .ref (ad 14), .int (ci 0), .int (ci 1), .int (ci 2)])), ((ad 13), .inl (cs 5, 40, .inr (.inr (.inr (.inr (cr 0)))))), ((ad 23), .inr (9, [.ref (ad 24), .int (0 : Int32)])), ((ad 24), .inl (cs 0, 120, .inl (ca 15))), ((ad 25), .inr (8, [.ref (ad 23), .ref h_su, .int q_sr_at, .int q_sr_numberAt, .int q_sr_fault])), (h_su, .inr (7, [.int r_who, .int r_against, .int r_kind, .int r_won, .int r_day, .int r_land, .int (ci 60), .ref h_q, .int r_askedCount, .int r_askedBits, .int r_first, .int r_foundSo, .int r_foundNot, .int r_fought, .int r_needed])), (h_q, .inl (cs 0, 32, .inl r_asked))] H := hP
  have hD : va_D A [((ad 0), .inr (11, [.ref (ad 4), .ref (ad 15), .ref (ad 23), .ref (ad 25), .ref (ad 26), .ref (ad 28), .ref (ad 34), .ref (ad 39), .ref (ad 1), .ref (ad 2), .ref (ad 3)])), ((ad 4), .inr (2, [.ref (ad 5), .ref (ad 6), .ref (ad 7), .ref (ad 8), .ref (ad 9), .ref (ad 10), .ref (ad 11), .ref (ad 12), .ref (ad 13), .ref (ad 14), .int (ci 0), .int (ci 1), .int (ci 2)])), ((ad 13), .inl (cs 5, 40, .inr (.inr (.inr (.inr (cr 0)))))), ((ad 23), .inr (9, [.ref (ad 24), .int (0 : Int32)])), ((ad 24), .inl (cs 0, 120, .inl (ca 15))), ((ad 25), .inr (8, [.ref (ad 23), .ref h_su, .int q_sr_at, .int q_sr_numberAt, .int q_sr_fault])), (h_su, .inr (7, [.int r_who, .int r_against, .int r_kind, .int r_won, .int r_day, .int r_land, .int (ci 60), .ref h_q, .int r_askedCount, .int r_askedBits, .int r_first, .int r_foundSo, .int r_foundNot, .int r_fought, .int r_needed])), (h_q, .inl (cs 0, 32, .inl r_asked))] := hD
  refine lv_aload_nN hx hb dX11_suit_38 rfl (lv_at hl 0 rfl) ?_
  refine lv_ifnonnullN hx hb dX11_suit_39 ?_
  refine lv_bipush (v := (-100 : Int32)) hx hb dX11_suit_42 (by decide) ?_
  refine lv_aload_n hx hb dX11_suit_44 rfl (lv_at hl 1 rfl) ?_
  refine va_get (D := D) (ci := 11) (v := .ref (ad 25)) (C := RX11) (T := TX11) (N := 11) hx hb ht iX11 hown hK hP 0 rfl rfl 3 (by decide) (ht _ kw_699) (fun _ h9 => h9) rfl dX11_suit_45 ?_
  refine va_get (D := D) (ci := 8) (v := .int q_sr_fault) (C := RX8) (T := TX8) (N := 5) hx hb ht iX8 hown hK hP 5 rfl rfl 4 (by decide) (ht _ kw_256) (fun _ h9 => h9) rfl dX11_suit_48 ?_
  refine lv_isub hx hb dX11_suit_51 ?_
  refine W.widen (k := 2) (n := 47) (Nat.le_of_ble_eq_true rfl) (Nat.le_of_ble_eq_true rfl) ?_
  exact W.iret (v := (-100 : Int32) - q_sr_fault) hx hb hr (fun t ht2 hW => ⟨⟨(-100 : Int32) - q_sr_fault, (h_su, h_q), rfl, rfl, by rw [ht2]; exact hP, hD⟩, hS.F ht2⟩) hS.2.2 dX11_suit_52 hlocks
