theorem kw_1282 : Cond.methodLink RX11 384 yX11_isUnder ∈ zW := zwC (i := 8) zc_6 rfl rfl
theorem kw_1283 : Cond.static yX11_isUnder ∈ zW := zwC (i := 9) zc_6 rfl rfl
theorem kw_1284 : Cond.code yX11_isUnder cX11_isUnder 4 (some .boolean) ∈ zW := zwC (i := 10) zc_6 rfl rfl
theorem zh_cX11_taken_0 : zck [42, 27, 182, 0, 111, 78, 45, 198, 0, 13, 28, 155, 0, 9, 28, 16, 7, 161, 0, 5, 2, 172] (zdu 0 cX11_taken.data.toList) = true := by decide +kernel
theorem dX11_taken_0 : decode cX11_taken 0 = .ok (.aload_n 0, 1) := zo_42 zh_cX11_taken_0 0 rfl
theorem dX11_taken_1 : decode cX11_taken 1 = .ok (.iload_n 1, 1) := zo_27 zh_cX11_taken_0 1 rfl
theorem dX11_taken_2 : decode cX11_taken 2 = .ok (.invokevirtual 111, 3) := zo_182 zh_cX11_taken_0 2 rfl
theorem dX11_taken_5 : decode cX11_taken 5 = .ok (.astore_n 3, 1) := zo_78 zh_cX11_taken_0 5 rfl
theorem dX11_taken_6 : decode cX11_taken 6 = .ok (.aload_n 3, 1) := zo_45 zh_cX11_taken_0 6 rfl
theorem dX11_taken_7 : decode cX11_taken 7 = .ok (.ifnull 13, 3) := zo_p198 zh_cX11_taken_0 7 13 rfl rfl
theorem dX11_taken_10 : decode cX11_taken 10 = .ok (.iload_n 2, 1) := zo_28 zh_cX11_taken_0 10 rfl
theorem dX11_taken_11 : decode cX11_taken 11 = .ok (.ifCond .lt 9, 3) := zo_p155 zh_cX11_taken_0 11 9 rfl rfl
theorem dX11_taken_14 : decode cX11_taken 14 = .ok (.iload_n 2, 1) := zo_28 zh_cX11_taken_0 14 rfl
theorem dX11_taken_15 : decode cX11_taken 15 = .ok (.bipush 7, 2) := zo_p16 zh_cX11_taken_0 15 7 rfl rfl
theorem dX11_taken_17 : decode cX11_taken 17 = .ok (.if_icmp .lt 5, 3) := zo_p161 zh_cX11_taken_0 17 5 rfl rfl
theorem zh_cX11_taken_1 : zck [2, 172, 45, 180, 0, 115, 2, 160, 0, 6, 16, 245, 172, 45, 180, 0, 115, 8, 160, 0, 17, 42] (zdu 20 cX11_taken.data.toList) = true := by decide +kernel
theorem dX11_taken_20 : decode cX11_taken 20 = .ok (.iconst (-1), 1) := zo_2 zh_cX11_taken_1 0 rfl
theorem dX11_taken_21 : decode cX11_taken 21 = .ok (.ireturn, 1) := zo_172 zh_cX11_taken_1 1 rfl
theorem dX11_taken_22 : decode cX11_taken 22 = .ok (.aload_n 3, 1) := zo_45 zh_cX11_taken_1 2 rfl
theorem dX11_taken_23 : decode cX11_taken 23 = .ok (.getfield 115, 3) := zo_180 zh_cX11_taken_1 3 rfl
theorem dX11_taken_26 : decode cX11_taken 26 = .ok (.iconst (-1), 1) := zo_2 zh_cX11_taken_1 6 rfl
theorem dX11_taken_27 : decode cX11_taken 27 = .ok (.if_icmp .ne 6, 3) := zo_p160 zh_cX11_taken_1 7 6 rfl rfl
theorem dX11_taken_30 : decode cX11_taken 30 = .ok (.bipush (-11), 2) := zo_n16 zh_cX11_taken_1 10 10 rfl rfl
theorem dX11_taken_32 : decode cX11_taken 32 = .ok (.ireturn, 1) := zo_172 zh_cX11_taken_1 12 rfl
theorem dX11_taken_33 : decode cX11_taken 33 = .ok (.aload_n 3, 1) := zo_45 zh_cX11_taken_1 13 rfl
theorem dX11_taken_34 : decode cX11_taken 34 = .ok (.getfield 115, 3) := zo_180 zh_cX11_taken_1 14 rfl
theorem dX11_taken_37 : decode cX11_taken 37 = .ok (.iconst 5, 1) := zo_8 zh_cX11_taken_1 17 rfl
theorem dX11_taken_38 : decode cX11_taken 38 = .ok (.if_icmp .ne 17, 3) := zo_p160 zh_cX11_taken_1 18 17 rfl rfl
theorem zh_cX11_taken_2 : zck [17, 42, 180, 0, 10, 45, 180, 1, 100, 182, 0, 207, 167, 0, 4, 1, 58, 4, 25, 4, 198, 0] (zdu 40 cX11_taken.data.toList) = true := by decide +kernel
theorem dX11_taken_41 : decode cX11_taken 41 = .ok (.aload_n 0, 1) := zo_42 zh_cX11_taken_2 1 rfl
theorem dX11_taken_42 : decode cX11_taken 42 = .ok (.getfield 10, 3) := zo_180 zh_cX11_taken_2 2 rfl
theorem dX11_taken_45 : decode cX11_taken 45 = .ok (.aload_n 3, 1) := zo_45 zh_cX11_taken_2 5 rfl
theorem dX11_taken_46 : decode cX11_taken 46 = .ok (.getfield 356, 3) := zo_180 zh_cX11_taken_2 6 rfl
theorem dX11_taken_49 : decode cX11_taken 49 = .ok (.invokevirtual 207, 3) := zo_182 zh_cX11_taken_2 9 rfl
theorem dX11_taken_52 : decode cX11_taken 52 = .ok (.goto 4, 3) := zo_p167 zh_cX11_taken_2 12 4 rfl rfl
theorem dX11_taken_55 : decode cX11_taken 55 = .ok (.aconst_null, 1) := zo_1 zh_cX11_taken_2 15 rfl
theorem dX11_taken_56 : decode cX11_taken 56 = .ok (.astore 4, 2) := zo_58 zh_cX11_taken_2 16 rfl
theorem dX11_taken_58 : decode cX11_taken 58 = .ok (.aload 4, 2) := zo_25 zh_cX11_taken_2 18 rfl
theorem zh_cX11_taken_3 : zck [198, 0, 15, 25, 4, 182, 1, 75, 28, 184, 1, 128, 154, 0, 6, 16, 244, 172, 25, 4, 182, 1] (zdu 60 cX11_taken.data.toList) = true := by decide +kernel
theorem dX11_taken_60 : decode cX11_taken 60 = .ok (.ifnull 15, 3) := zo_p198 zh_cX11_taken_3 0 15 rfl rfl
theorem dX11_taken_63 : decode cX11_taken 63 = .ok (.aload 4, 2) := zo_25 zh_cX11_taken_3 3 rfl
theorem dX11_taken_65 : decode cX11_taken 65 = .ok (.invokevirtual 331, 3) := zo_182 zh_cX11_taken_3 5 rfl
theorem dX11_taken_68 : decode cX11_taken 68 = .ok (.iload_n 2, 1) := zo_28 zh_cX11_taken_3 8 rfl
theorem dX11_taken_69 : decode cX11_taken 69 = .ok (.invokestatic 384, 3) := zo_184 zh_cX11_taken_3 9 rfl
theorem dX11_taken_72 : decode cX11_taken 72 = .ok (.ifCond .ne 6, 3) := zo_p154 zh_cX11_taken_3 12 6 rfl rfl
theorem dX11_taken_75 : decode cX11_taken 75 = .ok (.bipush (-12), 2) := zo_n16 zh_cX11_taken_3 15 11 rfl rfl
theorem dX11_taken_77 : decode cX11_taken 77 = .ok (.ireturn, 1) := zo_172 zh_cX11_taken_3 17 rfl
theorem dX11_taken_78 : decode cX11_taken 78 = .ok (.aload 4, 2) := zo_25 zh_cX11_taken_3 18 rfl
theorem zh_cX11_taken_4 : zck [182, 1, 75, 172] (zdu 80 cX11_taken.data.toList) = true := by decide +kernel
theorem dX11_taken_80 : decode cX11_taken 80 = .ok (.invokevirtual 331, 3) := zo_182 zh_cX11_taken_4 0 rfl
theorem dX11_taken_83 : decode cX11_taken 83 = .ok (.ireturn, 1) := zo_172 zh_cX11_taken_4 3 rfl
abbrev z_X11_taken : List Cond := .code yX11_taken cX11_taken 5 (some .int) :: zW
abbrev wx_X11_taken (ad : Nat → Nat) (cs : Nat → ClassId) (PL : va_W) (S_a : Nat → Nat) (S_b : Nat → Nat) (h_pl : Nat) (h_pl_elements : Nat) (root_places : Nat → Option Nat) (court_shoeCount : Int32) (court_claimCount : Int32) (court_suitCount : Int32) (court_suits : Nat → Option Nat) (pl_holds : Int32) (pl_suit : Int32) (pl_size : Int32) (S_who : Nat → Int32) (S_against : Nat → Int32) (S_kind : Nat → Int32) (S_won : Nat → Int32) (S_day : Nat → Int32) (S_land : Nat → Int32) (S_undoneFrom : Nat → Int32) (S_asked : Nat → Nat → Int32) (S_askedCount : Nat → Int32) (S_askedBits : Nat → Int32) (S_first : Nat → Int32) (S_foundSo : Nat → Int32) (S_foundNot : Nat → Int32) (S_fought : Nat → Int32) (S_needed : Nat → Int32) : va_W := [((ad 0), .inr (11, [.ref (ad 4), .ref (ad 15), .ref (ad 23), .ref (ad 25), .ref (ad 26), .ref (ad 28), .ref (ad 34), .ref (ad 39), .ref (ad 1), .ref (ad 2), .ref (ad 3)])), ((ad 1), .inl (cs 7, 6, .inr (.inr (.inr (.inr root_places))))), ((ad 4), .inr (2, [.ref (ad 5), .ref (ad 6), .ref (ad 7), .ref (ad 8), .ref (ad 9), .ref (ad 10), .ref (ad 11), .ref (ad 12), .ref (ad 13), .ref (ad 14), .int court_shoeCount, .int court_claimCount, .int court_suitCount])), ((ad 13), .inl (cs 5, 40, .inr (.inr (.inr (.inr court_suits))))), (h_pl, .inr (6, [.int pl_holds, .int pl_suit, .int pl_size, .ref h_pl_elements]))]
abbrev wl_X11_taken (ad : Nat → Nat) (cs : Nat → ClassId) (PL : va_W) (S_a : Nat → Nat) (S_b : Nat → Nat) (h_pl : Nat) (h_pl_elements : Nat) (root_places : Nat → Option Nat) (court_shoeCount : Int32) (court_claimCount : Int32) (court_suitCount : Int32) (court_suits : Nat → Option Nat) (pl_holds : Int32) (pl_suit : Int32) (pl_size : Int32) (S_who : Nat → Int32) (S_against : Nat → Int32) (S_kind : Nat → Int32) (S_won : Nat → Int32) (S_day : Nat → Int32) (S_land : Nat → Int32) (S_undoneFrom : Nat → Int32) (S_asked : Nat → Nat → Int32) (S_askedCount : Nat → Int32) (S_askedBits : Nat → Int32) (S_first : Nat → Int32) (S_foundSo : Nat → Int32) (S_foundNot : Nat → Int32) (S_fought : Nat → Int32) (S_needed : Nat → Int32) : va_W := wx_X11_taken ad cs PL S_a S_b h_pl h_pl_elements root_places court_shoeCount court_claimCount court_suitCount court_suits pl_holds pl_suit pl_size S_who S_against S_kind S_won S_day S_land S_undoneFrom S_asked S_askedCount S_askedBits S_first S_foundSo S_foundNot S_fought S_needed ++ PL
def Q_X11_taken (D : va_G) (cs : Nat → ClassId) (ad : Nat → Nat) (PL : va_W) (S_a : Nat → Nat) (S_b : Nat → Nat) (h_pl : Nat) (h_pl_elements : Nat) (root_places : Nat → Option Nat) (court_shoeCount : Int32) (court_claimCount : Int32) (court_suitCount : Int32) (court_suits : Nat → Option Nat) (pl_holds : Int32) (pl_suit : Int32) (pl_size : Int32) (S_who : Nat → Int32) (S_against : Nat → Int32) (S_kind : Nat → Int32) (S_won : Nat → Int32) (S_day : Nat → Int32) (S_land : Nat → Int32) (S_undoneFrom : Nat → Int32) (S_asked : Nat → Nat → Int32) (S_askedCount : Nat → Int32) (S_askedBits : Nat → Int32) (S_first : Nat → Int32) (S_foundSo : Nat → Int32) (S_foundNot : Nat → Int32) (S_fought : Nat → Int32) (S_needed : Nat → Int32) (A : Nat → Prop) (R : Int32 × Unit) : Array Value → State → Outcome → State → Prop :=
  va_Qi (fun (r : Int32) (u : Unit) => (r, u) = R) (fun (u : Unit) (t : State) => va_P D classes (wl_X11_taken ad cs PL S_a S_b h_pl h_pl_elements root_places court_shoeCount court_claimCount court_suitCount court_suits pl_holds pl_suit pl_size S_who S_against S_kind S_won S_day S_land S_undoneFrom S_asked S_askedCount S_askedBits S_first S_foundSo S_foundNot S_fought S_needed) t.heap ∧ va_D A (wl_X11_taken ad cs PL S_a S_b h_pl h_pl_elements root_places court_shoeCount court_claimCount court_suitCount court_suits pl_holds pl_suit pl_size S_who S_against S_kind S_won S_day S_land S_undoneFrom S_asked S_askedCount S_askedBits S_first S_foundSo S_foundNot S_fought S_needed)) A
abbrev rm_X11_taken : Room := { frames := 2, cells := 0, slots := 0, locals := 43 }
theorem g_X11_384 : GoodIn zW (va_wsS RX11 384 yX11_isUnder z_X11_isUnder) := zGS kw_1282 kw_1283 kw_75 kw_1284
theorem hd_X11_isUnder : yX11_isUnder.cls ≠ "java/lang/invoke/MethodHandle" ∧ yX11_isUnder.cls ≠ "java/lang/invoke/VarHandle" ∧ (parseMethodDescriptor yX11_isUnder.desc).map (fun d => d.parameters.length) = some 2 := by decide +kernel
def B_X11_taken_0 (h_pl : Nat)   (root_places : Nat → Option Nat) (court_shoeCount : Int32) (court_claimCount : Int32) (court_suitCount : Int32) (court_suits : Nat → Option Nat) (pl_holds : Int32) (pl_suit : Int32) (pl_size : Int32) (S_who : Nat → Int32) (S_against : Nat → Int32) (S_kind : Nat → Int32) (S_won : Nat → Int32) (S_day : Nat → Int32) (S_land : Nat → Int32) (S_undoneFrom : Nat → Int32) (S_asked : Nat → Nat → Int32) (S_askedCount : Nat → Int32) (S_askedBits : Nat → Int32) (S_first : Nat → Int32) (S_foundSo : Nat → Int32) (S_foundNot : Nat → Int32) (S_fought : Nat → Int32) (S_needed : Nat → Int32) (x1 : Int32) (x2 : Int32) : Option (Int32 × Unit) :=
  (zk_b2 (f_X11_placeAt h_pl x1 root_places pl_holds pl_suit pl_size) (fun r_1 u_2 => (if r_1 = true then (if x2 < 0 then (some ((-1 : Int32), ())) else (if x2 < (7 : Int32) then (if pl_holds = (-1 : Int32) then (some ((-11 : Int32), ())) else (if pl_holds = (5 : Int32) then (zk_b2 (f_X2_suitAt pl_suit court_shoeCount court_claimCount court_suitCount court_suits S_who S_against S_kind S_won S_day S_land S_undoneFrom S_asked S_askedCount S_askedBits S_first S_foundSo S_foundNot S_fought S_needed) (fun r_9 u_10 => (if r_9 < 0 then (some ((-12 : Int32), ())) else (if (r_9 < 0 ∨ court_suitCount ≤ r_9) then none else (zk_b2 (f_X7_bodyKind (S_who r_9.toNatClampNeg) (S_against r_9.toNatClampNeg) (S_kind r_9.toNatClampNeg) (S_won r_9.toNatClampNeg) (S_day r_9.toNatClampNeg) (S_land r_9.toNatClampNeg) (S_undoneFrom r_9.toNatClampNeg) (S_askedCount r_9.toNatClampNeg) (S_askedBits r_9.toNatClampNeg) (S_first r_9.toNatClampNeg) (S_foundSo r_9.toNatClampNeg) (S_foundNot r_9.toNatClampNeg) (S_fought r_9.toNatClampNeg) (S_needed r_9.toNatClampNeg)) (fun r_17 u_18 => (zk_b2 (f_X11_isUnder 100000 r_17 x2) (fun r_20 u_21 => (if r_20 = 0 then (some ((-12 : Int32), ())) else (if (r_9 < 0 ∨ court_suitCount ≤ r_9) then none else (zk_b2 (f_X7_bodyKind (S_who r_9.toNatClampNeg) (S_against r_9.toNatClampNeg) (S_kind r_9.toNatClampNeg) (S_won r_9.toNatClampNeg) (S_day r_9.toNatClampNeg) (S_land r_9.toNatClampNeg) (S_undoneFrom r_9.toNatClampNeg) (S_askedCount r_9.toNatClampNeg) (S_askedBits r_9.toNatClampNeg) (S_first r_9.toNatClampNeg) (S_foundSo r_9.toNatClampNeg) (S_foundNot r_9.toNatClampNeg) (S_fought r_9.toNatClampNeg) (S_needed r_9.toNatClampNeg)) (fun r_28 u_29 => (some (r_28, ())))))))))))))) else (some ((-12 : Int32), ())))) else (some ((-1 : Int32), ())))) else (some ((-1 : Int32), ())))))
def f_X11_taken (h_pl : Nat)  (x1 : Int32) (x2 : Int32) (root_places : Nat → Option Nat) (court_shoeCount : Int32) (court_claimCount : Int32) (court_suitCount : Int32) (court_suits : Nat → Option Nat) (pl_holds : Int32) (pl_suit : Int32) (pl_size : Int32) (S_who : Nat → Int32) (S_against : Nat → Int32) (S_kind : Nat → Int32) (S_won : Nat → Int32) (S_day : Nat → Int32) (S_land : Nat → Int32) (S_undoneFrom : Nat → Int32) (S_asked : Nat → Nat → Int32) (S_askedCount : Nat → Int32) (S_askedBits : Nat → Int32) (S_first : Nat → Int32) (S_foundSo : Nat → Int32) (S_foundNot : Nat → Int32) (S_fought : Nat → Int32) (S_needed : Nat → Int32) : Option (Int32 × Unit) := B_X11_taken_0 h_pl  root_places court_shoeCount court_claimCount court_suitCount court_suits pl_holds pl_suit pl_size S_who S_against S_kind S_won S_day S_land S_undoneFrom S_asked S_askedCount S_askedBits S_first S_foundSo S_foundNot S_fought S_needed x1 x2 
set_option maxHeartbeats 4000000 in
set_option maxRecDepth 100000 in
theorem L_X11_taken_0 {p : Program} {l : Launch} {e : Env} {s : State} {m : MethodId} {args : Array Value} {below : List Frame} {meth : Method} {c : Code} {A : Nat → Prop} {D : va_G} {cs : Nat → ClassId} {ad : Nat → Nat} {PL : va_W} {S_a : Nat → Nat} {S_b : Nat → Nat} {h_pl : Nat} {h_pl_elements : Nat} {root_places : Nat → Option Nat} {court_shoeCount : Int32} {court_claimCount : Int32} {court_suitCount : Int32} {court_suits : Nat → Option Nat} {pl_holds : Int32} {pl_suit : Int32} {pl_size : Int32} {S_who : Nat → Int32} {S_against : Nat → Int32} {S_kind : Nat → Int32} {S_won : Nat → Int32} {S_day : Nat → Int32} {S_land : Nat → Int32} {S_undoneFrom : Nat → Int32} {S_asked : Nat → Nat → Int32} {S_askedCount : Nat → Int32} {S_askedBits : Nat → Int32} {S_first : Nat → Int32} {S_foundSo : Nat → Int32} {S_foundNot : Nat → Int32} {S_fought : Nat → Int32} {S_needed : Nat → Int32} {R : Int32 × Unit} (C0 : zC p s m args meth c cX11_taken 5 (some .int) RX11 zW) (hK : va_K D classes (zT cs) s) (hA : ∀ q : Nat, s.heap.size ≤ q → A q) (hSU : PSu cs PL court_suitCount court_suits S_a S_b S_who S_against S_kind S_won S_day S_land S_undoneFrom S_asked S_askedCount S_askedBits S_first S_foundSo S_foundNot S_fought S_needed) (x1 : Int32) (x2 : Int32) (h : B_X11_taken_0 h_pl root_places court_shoeCount court_claimCount court_suitCount court_suits pl_holds pl_suit pl_size S_who S_against S_kind S_won S_day S_land S_undoneFrom S_asked S_askedCount S_askedBits S_first S_foundSo S_foundNot S_fought S_needed x1 x2 = some R) (H : Heap) (locs : List Loc) (ls : Array Slot) (hP : va_P D classes (wl_X11_taken ad cs PL S_a S_b h_pl h_pl_elements root_places court_shoeCount court_claimCount court_suitCount court_suits pl_holds pl_suit pl_size S_who S_against S_kind S_won S_day S_land S_undoneFrom S_asked S_askedCount S_askedBits S_first S_foundSo S_foundNot S_fought S_needed) H) (hD : va_D A (wl_X11_taken ad cs PL S_a S_b h_pl h_pl_elements root_places court_shoeCount court_claimCount court_suitCount court_suits pl_holds pl_suit pl_size S_who S_against S_kind S_won S_day S_land S_undoneFrom S_asked S_askedCount S_askedBits S_first S_foundSo S_foundNot S_fought S_needed)) (hS : va_S A s.heap H locs) (hl : lv_has ls 5 [(0, .ref (ad 0)), (1, .int x1), (2, .int x2)]) : W p l e rm_X11_taken s m args below meth c H locs 0 0 (MQ below (Q_X11_taken D cs ad PL S_a S_b h_pl h_pl_elements root_places court_shoeCount court_claimCount court_suitCount court_suits pl_holds pl_suit pl_size S_who S_against S_kind S_won S_day S_land S_undoneFrom S_asked S_askedCount S_askedBits S_first S_foundSo S_foundNot S_fought S_needed A R) args s 0 0 A) (F0 m 0 ls []) := by
  obtain ⟨hx, hb, hr, hml, hown, ht, hlocks⟩ := id C0
  refine lv_aload_n hx hb dX11_taken_0 rfl (lv_at hl 0 rfl) ?_
  refine lv_iload_n hx hb dX11_taken_1 rfl (lv_at hl 1 rfl) ?_
  obtain ⟨r_1, u_2, hc_3, h⟩ := zk_o2 h
  refine zz_vqQ (post := (fun r u => r = (if r_1 = true then some h_pl else none) ∧ u = (u_2))) (w1 := fun u => (wl_X11_placeAt ad cs h_pl h_pl_elements root_places pl_holds pl_suit pl_size)) (As := [.int x1]) (rest := []) (c_X11_placeAt l D cs ad h_pl h_pl_elements H.size x1 root_places pl_holds pl_suit pl_size (r_1, u_2) hc_3) ⟨hx, hb, hml, hown, ht⟩ (cwV 1 ht g_X11_111 rfl rfl rfl ⟨rfl, hd_X11_placeAt⟩ ⟨Nat.le_of_ble_eq_true rfl, Nat.le_of_ble_eq_true rfl⟩) (va_recv hK hP (ci := 11) (q0 := 0) rfl rfl) hP hD hS hK hA [0, 1, 4] rfl rfl [(ad 0), (ad 1), h_pl] rfl (fun _ => rfl) rfl hl.1 (Nat.le_of_ble_eq_true rfl) dX11_taken_2 ⟨Nat.zero_le _, Nat.zero_le _⟩ (fun r u H locs hq hP hS => ?_)
  obtain ⟨hq1, hq2⟩ := hq; cases hq2; subst hq1
  have hP : va_P D classes (wl_X11_taken ad cs PL S_a S_b h_pl h_pl_elements root_places court_shoeCount court_claimCount court_suitCount court_suits pl_holds pl_suit pl_size S_who S_against S_kind S_won S_day S_land S_undoneFrom S_asked S_askedCount S_askedBits S_first S_foundSo S_foundNot S_fought S_needed) H := hP
  have hD : va_D A (wl_X11_taken ad cs PL S_a S_b h_pl h_pl_elements root_places court_shoeCount court_claimCount court_suitCount court_suits pl_holds pl_suit pl_size S_who S_against S_kind S_won S_day S_land S_undoneFrom S_asked S_askedCount S_askedBits S_first S_foundSo S_foundNot S_fought S_needed) := zDkp hD [(ad 0), (ad 1), (ad 4), (ad 13), h_pl] rfl rfl
  by_cases c_4 : r_1 = true
  · have h := zk_t c_4 h
    refine W.eq (g2 := F0 m 5 ls [.ref h_pl]) (by rw [if_pos c_4]; rfl) ?_
    refine lv_astore_n (lv' := [(3, .ref h_pl), (0, .ref (ad 0)), (1, .int x1), (2, .int x2)]) hx hb dX11_taken_5 rfl hl (by decide) rfl (fun ls hl => ?_)
    refine lv_aload_n hx hb dX11_taken_6 rfl (lv_at hl 0 rfl) ?_
    refine lv_ifnull hx hb dX11_taken_7 ?_
    refine lv_iload_n hx hb dX11_taken_10 rfl (lv_at hl 3 rfl) ?_
    refine lv_if_lt (tgt := 20) hx hb dX11_taken_11 (by decide) (fun c_5 => ?_) (fun c_5 => ?_)
    · have h := zk_t c_5 h
      refine lv_iconst (v := (-1 : Int32)) hx hb dX11_taken_20 (by decide) ?_
      exact W.iret (v := (-1 : Int32)) hx hb hr (fun t ht2 hW => ⟨⟨(-1 : Int32), (), rfl, Option.some.inj h, by rw [ht2]; exact hP, hD⟩, hS.F ht2⟩) hS.2.2 dX11_taken_21 hlocks
    · have h := zk_f c_5 h
      refine lv_iload_n hx hb dX11_taken_14 rfl (lv_at hl 3 rfl) ?_
      refine lv_bipush (v := (7 : Int32)) hx hb dX11_taken_15 (by decide) ?_
      refine lv_icmp_lt (tgt := 22) hx hb dX11_taken_17 (by decide) (fun c_6 => ?_) (fun c_6 => ?_)
      · have h := zk_t c_6 h
        refine lv_aload_n hx hb dX11_taken_22 rfl (lv_at hl 0 rfl) ?_
        refine va_get (D := D) (ci := 6) (v := .int pl_holds) (C := RX6) (T := TX6) (N := 4) hx hb ht iX6 hown hK hP 4 rfl rfl 0 (by decide) (ht _ kw_681) (fun _ h9 => h9) rfl dX11_taken_23 ?_
        refine lv_iconst (v := (-1 : Int32)) hx hb dX11_taken_26 (by decide) ?_
        refine lv_icmp_ne (tgt := 33) hx hb dX11_taken_27 (by decide) (fun c_7 => ?_) (fun c_7 => ?_)
        · have h := zk_f c_7 h
          refine lv_aload_n hx hb dX11_taken_33 rfl (lv_at hl 0 rfl) ?_
          refine va_get (D := D) (ci := 6) (v := .int pl_holds) (C := RX6) (T := TX6) (N := 4) hx hb ht iX6 hown hK hP 4 rfl rfl 0 (by decide) (ht _ kw_681) (fun _ h9 => h9) rfl dX11_taken_34 ?_
          refine lv_iconst (v := (5 : Int32)) hx hb dX11_taken_37 (by decide) ?_
          refine lv_icmp_ne (tgt := 55) hx hb dX11_taken_38 (by decide) (fun c_8 => ?_) (fun c_8 => ?_)
          · have h := zk_f c_8 h
            refine lv_null hx hb dX11_taken_55 ?_
            refine lv_astoreN (lv' := [(4, .null), (3, .ref h_pl), (0, .ref (ad 0)), (1, .int x1), (2, .int x2)]) hx hb dX11_taken_56 hl (by decide) rfl (fun ls hl => ?_)
            refine lv_aloadN hx hb dX11_taken_58 (lv_at hl 0 rfl) ?_
            refine lv_ifnullN (tgt := 75) hx hb dX11_taken_60 (by decide) ?_
            refine lv_bipush (v := (-12 : Int32)) hx hb dX11_taken_75 (by decide) ?_
            exact W.iret (v := (-12 : Int32)) hx hb hr (fun t ht2 hW => ⟨⟨(-12 : Int32), (), rfl, Option.some.inj h, by rw [ht2]; exact hP, hD⟩, hS.F ht2⟩) hS.2.2 dX11_taken_77 hlocks
          · have h := zk_t c_8 h
            refine lv_aload_n hx hb dX11_taken_41 rfl (lv_at hl 1 rfl) ?_
            refine va_get (D := D) (ci := 11) (v := .ref (ad 4)) (C := RX11) (T := TX11) (N := 11) hx hb ht iX11 hown hK hP 0 rfl rfl 0 (by decide) (ht _ kw_696) (fun _ h9 => h9) rfl dX11_taken_42 ?_
            refine lv_aload_n hx hb dX11_taken_45 rfl (lv_at hl 0 rfl) ?_
            refine va_get (D := D) (ci := 6) (v := .int pl_suit) (C := RX6) (T := TX6) (N := 4) hx hb ht iX6 hown hK hP 4 rfl rfl 1 (by decide) (ht _ kw_682) (fun _ h9 => h9) rfl dX11_taken_46 ?_
            obtain ⟨r_9, u_10, hc_11, h⟩ := zk_o2 h
            refine zz_vqP (post := (fun r u => r = (if r_9 < 0 then none else some (S_a r_9.toNatClampNeg)) ∧ u = (u_10))) (w1 := fun u => (wx_X2_suitAt ad cs PL S_a S_b court_shoeCount court_claimCount court_suitCount court_suits S_who S_against S_kind S_won S_day S_land S_undoneFrom S_asked S_askedCount S_askedBits S_first S_foundSo S_foundNot S_fought S_needed)) (PL := PL) (As := [.int pl_suit]) (rest := []) (c_X2_suitAt l D cs ad PL S_a S_b H.size pl_suit court_shoeCount court_claimCount court_suitCount court_suits S_who S_against S_kind S_won S_day S_land S_undoneFrom S_asked S_askedCount S_askedBits S_first S_foundSo S_foundNot S_fought S_needed hSU (r_9, u_10) hc_11) ⟨hx, hb, hml, hown, ht⟩ (cwV 1 ht g_X11_207 rfl rfl rfl ⟨rfl, hd_X2_suitAt⟩ ⟨Nat.le_of_ble_eq_true rfl, Nat.le_of_ble_eq_true rfl⟩) (va_recv hK hP (ci := 2) (q0 := 2) rfl rfl) hP hD hS hK hA [2, 3] rfl rfl [(ad 4), (ad 13)] rfl (fun _ => rfl) rfl hl.1 (Nat.le_of_ble_eq_true rfl) dX11_taken_49 ⟨Nat.zero_le _, Nat.zero_le _⟩ (fun r u H locs hq hP hS => ?_)
            obtain ⟨hq1, hq2⟩ := hq; cases hq2; subst hq1
            have hP : va_P D classes (wl_X11_taken ad cs PL S_a S_b h_pl h_pl_elements root_places court_shoeCount court_claimCount court_suitCount court_suits pl_holds pl_suit pl_size S_who S_against S_kind S_won S_day S_land S_undoneFrom S_asked S_askedCount S_askedBits S_first S_foundSo S_foundNot S_fought S_needed) H := hP
            have hD : va_D A (wl_X11_taken ad cs PL S_a S_b h_pl h_pl_elements root_places court_shoeCount court_claimCount court_suitCount court_suits pl_holds pl_suit pl_size S_who S_against S_kind S_won S_day S_land S_undoneFrom S_asked S_askedCount S_askedBits S_first S_foundSo S_foundNot S_fought S_needed) := zDkp hD [(ad 0), (ad 1), (ad 4), (ad 13), h_pl] rfl rfl
            by_cases c_12 : r_9 < 0
            · have h := zk_t c_12 h
              refine W.eq (g2 := F0 m 52 ls [.null]) (by rw [if_pos c_12]; rfl) ?_
              refine lv_goto (tgt := 56) hx hb dX11_taken_52 (by decide) ?_
              refine lv_astoreN (lv' := [(4, .null), (3, .ref h_pl), (0, .ref (ad 0)), (1, .int x1), (2, .int x2)]) hx hb dX11_taken_56 hl (by decide) rfl (fun ls hl => ?_)
              refine lv_aloadN hx hb dX11_taken_58 (lv_at hl 0 rfl) ?_
              refine lv_ifnullN (tgt := 75) hx hb dX11_taken_60 (by decide) ?_
              refine lv_bipush (v := (-12 : Int32)) hx hb dX11_taken_75 (by decide) ?_
              exact W.iret (v := (-12 : Int32)) hx hb hr (fun t ht2 hW => ⟨⟨(-12 : Int32), (), rfl, Option.some.inj h, by rw [ht2]; exact hP, hD⟩, hS.F ht2⟩) hS.2.2 dX11_taken_77 hlocks
            · have h := zk_f c_12 h
              refine W.eq (g2 := F0 m 52 ls [.ref (S_a r_9.toNatClampNeg)]) (by rw [if_neg c_12]; rfl) ?_
              refine lv_goto (tgt := 56) hx hb dX11_taken_52 (by decide) ?_
              refine lv_astore (lv' := [(4, .ref (S_a r_9.toNatClampNeg)), (3, .ref h_pl), (0, .ref (ad 0)), (1, .int x1), (2, .int x2)]) hx hb dX11_taken_56 hl (by decide) rfl (fun ls hl => ?_)
              refine lv_aload hx hb dX11_taken_58 (lv_at hl 0 rfl) ?_
              refine lv_ifnull hx hb dX11_taken_60 ?_
              refine lv_aload hx hb dX11_taken_63 (lv_at hl 0 rfl) ?_
              obtain ⟨g_13, h⟩ := zk_gd h
              obtain ⟨hs_14, ⟨_, hj_15⟩, ⟨_, hj_16⟩⟩ := hSU _ (zs_lt2 g_13)
              obtain ⟨r_17, u_18, hc_19, h⟩ := zk_o2 h
              refine zk_viM (post := (fun r u => (r, u) = (r_17, u_18))) (As := []) (rest := []) (c_X7_bodyKind l D cs ad (S_a r_9.toNatClampNeg) (S_b r_9.toNatClampNeg) H.size (S_who r_9.toNatClampNeg) (S_against r_9.toNatClampNeg) (S_kind r_9.toNatClampNeg) (S_won r_9.toNatClampNeg) (S_day r_9.toNatClampNeg) (S_land r_9.toNatClampNeg) (S_undoneFrom r_9.toNatClampNeg) (S_askedCount r_9.toNatClampNeg) (S_askedBits r_9.toNatClampNeg) (S_first r_9.toNatClampNeg) (S_foundSo r_9.toNatClampNeg) (S_foundNot r_9.toNatClampNeg) (S_fought r_9.toNatClampNeg) (S_needed r_9.toNatClampNeg) (r_17, u_18) hc_19) ⟨hx, hb, hml, hown, ht⟩ (cwV 0 ht g_X11_331 rfl rfl rfl ⟨rfl, hd_X7_bodyKind⟩ ⟨Nat.le_of_ble_eq_true rfl, Nat.le_of_ble_eq_true rfl⟩) (va_recv hK hP (ci := 7) (q0 := _) rfl (zPm hj_15 rfl)) hP hD hS hK hA _ (zPm hj_15 rfl) rfl hl.1 (Nat.le_of_ble_eq_true rfl) dX11_taken_65 ⟨Nat.zero_le _, Nat.zero_le _⟩ (fun r u H locs hq hP hD hS => ?_)
              cases hq
              have hP : va_P D classes (wl_X11_taken ad cs PL S_a S_b h_pl h_pl_elements root_places court_shoeCount court_claimCount court_suitCount court_suits pl_holds pl_suit pl_size S_who S_against S_kind S_won S_day S_land S_undoneFrom S_asked S_askedCount S_askedBits S_first S_foundSo S_foundNot S_fought S_needed) H := hP
              have hD : va_D A (wl_X11_taken ad cs PL S_a S_b h_pl h_pl_elements root_places court_shoeCount court_claimCount court_suitCount court_suits pl_holds pl_suit pl_size S_who S_against S_kind S_won S_day S_land S_undoneFrom S_asked S_askedCount S_askedBits S_first S_foundSo S_foundNot S_fought S_needed) := hD
              refine lv_iload_n hx hb dX11_taken_68 rfl (lv_at hl 4 rfl) ?_
              obtain ⟨r_20, u_21, hc_22, h⟩ := zk_o2 h
              refine zz_siQ (post := (fun r u => (r, u) = (r_20, u_21))) (w1 := fun u => (wl_X11_isUnder ad cs )) (As := [.int r_17, .int x2]) (rest := []) (c_X11_isUnder l D cs ad  H.size 100000 r_17 x2 (r_20, u_21) hc_22) ⟨hx, hb, hml, hown, ht⟩ (va_cwS 2 ht g_X11_384 rfl rfl rfl hd_X11_isUnder ⟨Nat.le_of_ble_eq_true rfl, Nat.le_of_ble_eq_true rfl⟩) hP hD hS hK hA [] rfl rfl [] rfl (fun _ => rfl) rfl hl.1 (Nat.le_of_ble_eq_true rfl) dX11_taken_69 ⟨Nat.zero_le _, Nat.zero_le _⟩ (fun r u H locs hq hP hS => ?_)
              cases hq
              have hP : va_P D classes (wl_X11_taken ad cs PL S_a S_b h_pl h_pl_elements root_places court_shoeCount court_claimCount court_suitCount court_suits pl_holds pl_suit pl_size S_who S_against S_kind S_won S_day S_land S_undoneFrom S_asked S_askedCount S_askedBits S_first S_foundSo S_foundNot S_fought S_needed) H := hP
              refine lv_if_ne (tgt := 78) hx hb dX11_taken_72 (by decide) (fun c_23 => ?_) (fun c_23 => ?_)
              · have h := zk_f c_23 h
                refine lv_aload hx hb dX11_taken_78 (lv_at hl 0 rfl) ?_
                obtain ⟨g_24, h⟩ := zk_gd h
                obtain ⟨hs_25, ⟨_, hj_26⟩, ⟨_, hj_27⟩⟩ := hSU _ (zs_lt2 g_24)
                obtain ⟨r_28, u_29, hc_30, h⟩ := zk_o2 h
                refine zk_viM (post := (fun r u => (r, u) = (r_28, u_29))) (As := []) (rest := []) (c_X7_bodyKind l D cs ad (S_a r_9.toNatClampNeg) (S_b r_9.toNatClampNeg) H.size (S_who r_9.toNatClampNeg) (S_against r_9.toNatClampNeg) (S_kind r_9.toNatClampNeg) (S_won r_9.toNatClampNeg) (S_day r_9.toNatClampNeg) (S_land r_9.toNatClampNeg) (S_undoneFrom r_9.toNatClampNeg) (S_askedCount r_9.toNatClampNeg) (S_askedBits r_9.toNatClampNeg) (S_first r_9.toNatClampNeg) (S_foundSo r_9.toNatClampNeg) (S_foundNot r_9.toNatClampNeg) (S_fought r_9.toNatClampNeg) (S_needed r_9.toNatClampNeg) (r_28, u_29) hc_30) ⟨hx, hb, hml, hown, ht⟩ (cwV 0 ht g_X11_331 rfl rfl rfl ⟨rfl, hd_X7_bodyKind⟩ ⟨Nat.le_of_ble_eq_true rfl, Nat.le_of_ble_eq_true rfl⟩) (va_recv hK hP (ci := 7) (q0 := _) rfl (zPm hj_26 rfl)) hP hD hS hK hA _ (zPm hj_26 rfl) rfl hl.1 (Nat.le_of_ble_eq_true rfl) dX11_taken_80 ⟨Nat.zero_le _, Nat.zero_le _⟩ (fun r u H locs hq hP hD hS => ?_)
                cases hq
                have hP : va_P D classes (wl_X11_taken ad cs PL S_a S_b h_pl h_pl_elements root_places court_shoeCount court_claimCount court_suitCount court_suits pl_holds pl_suit pl_size S_who S_against S_kind S_won S_day S_land S_undoneFrom S_asked S_askedCount S_askedBits S_first S_foundSo S_foundNot S_fought S_needed) H := hP
                have hD : va_D A (wl_X11_taken ad cs PL S_a S_b h_pl h_pl_elements root_places court_shoeCount court_claimCount court_suitCount court_suits pl_holds pl_suit pl_size S_who S_against S_kind S_won S_day S_land S_undoneFrom S_asked S_askedCount S_askedBits S_first S_foundSo S_foundNot S_fought S_needed) := hD
                exact W.iret (v := r_28) hx hb hr (fun t ht2 hW => ⟨⟨r_28, (), rfl, Option.some.inj h, by rw [ht2]; exact hP, hD⟩, hS.F ht2⟩) hS.2.2 dX11_taken_83 hlocks
              · have h := zk_t c_23 h
                refine lv_bipush (v := (-12 : Int32)) hx hb dX11_taken_75 (by decide) ?_
                exact W.iret (v := (-12 : Int32)) hx hb hr (fun t ht2 hW => ⟨⟨(-12 : Int32), (), rfl, Option.some.inj h, by rw [ht2]; exact hP, hD⟩, hS.F ht2⟩) hS.2.2 dX11_taken_77 hlocks
        · have h := zk_t c_7 h
          refine lv_bipush (v := (-11 : Int32)) hx hb dX11_taken_30 (by decide) ?_
          exact W.iret (v := (-11 : Int32)) hx hb hr (fun t ht2 hW => ⟨⟨(-11 : Int32), (), rfl, Option.some.inj h, by rw [ht2]; exact hP, hD⟩, hS.F ht2⟩) hS.2.2 dX11_taken_32 hlocks
      · have h := zk_f c_6 h
        refine lv_iconst (v := (-1 : Int32)) hx hb dX11_taken_20 (by decide) ?_
        exact W.iret (v := (-1 : Int32)) hx hb hr (fun t ht2 hW => ⟨⟨(-1 : Int32), (), rfl, Option.some.inj h, by rw [ht2]; exact hP, hD⟩, hS.F ht2⟩) hS.2.2 dX11_taken_21 hlocks
  · have h := zk_f c_4 h
    refine W.eq (g2 := F0 m 5 ls [.null]) (by rw [if_neg c_4]; rfl) ?_
    refine lv_astore_nN (lv' := [(3, .null), (0, .ref (ad 0)), (1, .int x1), (2, .int x2)]) hx hb dX11_taken_5 rfl hl (by decide) rfl (fun ls hl => ?_)
    refine lv_aload_nN hx hb dX11_taken_6 rfl (lv_at hl 0 rfl) ?_
    refine lv_ifnullN (tgt := 20) hx hb dX11_taken_7 (by decide) ?_
    refine lv_iconst (v := (-1 : Int32)) hx hb dX11_taken_20 (by decide) ?_
    exact W.iret (v := (-1 : Int32)) hx hb hr (fun t ht2 hW => ⟨⟨(-1 : Int32), (), rfl, Option.some.inj h, by rw [ht2]; exact hP, hD⟩, hS.F ht2⟩) hS.2.2 dX11_taken_21 hlocks
set_option maxHeartbeats 4000000 in
set_option maxRecDepth 100000 in
theorem c_X11_taken (l : Launch) (D : va_G) (cs : Nat → ClassId) (ad : Nat → Nat) (PL : va_W) (S_a : Nat → Nat) (S_b : Nat → Nat) (h_pl : Nat) (h_pl_elements : Nat) (sz : Nat) (x1 : Int32) (x2 : Int32) (root_places : Nat → Option Nat) (court_shoeCount : Int32) (court_claimCount : Int32) (court_suitCount : Int32) (court_suits : Nat → Option Nat) (pl_holds : Int32) (pl_suit : Int32) (pl_size : Int32) (S_who : Nat → Int32) (S_against : Nat → Int32) (S_kind : Nat → Int32) (S_won : Nat → Int32) (S_day : Nat → Int32) (S_land : Nat → Int32) (S_undoneFrom : Nat → Int32) (S_asked : Nat → Nat → Int32) (S_askedCount : Nat → Int32) (S_askedBits : Nat → Int32) (S_first : Nat → Int32) (S_foundSo : Nat → Int32) (S_foundNot : Nat → Int32) (S_fought : Nat → Int32) (S_needed : Nat → Int32) (hSU : PSu cs PL court_suitCount court_suits S_a S_b S_who S_against S_kind S_won S_day S_land S_undoneFrom S_asked S_askedCount S_askedBits S_first S_foundSo S_foundNot S_fought S_needed) (R : Int32 × Unit) (h : f_X11_taken h_pl  x1 x2 root_places court_shoeCount court_claimCount court_suitCount court_suits pl_holds pl_suit pl_size S_who S_against S_kind S_won S_day S_land S_undoneFrom S_asked S_askedCount S_askedBits S_first S_foundSo S_foundNot S_fought S_needed = some R) : Met l yX11_taken (z_X11_taken) rm_X11_taken (va_Pc [.ref (ad 0), .int x1, .int x2] (zPre D cs (wl_X11_taken ad cs PL S_a S_b h_pl h_pl_elements root_places court_shoeCount court_claimCount court_suitCount court_suits pl_holds pl_suit pl_size S_who S_against S_kind S_won S_day S_land S_undoneFrom S_asked S_askedCount S_askedBits S_first S_foundSo S_foundNot S_fought S_needed) sz)) (Q_X11_taken D cs ad PL S_a S_b h_pl h_pl_elements root_places court_shoeCount court_claimCount court_suitCount court_suits pl_holds pl_suit pl_size S_who S_against S_kind S_won S_day S_land S_undoneFrom S_asked S_askedCount S_askedBits S_first S_foundSo S_foundNot S_fought S_needed (va_A (wl_X11_taken ad cs PL S_a S_b h_pl h_pl_elements root_places court_shoeCount court_claimCount court_suitCount court_suits pl_holds pl_suit pl_size S_who S_against S_kind S_won S_day S_land S_undoneFrom S_asked S_askedCount S_askedBits S_first S_foundSo S_foundNot S_fought S_needed) sz) R) 0 0 (va_A (wl_X11_taken ad cs PL S_a S_b h_pl h_pl_elements root_places court_shoeCount court_claimCount court_suitCount court_suits pl_holds pl_suit pl_size S_who S_against S_kind S_won S_day S_land S_undoneFrom S_asked S_askedCount S_askedBits S_first S_foundSo S_foundNot S_fought S_needed) sz) := by
  refine Met.ofW (cc := cX11_taken) (maxL := 5) (ret := (some .int)) (by decide) rfl ?_
  intro p e s m args below meth c s₁ B hml hv
  obtain ⟨rfl, hsz, hP, hK, hD0⟩ := hv
  subst hsz
  have hD := hD0.self (sz := s.heap.size)
  have C0 : zC p s m _ meth c cX11_taken 5 (some .int) RX11 zW := ⟨B.exec, B.bytes, B.returns, hml, findClass_of_methodNamed B.named, fun w hw => atoms_spec (ws := z_X11_taken) B.pre w (List.mem_cons_of_mem _ hw), B.notSynchronized⟩
  have hA : ∀ q : Nat, s.heap.size ≤ q → va_A (wl_X11_taken ad cs PL S_a S_b h_pl h_pl_elements root_places court_shoeCount court_claimCount court_suitCount court_suits pl_holds pl_suit pl_size S_who S_against S_kind S_won S_day S_land S_undoneFrom S_asked S_askedCount S_askedBits S_first S_foundSo S_foundNot S_fought S_needed) s.heap.size q := fun q h => Or.inr h
  have hl := lv_entry ([.ref (ad 0), .int x1, .int x2]) (n := 5) (Nat.le_of_ble_eq_true rfl)
  rw [lg_entry_eq]
  generalize (lg_sl ([.ref (ad 0), .int x1, .int x2]) ++ List.replicate (5 - (lg_sl ([.ref (ad 0), .int x1, .int x2])).length) Slot.unset).toArray = ls at hl ⊢
  exact L_X11_taken_0 C0 hK hA hSU   x1 x2  h s.heap [] ls hP hD va_S.rf hl
theorem kw_430 : Cond.fieldLink RX11 390 "AlreadyJudged$Changes" "done" "I" ∈ zW := zwC (i := 116) zc_2 rfl rfl
theorem zh_cX11_count_0 : zck [27, 170, 0, 0, 0, 0, 0, 99, 0, 0, 0, 0, 0, 0, 0, 6, 0, 0, 0, 43, 0, 0] (zdu 0 cX11_count.data.toList) = true := by decide +kernel
theorem dX11_count_0 : decode cX11_count 0 = .ok (.iload_n 1, 1) := zo_27 zh_cX11_count_0 0 rfl
theorem dX11_count_1 : decode cX11_count 1 = .ok (.tableswitch 99 0 6 #[43, 51, 59, 67, 75, 83, 91], 43) := by decide +kernel
theorem zh_cX11_count_2 : zck [0, 0, 0, 91, 42, 180, 0, 10, 180, 1, 131, 172, 42, 180, 0, 10, 180, 0, 194, 172, 42, 180] (zdu 40 cX11_count.data.toList) = true := by decide +kernel
theorem dX11_count_44 : decode cX11_count 44 = .ok (.aload_n 0, 1) := zo_42 zh_cX11_count_2 4 rfl
theorem dX11_count_45 : decode cX11_count 45 = .ok (.getfield 10, 3) := zo_180 zh_cX11_count_2 5 rfl
theorem dX11_count_48 : decode cX11_count 48 = .ok (.getfield 387, 3) := zo_180 zh_cX11_count_2 8 rfl
theorem dX11_count_51 : decode cX11_count 51 = .ok (.ireturn, 1) := zo_172 zh_cX11_count_2 11 rfl
theorem dX11_count_52 : decode cX11_count 52 = .ok (.aload_n 0, 1) := zo_42 zh_cX11_count_2 12 rfl
theorem dX11_count_53 : decode cX11_count 53 = .ok (.getfield 10, 3) := zo_180 zh_cX11_count_2 13 rfl
theorem dX11_count_56 : decode cX11_count 56 = .ok (.getfield 194, 3) := zo_180 zh_cX11_count_2 16 rfl
theorem dX11_count_59 : decode cX11_count 59 = .ok (.ireturn, 1) := zo_172 zh_cX11_count_2 19 rfl
theorem zh_cX11_count_3 : zck [42, 180, 0, 10, 180, 0, 191, 172, 42, 180, 0, 28, 180, 0, 98, 172, 42, 180, 0, 51, 180, 1] (zdu 60 cX11_count.data.toList) = true := by decide +kernel
theorem dX11_count_60 : decode cX11_count 60 = .ok (.aload_n 0, 1) := zo_42 zh_cX11_count_3 0 rfl
theorem dX11_count_61 : decode cX11_count 61 = .ok (.getfield 10, 3) := zo_180 zh_cX11_count_3 1 rfl
theorem dX11_count_64 : decode cX11_count 64 = .ok (.getfield 191, 3) := zo_180 zh_cX11_count_3 4 rfl
theorem dX11_count_67 : decode cX11_count 67 = .ok (.ireturn, 1) := zo_172 zh_cX11_count_3 7 rfl
theorem dX11_count_68 : decode cX11_count 68 = .ok (.aload_n 0, 1) := zo_42 zh_cX11_count_3 8 rfl
theorem dX11_count_69 : decode cX11_count 69 = .ok (.getfield 28, 3) := zo_180 zh_cX11_count_3 9 rfl
theorem dX11_count_72 : decode cX11_count 72 = .ok (.getfield 98, 3) := zo_180 zh_cX11_count_3 12 rfl
theorem dX11_count_75 : decode cX11_count 75 = .ok (.ireturn, 1) := zo_172 zh_cX11_count_3 15 rfl
theorem dX11_count_76 : decode cX11_count 76 = .ok (.aload_n 0, 1) := zo_42 zh_cX11_count_3 16 rfl
theorem dX11_count_77 : decode cX11_count 77 = .ok (.getfield 51, 3) := zo_180 zh_cX11_count_3 17 rfl
theorem zh_cX11_count_4 : zck [180, 1, 31, 172, 42, 180, 0, 58, 180, 1, 134, 172, 42, 180, 0, 65, 180, 1, 72, 172, 2, 172] (zdu 80 cX11_count.data.toList) = true := by decide +kernel
theorem dX11_count_80 : decode cX11_count 80 = .ok (.getfield 287, 3) := zo_180 zh_cX11_count_4 0 rfl
theorem dX11_count_83 : decode cX11_count 83 = .ok (.ireturn, 1) := zo_172 zh_cX11_count_4 3 rfl
theorem dX11_count_84 : decode cX11_count 84 = .ok (.aload_n 0, 1) := zo_42 zh_cX11_count_4 4 rfl
theorem dX11_count_85 : decode cX11_count 85 = .ok (.getfield 58, 3) := zo_180 zh_cX11_count_4 5 rfl
theorem dX11_count_88 : decode cX11_count 88 = .ok (.getfield 390, 3) := zo_180 zh_cX11_count_4 8 rfl
theorem dX11_count_91 : decode cX11_count 91 = .ok (.ireturn, 1) := zo_172 zh_cX11_count_4 11 rfl
theorem dX11_count_92 : decode cX11_count 92 = .ok (.aload_n 0, 1) := zo_42 zh_cX11_count_4 12 rfl
theorem dX11_count_93 : decode cX11_count 93 = .ok (.getfield 65, 3) := zo_180 zh_cX11_count_4 13 rfl
theorem dX11_count_96 : decode cX11_count 96 = .ok (.getfield 328, 3) := zo_180 zh_cX11_count_4 16 rfl
theorem dX11_count_99 : decode cX11_count 99 = .ok (.ireturn, 1) := zo_172 zh_cX11_count_4 19 rfl
theorem zh_cX11_count_5 : zck [2, 172] (zdu 100 cX11_count.data.toList) = true := by decide +kernel
theorem dX11_count_100 : decode cX11_count 100 = .ok (.iconst (-1), 1) := zo_2 zh_cX11_count_5 0 rfl
theorem dX11_count_101 : decode cX11_count 101 = .ok (.ireturn, 1) := zo_172 zh_cX11_count_5 1 rfl
abbrev z_X11_count : List Cond := .code yX11_count cX11_count 2 (some .int) :: zW
abbrev wl_X11_count (ad : Nat → Nat) (cs : Nat → ClassId)  (court_shoeCount : Int32) (court_claimCount : Int32) (court_suitCount : Int32) (tape_size : Int32) (wishes_size : Int32) (wishes_best : Int32) (wishes_bestRow : Int32) (chg_done : Int32) (chg_size : Int32) (acts_ran : Int32) (acts_kind : Int32) (acts_number : Int32) (acts_claims : Int32) : va_W := [((ad 0), .inr (11, [.ref (ad 4), .ref (ad 15), .ref (ad 23), .ref (ad 25), .ref (ad 26), .ref (ad 28), .ref (ad 34), .ref (ad 39), .ref (ad 1), .ref (ad 2), .ref (ad 3)])), ((ad 4), .inr (2, [.ref (ad 5), .ref (ad 6), .ref (ad 7), .ref (ad 8), .ref (ad 9), .ref (ad 10), .ref (ad 11), .ref (ad 12), .ref (ad 13), .ref (ad 14), .int court_shoeCount, .int court_claimCount, .int court_suitCount])), ((ad 23), .inr (9, [.ref (ad 24), .int tape_size])), ((ad 28), .inr (10, [.ref (ad 29), .ref (ad 30), .int wishes_size, .ref (ad 31), .ref (ad 32), .ref (ad 33), .ref (ad 85), .int wishes_best, .int wishes_bestRow])), ((ad 34), .inr (1, [.ref (ad 4), .ref (ad 35), .ref (ad 36), .ref (ad 37), .ref (ad 38), .int chg_done, .int chg_size])), ((ad 39), .inr (0, [.ref (ad 40), .int acts_ran, .int acts_kind, .int acts_number, .int acts_claims]))]
def Q_X11_count (D : va_G) (cs : Nat → ClassId) (ad : Nat → Nat)  (court_shoeCount : Int32) (court_claimCount : Int32) (court_suitCount : Int32) (tape_size : Int32) (wishes_size : Int32) (wishes_best : Int32) (wishes_bestRow : Int32) (chg_done : Int32) (chg_size : Int32) (acts_ran : Int32) (acts_kind : Int32) (acts_number : Int32) (acts_claims : Int32) (A : Nat → Prop) (R : Int32 × Unit) : Array Value → State → Outcome → State → Prop :=
  va_Qi (fun (r : Int32) (u : Unit) => (r, u) = R) (fun (u : Unit) (t : State) => va_P D classes (wl_X11_count ad cs court_shoeCount court_claimCount court_suitCount tape_size wishes_size wishes_best wishes_bestRow chg_done chg_size acts_ran acts_kind acts_number acts_claims) t.heap ∧ va_D A (wl_X11_count ad cs court_shoeCount court_claimCount court_suitCount tape_size wishes_size wishes_best wishes_bestRow chg_done chg_size acts_ran acts_kind acts_number acts_claims)) A
abbrev rm_X11_count : Room := { frames := 0, cells := 0, slots := 0, locals := 0 }
def B_X11_count_0    (court_shoeCount : Int32) (court_claimCount : Int32) (court_suitCount : Int32) (tape_size : Int32) (wishes_size : Int32) (wishes_best : Int32) (wishes_bestRow : Int32) (chg_done : Int32) (chg_size : Int32) (acts_ran : Int32) (acts_kind : Int32) (acts_number : Int32) (acts_claims : Int32) (x1 : Int32) : Option (Int32 × Unit) :=
  (if x1 = (0 : Int32) then (some (court_shoeCount, ())) else (if x1 = (1 : Int32) then (some (court_claimCount, ())) else (if x1 = (2 : Int32) then (some (court_suitCount, ())) else (if x1 = (3 : Int32) then (some (tape_size, ())) else (if x1 = (4 : Int32) then (some (wishes_size, ())) else (if x1 = (5 : Int32) then (some (chg_done, ())) else (if x1 = (6 : Int32) then (some (acts_ran, ())) else (some ((-1 : Int32), ())))))))))
def f_X11_count   (x1 : Int32) (court_shoeCount : Int32) (court_claimCount : Int32) (court_suitCount : Int32) (tape_size : Int32) (wishes_size : Int32) (wishes_best : Int32) (wishes_bestRow : Int32) (chg_done : Int32) (chg_size : Int32) (acts_ran : Int32) (acts_kind : Int32) (acts_number : Int32) (acts_claims : Int32) : Option (Int32 × Unit) := B_X11_count_0   court_shoeCount court_claimCount court_suitCount tape_size wishes_size wishes_best wishes_bestRow chg_done chg_size acts_ran acts_kind acts_number acts_claims x1 
set_option maxHeartbeats 4000000 in
set_option maxRecDepth 100000 in
theorem L_X11_count_0 {p : Program} {l : Launch} {e : Env} {s : State} {m : MethodId} {args : Array Value} {below : List Frame} {meth : Method} {c : Code} {A : Nat → Prop} {D : va_G} {cs : Nat → ClassId} {ad : Nat → Nat} {court_shoeCount : Int32} {court_claimCount : Int32} {court_suitCount : Int32} {tape_size : Int32} {wishes_size : Int32} {wishes_best : Int32} {wishes_bestRow : Int32} {chg_done : Int32} {chg_size : Int32} {acts_ran : Int32} {acts_kind : Int32} {acts_number : Int32} {acts_claims : Int32} {R : Int32 × Unit} (C0 : zC p s m args meth c cX11_count 2 (some .int) RX11 zW) (hK : va_K D classes (zT cs) s) (hA : ∀ q : Nat, s.heap.size ≤ q → A q) (x1 : Int32) (h : B_X11_count_0 court_shoeCount court_claimCount court_suitCount tape_size wishes_size wishes_best wishes_bestRow chg_done chg_size acts_ran acts_kind acts_number acts_claims x1 = some R) (H : Heap) (locs : List Loc) (ls : Array Slot) (hP : va_P D classes (wl_X11_count ad cs court_shoeCount court_claimCount court_suitCount tape_size wishes_size wishes_best wishes_bestRow chg_done chg_size acts_ran acts_kind acts_number acts_claims) H) (hD : va_D A (wl_X11_count ad cs court_shoeCount court_claimCount court_suitCount tape_size wishes_size wishes_best wishes_bestRow chg_done chg_size acts_ran acts_kind acts_number acts_claims)) (hS : va_S A s.heap H locs) (hl : lv_has ls 2 [(0, .ref (ad 0)), (1, .int x1)]) : W p l e rm_X11_count s m args below meth c H locs 0 0 (MQ below (Q_X11_count D cs ad court_shoeCount court_claimCount court_suitCount tape_size wishes_size wishes_best wishes_bestRow chg_done chg_size acts_ran acts_kind acts_number acts_claims A R) args s 0 0 A) (F0 m 0 ls []) := by
  obtain ⟨hx, hb, hr, hml, hown, ht, hlocks⟩ := id C0
  refine lv_iload_n hx hb dX11_count_0 rfl (lv_at hl 1 rfl) ?_
  by_cases c_1 : x1 = (0 : Int32)
  · have h := zk_t c_1 h
    refine lv_tableIn (tgt := 44) hx hb dX11_count_1 (by rw [c_1]; decide) (by rw [c_1]; decide) (by rw [c_1]; rfl) (by decide) ?_
    refine lv_aload_n hx hb dX11_count_44 rfl (lv_at hl 0 rfl) ?_
    refine va_get (D := D) (ci := 11) (v := .ref (ad 4)) (C := RX11) (T := TX11) (N := 11) hx hb ht iX11 hown hK hP 0 rfl rfl 0 (by decide) (ht _ kw_696) (fun _ h9 => h9) rfl dX11_count_45 ?_
    refine va_get (D := D) (ci := 2) (v := .int court_shoeCount) (C := RX2) (T := TX2) (N := 13) hx hb ht iX2 hown hK hP 1 rfl rfl 10 (by decide) (ht _ kw_151) (fun _ h9 => h9) rfl dX11_count_48 ?_
    exact W.iret (v := court_shoeCount) hx hb hr (fun t ht2 hW => ⟨⟨court_shoeCount, (), rfl, Option.some.inj h, by rw [ht2]; exact hP, hD⟩, hS.F ht2⟩) hS.2.2 dX11_count_51 hlocks
  · have h := zk_f c_1 h
    by_cases c_2 : x1 = (1 : Int32)
    · have h := zk_t c_2 h
      refine lv_tableIn (tgt := 52) hx hb dX11_count_1 (by rw [c_2]; decide) (by rw [c_2]; decide) (by rw [c_2]; rfl) (by decide) ?_
      refine lv_aload_n hx hb dX11_count_52 rfl (lv_at hl 0 rfl) ?_
      refine va_get (D := D) (ci := 11) (v := .ref (ad 4)) (C := RX11) (T := TX11) (N := 11) hx hb ht iX11 hown hK hP 0 rfl rfl 0 (by decide) (ht _ kw_696) (fun _ h9 => h9) rfl dX11_count_53 ?_
      refine va_get (D := D) (ci := 2) (v := .int court_claimCount) (C := RX2) (T := TX2) (N := 13) hx hb ht iX2 hown hK hP 1 rfl rfl 11 (by decide) (ht _ kw_153) (fun _ h9 => h9) rfl dX11_count_56 ?_
      exact W.iret (v := court_claimCount) hx hb hr (fun t ht2 hW => ⟨⟨court_claimCount, (), rfl, Option.some.inj h, by rw [ht2]; exact hP, hD⟩, hS.F ht2⟩) hS.2.2 dX11_count_59 hlocks
    · have h := zk_f c_2 h
      by_cases c_3 : x1 = (2 : Int32)
      · have h := zk_t c_3 h
        refine lv_tableIn (tgt := 60) hx hb dX11_count_1 (by rw [c_3]; decide) (by rw [c_3]; decide) (by rw [c_3]; rfl) (by decide) ?_
        refine lv_aload_n hx hb dX11_count_60 rfl (lv_at hl 0 rfl) ?_
        refine va_get (D := D) (ci := 11) (v := .ref (ad 4)) (C := RX11) (T := TX11) (N := 11) hx hb ht iX11 hown hK hP 0 rfl rfl 0 (by decide) (ht _ kw_696) (fun _ h9 => h9) rfl dX11_count_61 ?_
        refine va_get (D := D) (ci := 2) (v := .int court_suitCount) (C := RX2) (T := TX2) (N := 13) hx hb ht iX2 hown hK hP 1 rfl rfl 12 (by decide) (ht _ kw_155) (fun _ h9 => h9) rfl dX11_count_64 ?_
        exact W.iret (v := court_suitCount) hx hb hr (fun t ht2 hW => ⟨⟨court_suitCount, (), rfl, Option.some.inj h, by rw [ht2]; exact hP, hD⟩, hS.F ht2⟩) hS.2.2 dX11_count_67 hlocks
      · have h := zk_f c_3 h
        by_cases c_4 : x1 = (3 : Int32)
        · have h := zk_t c_4 h
          refine lv_tableIn (tgt := 68) hx hb dX11_count_1 (by rw [c_4]; decide) (by rw [c_4]; decide) (by rw [c_4]; rfl) (by decide) ?_
          refine lv_aload_n hx hb dX11_count_68 rfl (lv_at hl 0 rfl) ?_
          refine va_get (D := D) (ci := 11) (v := .ref (ad 23)) (C := RX11) (T := TX11) (N := 11) hx hb ht iX11 hown hK hP 0 rfl rfl 2 (by decide) (ht _ kw_698) (fun _ h9 => h9) rfl dX11_count_69 ?_
          refine va_get (D := D) (ci := 9) (v := .int tape_size) (C := RX9) (T := TX9) (N := 2) hx hb ht iX9 hown hK hP 2 rfl rfl 1 (by decide) (ht _ kw_236) (fun _ h9 => h9) rfl dX11_count_72 ?_
          exact W.iret (v := tape_size) hx hb hr (fun t ht2 hW => ⟨⟨tape_size, (), rfl, Option.some.inj h, by rw [ht2]; exact hP, hD⟩, hS.F ht2⟩) hS.2.2 dX11_count_75 hlocks
        · have h := zk_f c_4 h
          by_cases c_5 : x1 = (4 : Int32)
          · have h := zk_t c_5 h
            refine lv_tableIn (tgt := 76) hx hb dX11_count_1 (by rw [c_5]; decide) (by rw [c_5]; decide) (by rw [c_5]; rfl) (by decide) ?_
            refine lv_aload_n hx hb dX11_count_76 rfl (lv_at hl 0 rfl) ?_
            refine va_get (D := D) (ci := 11) (v := .ref (ad 28)) (C := RX11) (T := TX11) (N := 11) hx hb ht iX11 hown hK hP 0 rfl rfl 5 (by decide) (ht _ kw_701) (fun _ h9 => h9) rfl dX11_count_77 ?_
            refine va_get (D := D) (ci := 10) (v := .int wishes_size) (C := RX10) (T := TX10) (N := 9) hx hb ht iX10 hown hK hP 3 rfl rfl 2 (by decide) (ht _ kw_390) (fun _ h9 => h9) rfl dX11_count_80 ?_
            exact W.iret (v := wishes_size) hx hb hr (fun t ht2 hW => ⟨⟨wishes_size, (), rfl, Option.some.inj h, by rw [ht2]; exact hP, hD⟩, hS.F ht2⟩) hS.2.2 dX11_count_83 hlocks
          · have h := zk_f c_5 h
            by_cases c_6 : x1 = (5 : Int32)
            · have h := zk_t c_6 h
              refine lv_tableIn (tgt := 84) hx hb dX11_count_1 (by rw [c_6]; decide) (by rw [c_6]; decide) (by rw [c_6]; rfl) (by decide) ?_
              refine lv_aload_n hx hb dX11_count_84 rfl (lv_at hl 0 rfl) ?_
              refine va_get (D := D) (ci := 11) (v := .ref (ad 34)) (C := RX11) (T := TX11) (N := 11) hx hb ht iX11 hown hK hP 0 rfl rfl 6 (by decide) (ht _ kw_702) (fun _ h9 => h9) rfl dX11_count_85 ?_
              refine va_get (D := D) (ci := 1) (v := .int chg_done) (C := RX1) (T := TX1) (N := 7) hx hb ht iX1 hown hK hP 4 rfl rfl 5 (by decide) (ht _ kw_430) (fun _ h9 => h9) rfl dX11_count_88 ?_
              exact W.iret (v := chg_done) hx hb hr (fun t ht2 hW => ⟨⟨chg_done, (), rfl, Option.some.inj h, by rw [ht2]; exact hP, hD⟩, hS.F ht2⟩) hS.2.2 dX11_count_91 hlocks
            · have h := zk_f c_6 h
              by_cases c_7 : x1 = (6 : Int32)
              · have h := zk_t c_7 h
                refine lv_tableIn (tgt := 92) hx hb dX11_count_1 (by rw [c_7]; decide) (by rw [c_7]; decide) (by rw [c_7]; rfl) (by decide) ?_
                refine lv_aload_n hx hb dX11_count_92 rfl (lv_at hl 0 rfl) ?_
                refine va_get (D := D) (ci := 11) (v := .ref (ad 39)) (C := RX11) (T := TX11) (N := 11) hx hb ht iX11 hown hK hP 0 rfl rfl 7 (by decide) (ht _ kw_703) (fun _ h9 => h9) rfl dX11_count_93 ?_
                refine va_get (D := D) (ci := 0) (v := .int acts_ran) (C := RX0) (T := TX0) (N := 5) hx hb ht iX0 hown hK hP 5 rfl rfl 1 (by decide) (ht _ kw_456) (fun _ h9 => h9) rfl dX11_count_96 ?_
                exact W.iret (v := acts_ran) hx hb hr (fun t ht2 hW => ⟨⟨acts_ran, (), rfl, Option.some.inj h, by rw [ht2]; exact hP, hD⟩, hS.F ht2⟩) hS.2.2 dX11_count_99 hlocks
              · have h := zk_f c_7 h
                refine lv_tableOut (tgt := 100) hx hb dX11_count_1 (zk_out (lo := 0) (hi := 6) [(0 : Int32), (1 : Int32), (2 : Int32), (3 : Int32), (4 : Int32), (5 : Int32), (6 : Int32)] (by decide +kernel) (List.forall_mem_cons.mpr ⟨c_1, List.forall_mem_cons.mpr ⟨c_2, List.forall_mem_cons.mpr ⟨c_3, List.forall_mem_cons.mpr ⟨c_4, List.forall_mem_cons.mpr ⟨c_5, List.forall_mem_cons.mpr ⟨c_6, List.forall_mem_cons.mpr ⟨c_7, fun _ h => absurd h List.not_mem_nil⟩⟩⟩⟩⟩⟩⟩)) (by decide) ?_
                refine lv_iconst (v := (-1 : Int32)) hx hb dX11_count_100 (by decide) ?_
                exact W.iret (v := (-1 : Int32)) hx hb hr (fun t ht2 hW => ⟨⟨(-1 : Int32), (), rfl, Option.some.inj h, by rw [ht2]; exact hP, hD⟩, hS.F ht2⟩) hS.2.2 dX11_count_101 hlocks
set_option maxHeartbeats 4000000 in
set_option maxRecDepth 100000 in
theorem c_X11_count (l : Launch) (D : va_G) (cs : Nat → ClassId) (ad : Nat → Nat) (sz : Nat) (x1 : Int32) (court_shoeCount : Int32) (court_claimCount : Int32) (court_suitCount : Int32) (tape_size : Int32) (wishes_size : Int32) (wishes_best : Int32) (wishes_bestRow : Int32) (chg_done : Int32) (chg_size : Int32) (acts_ran : Int32) (acts_kind : Int32) (acts_number : Int32) (acts_claims : Int32) (R : Int32 × Unit) (h : f_X11_count   x1 court_shoeCount court_claimCount court_suitCount tape_size wishes_size wishes_best wishes_bestRow chg_done chg_size acts_ran acts_kind acts_number acts_claims = some R) : Met l yX11_count (z_X11_count) rm_X11_count (va_Pc [.ref (ad 0), .int x1] (zPre D cs (wl_X11_count ad cs court_shoeCount court_claimCount court_suitCount tape_size wishes_size wishes_best wishes_bestRow chg_done chg_size acts_ran acts_kind acts_number acts_claims) sz)) (Q_X11_count D cs ad court_shoeCount court_claimCount court_suitCount tape_size wishes_size wishes_best wishes_bestRow chg_done chg_size acts_ran acts_kind acts_number acts_claims (va_A (wl_X11_count ad cs court_shoeCount court_claimCount court_suitCount tape_size wishes_size wishes_best wishes_bestRow chg_done chg_size acts_ran acts_kind acts_number acts_claims) sz) R) 0 0 (va_A (wl_X11_count ad cs court_shoeCount court_claimCount court_suitCount tape_size wishes_size wishes_best wishes_bestRow chg_done chg_size acts_ran acts_kind acts_number acts_claims) sz) := by
  refine Met.ofW (cc := cX11_count) (maxL := 2) (ret := (some .int)) (by decide) rfl ?_
  intro p e s m args below meth c s₁ B hml hv
  obtain ⟨rfl, hsz, hP, hK, hD0⟩ := hv
  subst hsz
  have hD := hD0.self (sz := s.heap.size)
  have C0 : zC p s m _ meth c cX11_count 2 (some .int) RX11 zW := ⟨B.exec, B.bytes, B.returns, hml, findClass_of_methodNamed B.named, fun w hw => atoms_spec (ws := z_X11_count) B.pre w (List.mem_cons_of_mem _ hw), B.notSynchronized⟩
  have hA : ∀ q : Nat, s.heap.size ≤ q → va_A (wl_X11_count ad cs court_shoeCount court_claimCount court_suitCount tape_size wishes_size wishes_best wishes_bestRow chg_done chg_size acts_ran acts_kind acts_number acts_claims) s.heap.size q := fun q h => Or.inr h
  have hl := lv_entry ([.ref (ad 0), .int x1]) (n := 2) (Nat.le_of_ble_eq_true rfl)
  rw [lg_entry_eq]
  generalize (lg_sl ([.ref (ad 0), .int x1]) ++ List.replicate (2 - (lg_sl ([.ref (ad 0), .int x1])).length) Slot.unset).toArray = ls at hl ⊢
  exact L_X11_count_0 C0 hK hA   x1  h s.heap [] ls hP hD va_S.rf hl
theorem kw_1277 : Cond.methodLink RX11 378 arraycopyName ∈ zW := zwC (i := 3) zc_6 rfl rfl
theorem zh_cX11_shift_0 : zck [42, 27, 182, 0, 111, 58, 6, 42, 29, 182, 0, 111, 58, 7, 25, 6, 198, 0, 8, 25, 7, 199] (zdu 0 cX11_shift.data.toList) = true := by decide +kernel
theorem dX11_shift_0 : decode cX11_shift 0 = .ok (.aload_n 0, 1) := zo_42 zh_cX11_shift_0 0 rfl
theorem dX11_shift_1 : decode cX11_shift 1 = .ok (.iload_n 1, 1) := zo_27 zh_cX11_shift_0 1 rfl
theorem dX11_shift_2 : decode cX11_shift 2 = .ok (.invokevirtual 111, 3) := zo_182 zh_cX11_shift_0 2 rfl
theorem dX11_shift_5 : decode cX11_shift 5 = .ok (.astore 6, 2) := zo_58 zh_cX11_shift_0 5 rfl
theorem dX11_shift_7 : decode cX11_shift 7 = .ok (.aload_n 0, 1) := zo_42 zh_cX11_shift_0 7 rfl
theorem dX11_shift_8 : decode cX11_shift 8 = .ok (.iload_n 3, 1) := zo_29 zh_cX11_shift_0 8 rfl
theorem dX11_shift_9 : decode cX11_shift 9 = .ok (.invokevirtual 111, 3) := zo_182 zh_cX11_shift_0 9 rfl
theorem dX11_shift_12 : decode cX11_shift 12 = .ok (.astore 7, 2) := zo_58 zh_cX11_shift_0 12 rfl
theorem dX11_shift_14 : decode cX11_shift 14 = .ok (.aload 6, 2) := zo_25 zh_cX11_shift_0 14 rfl
theorem dX11_shift_16 : decode cX11_shift 16 = .ok (.ifnull 8, 3) := zo_p198 zh_cX11_shift_0 16 8 rfl rfl
theorem dX11_shift_19 : decode cX11_shift 19 = .ok (.aload 7, 2) := zo_25 zh_cX11_shift_0 19 rfl
theorem zh_cX11_shift_1 : zck [7, 199, 0, 5, 2, 172, 25, 6, 180, 0, 115, 2, 159, 0, 12, 25, 7, 180, 0, 115, 2, 160] (zdu 20 cX11_shift.data.toList) = true := by decide +kernel
theorem dX11_shift_21 : decode cX11_shift 21 = .ok (.ifnonnull 5, 3) := zo_p199 zh_cX11_shift_1 1 5 rfl rfl
theorem dX11_shift_24 : decode cX11_shift 24 = .ok (.iconst (-1), 1) := zo_2 zh_cX11_shift_1 4 rfl
theorem dX11_shift_25 : decode cX11_shift 25 = .ok (.ireturn, 1) := zo_172 zh_cX11_shift_1 5 rfl
theorem dX11_shift_26 : decode cX11_shift 26 = .ok (.aload 6, 2) := zo_25 zh_cX11_shift_1 6 rfl
theorem dX11_shift_28 : decode cX11_shift 28 = .ok (.getfield 115, 3) := zo_180 zh_cX11_shift_1 8 rfl
theorem dX11_shift_31 : decode cX11_shift 31 = .ok (.iconst (-1), 1) := zo_2 zh_cX11_shift_1 11 rfl
theorem dX11_shift_32 : decode cX11_shift 32 = .ok (.if_icmp .eq 12, 3) := zo_p159 zh_cX11_shift_1 12 12 rfl rfl
theorem dX11_shift_35 : decode cX11_shift 35 = .ok (.aload 7, 2) := zo_25 zh_cX11_shift_1 15 rfl
theorem dX11_shift_37 : decode cX11_shift 37 = .ok (.getfield 115, 3) := zo_180 zh_cX11_shift_1 17 rfl
theorem zh_cX11_shift_2 : zck [2, 160, 0, 6, 16, 245, 172, 25, 6, 180, 0, 115, 8, 159, 0, 16, 25, 6, 180, 0, 115, 25] (zdu 40 cX11_shift.data.toList) = true := by decide +kernel
theorem dX11_shift_40 : decode cX11_shift 40 = .ok (.iconst (-1), 1) := zo_2 zh_cX11_shift_2 0 rfl
theorem dX11_shift_41 : decode cX11_shift 41 = .ok (.if_icmp .ne 6, 3) := zo_p160 zh_cX11_shift_2 1 6 rfl rfl
theorem dX11_shift_44 : decode cX11_shift 44 = .ok (.bipush (-11), 2) := zo_n16 zh_cX11_shift_2 4 10 rfl rfl
theorem dX11_shift_46 : decode cX11_shift 46 = .ok (.ireturn, 1) := zo_172 zh_cX11_shift_2 6 rfl
theorem dX11_shift_47 : decode cX11_shift 47 = .ok (.aload 6, 2) := zo_25 zh_cX11_shift_2 7 rfl
theorem dX11_shift_49 : decode cX11_shift 49 = .ok (.getfield 115, 3) := zo_180 zh_cX11_shift_2 9 rfl
theorem dX11_shift_52 : decode cX11_shift 52 = .ok (.iconst 5, 1) := zo_8 zh_cX11_shift_2 12 rfl
theorem dX11_shift_53 : decode cX11_shift 53 = .ok (.if_icmp .eq 16, 3) := zo_p159 zh_cX11_shift_2 13 16 rfl rfl
theorem dX11_shift_56 : decode cX11_shift 56 = .ok (.aload 6, 2) := zo_25 zh_cX11_shift_2 16 rfl
theorem dX11_shift_58 : decode cX11_shift 58 = .ok (.getfield 115, 3) := zo_180 zh_cX11_shift_2 18 rfl
theorem zh_cX11_shift_3 : zck [115, 25, 7, 180, 0, 115, 159, 0, 6, 16, 244, 172, 25, 6, 28, 21, 5, 182, 1, 119, 153, 0] (zdu 60 cX11_shift.data.toList) = true := by decide +kernel
theorem dX11_shift_61 : decode cX11_shift 61 = .ok (.aload 7, 2) := zo_25 zh_cX11_shift_3 1 rfl
theorem dX11_shift_63 : decode cX11_shift 63 = .ok (.getfield 115, 3) := zo_180 zh_cX11_shift_3 3 rfl
theorem dX11_shift_66 : decode cX11_shift 66 = .ok (.if_icmp .eq 6, 3) := zo_p159 zh_cX11_shift_3 6 6 rfl rfl
theorem dX11_shift_69 : decode cX11_shift 69 = .ok (.bipush (-12), 2) := zo_n16 zh_cX11_shift_3 9 11 rfl rfl
theorem dX11_shift_71 : decode cX11_shift 71 = .ok (.ireturn, 1) := zo_172 zh_cX11_shift_3 11 rfl
theorem dX11_shift_72 : decode cX11_shift 72 = .ok (.aload 6, 2) := zo_25 zh_cX11_shift_3 12 rfl
theorem dX11_shift_74 : decode cX11_shift 74 = .ok (.iload_n 2, 1) := zo_28 zh_cX11_shift_3 14 rfl
theorem dX11_shift_75 : decode cX11_shift 75 = .ok (.iload 5, 2) := zo_21 zh_cX11_shift_3 15 rfl
theorem dX11_shift_77 : decode cX11_shift 77 = .ok (.invokevirtual 375, 3) := zo_182 zh_cX11_shift_3 17 rfl
theorem zh_cX11_shift_4 : zck [153, 0, 15, 25, 7, 21, 4, 21, 5, 182, 1, 119, 154, 0, 6, 16, 243, 172, 25, 6, 180, 1] (zdu 80 cX11_shift.data.toList) = true := by decide +kernel
theorem dX11_shift_80 : decode cX11_shift 80 = .ok (.ifCond .eq 15, 3) := zo_p153 zh_cX11_shift_4 0 15 rfl rfl
theorem dX11_shift_83 : decode cX11_shift 83 = .ok (.aload 7, 2) := zo_25 zh_cX11_shift_4 3 rfl
theorem dX11_shift_85 : decode cX11_shift 85 = .ok (.iload 4, 2) := zo_21 zh_cX11_shift_4 5 rfl
theorem dX11_shift_87 : decode cX11_shift 87 = .ok (.iload 5, 2) := zo_21 zh_cX11_shift_4 7 rfl
theorem dX11_shift_89 : decode cX11_shift 89 = .ok (.invokevirtual 375, 3) := zo_182 zh_cX11_shift_4 9 rfl
theorem dX11_shift_92 : decode cX11_shift 92 = .ok (.ifCond .ne 6, 3) := zo_p154 zh_cX11_shift_4 12 6 rfl rfl
theorem dX11_shift_95 : decode cX11_shift 95 = .ok (.bipush (-13), 2) := zo_n16 zh_cX11_shift_4 15 12 rfl rfl
theorem dX11_shift_97 : decode cX11_shift 97 = .ok (.ireturn, 1) := zo_172 zh_cX11_shift_4 17 rfl
theorem dX11_shift_98 : decode cX11_shift 98 = .ok (.aload 6, 2) := zo_25 zh_cX11_shift_4 18 rfl
theorem zh_cX11_shift_5 : zck [180, 1, 109, 28, 25, 7, 180, 1, 109, 21, 4, 21, 5, 184, 1, 122, 21, 5, 172] (zdu 100 cX11_shift.data.toList) = true := by decide +kernel
theorem dX11_shift_100 : decode cX11_shift 100 = .ok (.getfield 365, 3) := zo_180 zh_cX11_shift_5 0 rfl
theorem dX11_shift_103 : decode cX11_shift 103 = .ok (.iload_n 2, 1) := zo_28 zh_cX11_shift_5 3 rfl
theorem dX11_shift_104 : decode cX11_shift 104 = .ok (.aload 7, 2) := zo_25 zh_cX11_shift_5 4 rfl
theorem dX11_shift_106 : decode cX11_shift 106 = .ok (.getfield 365, 3) := zo_180 zh_cX11_shift_5 6 rfl
theorem dX11_shift_109 : decode cX11_shift 109 = .ok (.iload 4, 2) := zo_21 zh_cX11_shift_5 9 rfl
theorem dX11_shift_111 : decode cX11_shift 111 = .ok (.iload 5, 2) := zo_21 zh_cX11_shift_5 11 rfl
theorem dX11_shift_113 : decode cX11_shift 113 = .ok (.invokestatic 378, 3) := zo_184 zh_cX11_shift_5 13 rfl
theorem dX11_shift_116 : decode cX11_shift 116 = .ok (.iload 5, 2) := zo_21 zh_cX11_shift_5 16 rfl
theorem dX11_shift_118 : decode cX11_shift 118 = .ok (.ireturn, 1) := zo_172 zh_cX11_shift_5 18 rfl
abbrev z_X11_shift : List Cond := .code yX11_shift cX11_shift 8 (some .int) :: zW
abbrev wl_X11_shift (ad : Nat → Nat) (cs : Nat → ClassId) (h_pl : Nat) (h_pl_elements : Nat) (root_places : Nat → Option Nat) (pl_holds : Int32) (pl_suit : Int32) (pl_size : Int32) (pl_elements : Nat → Int64) : va_W := [((ad 0), .inr (11, [.ref (ad 4), .ref (ad 15), .ref (ad 23), .ref (ad 25), .ref (ad 26), .ref (ad 28), .ref (ad 34), .ref (ad 39), .ref (ad 1), .ref (ad 2), .ref (ad 3)])), ((ad 1), .inl (cs 7, 6, .inr (.inr (.inr (.inr root_places))))), (h_pl, .inr (6, [.int pl_holds, .int pl_suit, .int pl_size, .ref h_pl_elements])), (h_pl_elements, .inl (cs 1, 60, .inr (.inl pl_elements)))]
def Q_X11_shift (D : va_G) (cs : Nat → ClassId) (ad : Nat → Nat) (h_pl : Nat) (h_pl_elements : Nat) (root_places : Nat → Option Nat) (pl_holds : Int32) (pl_suit : Int32) (pl_size : Int32) (A : Nat → Prop) (R : Int32 × (Nat → Int64)) : Array Value → State → Outcome → State → Prop :=
  va_Qi (fun (r : Int32) (u : (Nat → Int64)) => (r, u) = R) (fun (u : (Nat → Int64)) (t : State) => va_P D classes (wl_X11_shift ad cs h_pl h_pl_elements root_places pl_holds pl_suit pl_size u) t.heap ∧ va_D A (wl_X11_shift ad cs h_pl h_pl_elements root_places pl_holds pl_suit pl_size u)) A
abbrev rm_X11_shift : Room := { frames := 1, cells := 0, slots := 0, locals := 40 }
def B_X11_shift_0 (h_pl : Nat)   (root_places : Nat → Option Nat) (pl_holds : Int32) (pl_suit : Int32) (pl_size : Int32) (x1 : Int32) (x2 : Int32) (x3 : Int32) (x4 : Int32) (x5 : Int32) (pl_elements : Nat → Int64) : Option (Int32 × (Nat → Int64)) :=
  (zk_b2 (f_X11_placeAt h_pl x1 root_places pl_holds pl_suit pl_size) (fun r_1 u_2 => (if r_1 = true then (zk_b2 (f_X11_placeAt h_pl x3 root_places pl_holds pl_suit pl_size) (fun r_5 u_6 => (if r_5 = true then (if pl_holds = (-1 : Int32) then (some ((-11 : Int32), pl_elements)) else (if pl_holds = (-1 : Int32) then (some ((-11 : Int32), pl_elements)) else (if pl_holds = (5 : Int32) then (some ((-12 : Int32), pl_elements)) else (if pl_holds = pl_holds then (zk_b2 (f_X6_hasRange x2 x5 pl_holds pl_suit pl_size) (fun r_13 u_14 => (if r_13 = 0 then (some ((-13 : Int32), pl_elements)) else (zk_b2 (f_X6_hasRange x4 x5 pl_holds pl_suit pl_size) (fun r_17 u_18 => (if r_17 = 0 then (some ((-13 : Int32), pl_elements)) else (if (x2 < 0 ∨ x4 < 0 ∨ x5 < 0 ∨ 60 < x2.toNatClampNeg + x5.toNatClampNeg ∨ 60 < x4.toNatClampNeg + x5.toNatClampNeg) then none else (zk_let (va_cpy pl_elements pl_elements x2.toNatClampNeg x4.toNatClampNeg x5.toNatClampNeg) (fun f_22 => (some (x5, f_22))))))))))) else (some ((-12 : Int32), pl_elements)))))) else (some ((-1 : Int32), pl_elements))))) else (zk_b2 (f_X11_placeAt h_pl x3 root_places pl_holds pl_suit pl_size) (fun r_23 u_24 => (if r_23 = true then (some ((-1 : Int32), pl_elements)) else (some ((-1 : Int32), pl_elements))))))))
def f_X11_shift (h_pl : Nat)  (x1 : Int32) (x2 : Int32) (x3 : Int32) (x4 : Int32) (x5 : Int32) (root_places : Nat → Option Nat) (pl_holds : Int32) (pl_suit : Int32) (pl_size : Int32) (pl_elements : Nat → Int64) : Option (Int32 × (Nat → Int64)) := B_X11_shift_0 h_pl  root_places pl_holds pl_suit pl_size x1 x2 x3 x4 x5 pl_elements
set_option maxHeartbeats 4000000 in
set_option maxRecDepth 100000 in
theorem L_X11_shift_0 {p : Program} {l : Launch} {e : Env} {s : State} {m : MethodId} {args : Array Value} {below : List Frame} {meth : Method} {c : Code} {A : Nat → Prop} {D : va_G} {cs : Nat → ClassId} {ad : Nat → Nat} {h_pl : Nat} {h_pl_elements : Nat} {root_places : Nat → Option Nat} {pl_holds : Int32} {pl_suit : Int32} {pl_size : Int32} {R : Int32 × (Nat → Int64)} (C0 : zC p s m args meth c cX11_shift 8 (some .int) RX11 zW) (hK : va_K D classes (zT cs) s) (hA : ∀ q : Nat, s.heap.size ≤ q → A q) (x1 : Int32) (x2 : Int32) (x3 : Int32) (x4 : Int32) (x5 : Int32) (pl_elements : Nat → Int64) (h : B_X11_shift_0 h_pl root_places pl_holds pl_suit pl_size x1 x2 x3 x4 x5 pl_elements = some R) (H : Heap) (locs : List Loc) (ls : Array Slot) (hP : va_P D classes (wl_X11_shift ad cs h_pl h_pl_elements root_places pl_holds pl_suit pl_size pl_elements) H) (hD : va_D A (wl_X11_shift ad cs h_pl h_pl_elements root_places pl_holds pl_suit pl_size pl_elements)) (hS : va_S A s.heap H locs) (hl : lv_has ls 8 [(0, .ref (ad 0)), (1, .int x1), (2, .int x2), (3, .int x3), (4, .int x4), (5, .int x5)]) : W p l e rm_X11_shift s m args below meth c H locs 0 0 (MQ below (Q_X11_shift D cs ad h_pl h_pl_elements root_places pl_holds pl_suit pl_size A R) args s 0 0 A) (F0 m 0 ls []) := by
  obtain ⟨hx, hb, hr, hml, hown, ht, hlocks⟩ := id C0
  refine lv_aload_n hx hb dX11_shift_0 rfl (lv_at hl 0 rfl) ?_
  refine lv_iload_n hx hb dX11_shift_1 rfl (lv_at hl 1 rfl) ?_
  obtain ⟨r_1, u_2, hc_3, h⟩ := zk_o2 h
  refine zz_vq (post := (fun r u => r = (if r_1 = true then some h_pl else none) ∧ u = (u_2))) (w1 := fun u => (wl_X11_placeAt ad cs h_pl h_pl_elements root_places pl_holds pl_suit pl_size)) (As := [.int x1]) (rest := []) (c_X11_placeAt l D cs ad h_pl h_pl_elements H.size x1 root_places pl_holds pl_suit pl_size (r_1, u_2) hc_3) ⟨hx, hb, hml, hown, ht⟩ (cwV 1 ht g_X11_111 rfl rfl rfl ⟨rfl, hd_X11_placeAt⟩ ⟨Nat.le_of_ble_eq_true rfl, Nat.le_of_ble_eq_true rfl⟩) (va_recv hK hP (ci := 11) (q0 := 0) rfl rfl) hP hD hS hK hA [0, 1, 2] rfl rfl [(ad 0), (ad 1), h_pl] rfl (fun _ => rfl) rfl hl.1 (Nat.le_of_ble_eq_true rfl) dX11_shift_2 ⟨Nat.zero_le _, Nat.zero_le _⟩ (fun r u H locs hq hP hS => ?_)
  obtain ⟨hq1, hq2⟩ := hq; cases hq2; subst hq1
  have hP : va_P D classes (wl_X11_shift ad cs h_pl h_pl_elements root_places pl_holds pl_suit pl_size pl_elements) H := hP
  have hD : va_D A (wl_X11_shift ad cs h_pl h_pl_elements root_places pl_holds pl_suit pl_size pl_elements) := zDk hD [(ad 0), (ad 1), h_pl, h_pl_elements] rfl rfl
  by_cases c_4 : r_1 = true
  · have h := zk_t c_4 h
    refine W.eq (g2 := F0 m 5 ls [.ref h_pl]) (by rw [if_pos c_4]; rfl) ?_
    refine lv_astore (lv' := [(6, .ref h_pl), (0, .ref (ad 0)), (1, .int x1), (2, .int x2), (3, .int x3), (4, .int x4), (5, .int x5)]) hx hb dX11_shift_5 hl (by decide) rfl (fun ls hl => ?_)
    refine lv_aload_n hx hb dX11_shift_7 rfl (lv_at hl 1 rfl) ?_
    refine lv_iload_n hx hb dX11_shift_8 rfl (lv_at hl 4 rfl) ?_
    obtain ⟨r_5, u_6, hc_7, h⟩ := zk_o2 h
    refine zz_vq (post := (fun r u => r = (if r_5 = true then some h_pl else none) ∧ u = (u_6))) (w1 := fun u => (wl_X11_placeAt ad cs h_pl h_pl_elements root_places pl_holds pl_suit pl_size)) (As := [.int x3]) (rest := []) (c_X11_placeAt l D cs ad h_pl h_pl_elements H.size x3 root_places pl_holds pl_suit pl_size (r_5, u_6) hc_7) ⟨hx, hb, hml, hown, ht⟩ (cwV 1 ht g_X11_111 rfl rfl rfl ⟨rfl, hd_X11_placeAt⟩ ⟨Nat.le_of_ble_eq_true rfl, Nat.le_of_ble_eq_true rfl⟩) (va_recv hK hP (ci := 11) (q0 := 0) rfl rfl) hP hD hS hK hA [0, 1, 2] rfl rfl [(ad 0), (ad 1), h_pl] rfl (fun _ => rfl) rfl hl.1 (Nat.le_of_ble_eq_true rfl) dX11_shift_9 ⟨Nat.zero_le _, Nat.zero_le _⟩ (fun r u H locs hq hP hS => ?_)
    obtain ⟨hq1, hq2⟩ := hq; cases hq2; subst hq1
    have hP : va_P D classes (wl_X11_shift ad cs h_pl h_pl_elements root_places pl_holds pl_suit pl_size pl_elements) H := hP
    have hD : va_D A (wl_X11_shift ad cs h_pl h_pl_elements root_places pl_holds pl_suit pl_size pl_elements) := zDk hD [(ad 0), (ad 1), h_pl, h_pl_elements] rfl rfl
    by_cases c_8 : r_5 = true
    · have h := zk_t c_8 h
      refine W.eq (g2 := F0 m 12 ls [.ref h_pl]) (by rw [if_pos c_8]; rfl) ?_
      refine lv_astore (lv' := [(7, .ref h_pl), (6, .ref h_pl), (0, .ref (ad 0)), (1, .int x1), (2, .int x2), (3, .int x3), (4, .int x4), (5, .int x5)]) hx hb dX11_shift_12 hl (by decide) rfl (fun ls hl => ?_)
      refine lv_aload hx hb dX11_shift_14 (lv_at hl 1 rfl) ?_
      refine lv_ifnull hx hb dX11_shift_16 ?_
      refine lv_aload hx hb dX11_shift_19 (lv_at hl 0 rfl) ?_
      refine lv_ifnonnull (tgt := 26) hx hb dX11_shift_21 (by decide) ?_
      refine lv_aload hx hb dX11_shift_26 (lv_at hl 1 rfl) ?_
      refine va_get (D := D) (ci := 6) (v := .int pl_holds) (C := RX6) (T := TX6) (N := 4) hx hb ht iX6 hown hK hP 2 rfl rfl 0 (by decide) (ht _ kw_681) (fun _ h9 => h9) rfl dX11_shift_28 ?_
      refine lv_iconst (v := (-1 : Int32)) hx hb dX11_shift_31 (by decide) ?_
      refine lv_icmp_eq (tgt := 44) hx hb dX11_shift_32 (by decide) (fun c_9 => ?_) (fun c_9 => ?_)
      · have h := zk_t c_9 h
        refine lv_bipush (v := (-11 : Int32)) hx hb dX11_shift_44 (by decide) ?_
        exact W.iret (v := (-11 : Int32)) hx hb hr (fun t ht2 hW => ⟨⟨(-11 : Int32), pl_elements, rfl, Option.some.inj h, by rw [ht2]; exact hP, hD⟩, hS.F ht2⟩) hS.2.2 dX11_shift_46 hlocks
      · have h := zk_f c_9 h
        refine lv_aload hx hb dX11_shift_35 (lv_at hl 0 rfl) ?_
        refine va_get (D := D) (ci := 6) (v := .int pl_holds) (C := RX6) (T := TX6) (N := 4) hx hb ht iX6 hown hK hP 2 rfl rfl 0 (by decide) (ht _ kw_681) (fun _ h9 => h9) rfl dX11_shift_37 ?_
        refine lv_iconst (v := (-1 : Int32)) hx hb dX11_shift_40 (by decide) ?_
        refine lv_icmp_ne (tgt := 47) hx hb dX11_shift_41 (by decide) (fun c_10 => ?_) (fun c_10 => ?_)
        · have h := zk_f c_10 h
          refine lv_aload hx hb dX11_shift_47 (lv_at hl 1 rfl) ?_
          refine va_get (D := D) (ci := 6) (v := .int pl_holds) (C := RX6) (T := TX6) (N := 4) hx hb ht iX6 hown hK hP 2 rfl rfl 0 (by decide) (ht _ kw_681) (fun _ h9 => h9) rfl dX11_shift_49 ?_
          refine lv_iconst (v := (5 : Int32)) hx hb dX11_shift_52 (by decide) ?_
          refine lv_icmp_eq (tgt := 69) hx hb dX11_shift_53 (by decide) (fun c_11 => ?_) (fun c_11 => ?_)
          · have h := zk_t c_11 h
            refine lv_bipush (v := (-12 : Int32)) hx hb dX11_shift_69 (by decide) ?_
            exact W.iret (v := (-12 : Int32)) hx hb hr (fun t ht2 hW => ⟨⟨(-12 : Int32), pl_elements, rfl, Option.some.inj h, by rw [ht2]; exact hP, hD⟩, hS.F ht2⟩) hS.2.2 dX11_shift_71 hlocks
          · have h := zk_f c_11 h
            refine lv_aload hx hb dX11_shift_56 (lv_at hl 1 rfl) ?_
            refine va_get (D := D) (ci := 6) (v := .int pl_holds) (C := RX6) (T := TX6) (N := 4) hx hb ht iX6 hown hK hP 2 rfl rfl 0 (by decide) (ht _ kw_681) (fun _ h9 => h9) rfl dX11_shift_58 ?_
            refine lv_aload hx hb dX11_shift_61 (lv_at hl 0 rfl) ?_
            refine va_get (D := D) (ci := 6) (v := .int pl_holds) (C := RX6) (T := TX6) (N := 4) hx hb ht iX6 hown hK hP 2 rfl rfl 0 (by decide) (ht _ kw_681) (fun _ h9 => h9) rfl dX11_shift_63 ?_
            refine lv_icmp_eq (tgt := 72) hx hb dX11_shift_66 (by decide) (fun c_12 => ?_) (fun c_12 => ?_)
            · have h := zk_t c_12 h
              refine lv_aload hx hb dX11_shift_72 (lv_at hl 1 rfl) ?_
              refine lv_iload_n hx hb dX11_shift_74 rfl (lv_at hl 4 rfl) ?_
              refine lv_iload hx hb dX11_shift_75 (lv_at hl 7 rfl) ?_
              obtain ⟨r_13, u_14, hc_15, h⟩ := zk_o2 h
              refine zz_vi (post := (fun r u => (r, u) = (r_13, u_14))) (w1 := fun u => (wl_X6_hasRange ad cs h_pl h_pl_elements pl_holds pl_suit pl_size)) (As := [.int x2, .int x5]) (rest := []) (c_X6_hasRange l D cs ad h_pl h_pl_elements H.size x2 x5 pl_holds pl_suit pl_size (r_13, u_14) hc_15) ⟨hx, hb, hml, hown, ht⟩ (cwV 2 ht g_X11_375 rfl rfl rfl ⟨rfl, hd_X6_hasRange⟩ ⟨Nat.le_of_ble_eq_true rfl, Nat.le_of_ble_eq_true rfl⟩) (va_recv hK hP (ci := 6) (q0 := 2) rfl rfl) hP hD hS hK hA [2] rfl rfl [h_pl] rfl (fun _ => rfl) rfl hl.1 (Nat.le_of_ble_eq_true rfl) dX11_shift_77 ⟨Nat.zero_le _, Nat.zero_le _⟩ (fun r u H locs hq hP hS => ?_)
              cases hq
              have hP : va_P D classes (wl_X11_shift ad cs h_pl h_pl_elements root_places pl_holds pl_suit pl_size pl_elements) H := hP
              have hD : va_D A (wl_X11_shift ad cs h_pl h_pl_elements root_places pl_holds pl_suit pl_size pl_elements) := zDk hD [(ad 0), (ad 1), h_pl, h_pl_elements] rfl rfl
              refine lv_if_eq (tgt := 95) hx hb dX11_shift_80 (by decide) (fun c_16 => ?_) (fun c_16 => ?_)
              · have h := zk_t c_16 h
                refine lv_bipush (v := (-13 : Int32)) hx hb dX11_shift_95 (by decide) ?_
                exact W.iret (v := (-13 : Int32)) hx hb hr (fun t ht2 hW => ⟨⟨(-13 : Int32), pl_elements, rfl, Option.some.inj h, by rw [ht2]; exact hP, hD⟩, hS.F ht2⟩) hS.2.2 dX11_shift_97 hlocks
              · have h := zk_f c_16 h
                refine lv_aload hx hb dX11_shift_83 (lv_at hl 0 rfl) ?_
                refine lv_iload hx hb dX11_shift_85 (lv_at hl 6 rfl) ?_
                refine lv_iload hx hb dX11_shift_87 (lv_at hl 7 rfl) ?_
                obtain ⟨r_17, u_18, hc_19, h⟩ := zk_o2 h
                refine zz_vi (post := (fun r u => (r, u) = (r_17, u_18))) (w1 := fun u => (wl_X6_hasRange ad cs h_pl h_pl_elements pl_holds pl_suit pl_size)) (As := [.int x4, .int x5]) (rest := []) (c_X6_hasRange l D cs ad h_pl h_pl_elements H.size x4 x5 pl_holds pl_suit pl_size (r_17, u_18) hc_19) ⟨hx, hb, hml, hown, ht⟩ (cwV 2 ht g_X11_375 rfl rfl rfl ⟨rfl, hd_X6_hasRange⟩ ⟨Nat.le_of_ble_eq_true rfl, Nat.le_of_ble_eq_true rfl⟩) (va_recv hK hP (ci := 6) (q0 := 2) rfl rfl) hP hD hS hK hA [2] rfl rfl [h_pl] rfl (fun _ => rfl) rfl hl.1 (Nat.le_of_ble_eq_true rfl) dX11_shift_89 ⟨Nat.zero_le _, Nat.zero_le _⟩ (fun r u H locs hq hP hS => ?_)
                cases hq
                have hP : va_P D classes (wl_X11_shift ad cs h_pl h_pl_elements root_places pl_holds pl_suit pl_size pl_elements) H := hP
                have hD : va_D A (wl_X11_shift ad cs h_pl h_pl_elements root_places pl_holds pl_suit pl_size pl_elements) := zDk hD [(ad 0), (ad 1), h_pl, h_pl_elements] rfl rfl
                refine lv_if_ne (tgt := 98) hx hb dX11_shift_92 (by decide) (fun c_20 => ?_) (fun c_20 => ?_)
                · have h := zk_f c_20 h
                  refine lv_aload hx hb dX11_shift_98 (lv_at hl 1 rfl) ?_
                  refine va_get (D := D) (ci := 6) (v := .ref h_pl_elements) (C := RX6) (T := TX6) (N := 4) hx hb ht iX6 hown hK hP 2 rfl rfl 3 (by decide) (ht _ kw_686) (fun _ h9 => h9) rfl dX11_shift_100 ?_
                  refine lv_iload_n hx hb dX11_shift_103 rfl (lv_at hl 4 rfl) ?_
                  refine lv_aload hx hb dX11_shift_104 (lv_at hl 0 rfl) ?_
                  refine va_get (D := D) (ci := 6) (v := .ref h_pl_elements) (C := RX6) (T := TX6) (N := 4) hx hb ht iX6 hown hK hP 2 rfl rfl 3 (by decide) (ht _ kw_686) (fun _ h9 => h9) rfl dX11_shift_106 ?_
                  refine lv_iload hx hb dX11_shift_109 (lv_at hl 6 rfl) ?_
                  refine lv_iload hx hb dX11_shift_111 (lv_at hl 7 rfl) ?_
                  obtain ⟨g_21, h⟩ := zk_gd h
                  obtain ⟨f_22, ef_22, h⟩ := zk_lt h
                  refine va_copyl (ty := .long) hx hb (by rw [hml]; exact hl.1.symm) hown (ht _ kw_1277) (ht _ kw_665) (ht _ kw_664) (ht _ kw_93) hK hP hD hS 3 3 1 1 rfl rfl rfl rfl rfl (fun z => g_21 (Or.inl z)) (fun z => g_21 (Or.inr (Or.inl z))) (fun z => g_21 (Or.inr (Or.inr (Or.inl z)))) (Nat.not_lt.mp fun z => g_21 (Or.inr (Or.inr (Or.inr (Or.inl z))))) (Nat.not_lt.mp fun z => g_21 (Or.inr (Or.inr (Or.inr (Or.inr z))))) (fun _ _ => rfl) (Nat.le_of_ble_eq_true rfl) (Nat.le_of_ble_eq_true rfl) dX11_shift_113 (fun H locs hP hD hS => ?_)
                  have hP : va_P D classes (wl_X11_shift ad cs h_pl h_pl_elements root_places pl_holds pl_suit pl_size f_22) H := by rw [ef_22]; exact hP
                  have hD : va_D A (wl_X11_shift ad cs h_pl h_pl_elements root_places pl_holds pl_suit pl_size f_22) := by rw [ef_22]; exact hD
                  refine lv_iload hx hb dX11_shift_116 (lv_at hl 7 rfl) ?_
                  exact W.iret (v := x5) hx hb hr (fun t ht2 hW => ⟨⟨x5, f_22, rfl, Option.some.inj h, by rw [ht2]; exact hP, hD⟩, hS.F ht2⟩) hS.2.2 dX11_shift_118 hlocks
                · have h := zk_t c_20 h
                  refine lv_bipush (v := (-13 : Int32)) hx hb dX11_shift_95 (by decide) ?_
                  exact W.iret (v := (-13 : Int32)) hx hb hr (fun t ht2 hW => ⟨⟨(-13 : Int32), pl_elements, rfl, Option.some.inj h, by rw [ht2]; exact hP, hD⟩, hS.F ht2⟩) hS.2.2 dX11_shift_97 hlocks
            · have h := zk_f c_12 h
              refine lv_bipush (v := (-12 : Int32)) hx hb dX11_shift_69 (by decide) ?_
              exact W.iret (v := (-12 : Int32)) hx hb hr (fun t ht2 hW => ⟨⟨(-12 : Int32), pl_elements, rfl, Option.some.inj h, by rw [ht2]; exact hP, hD⟩, hS.F ht2⟩) hS.2.2 dX11_shift_71 hlocks
        · have h := zk_t c_10 h
          refine lv_bipush (v := (-11 : Int32)) hx hb dX11_shift_44 (by decide) ?_
          exact W.iret (v := (-11 : Int32)) hx hb hr (fun t ht2 hW => ⟨⟨(-11 : Int32), pl_elements, rfl, Option.some.inj h, by rw [ht2]; exact hP, hD⟩, hS.F ht2⟩) hS.2.2 dX11_shift_46 hlocks
    · have h := zk_f c_8 h
      refine W.eq (g2 := F0 m 12 ls [.null]) (by rw [if_neg c_8]; rfl) ?_
      refine lv_astoreN (lv' := [(7, .null), (6, .ref h_pl), (0, .ref (ad 0)), (1, .int x1), (2, .int x2), (3, .int x3), (4, .int x4), (5, .int x5)]) hx hb dX11_shift_12 hl (by decide) rfl (fun ls hl => ?_)
      refine lv_aload hx hb dX11_shift_14 (lv_at hl 1 rfl) ?_
      refine lv_ifnull hx hb dX11_shift_16 ?_
      refine lv_aloadN hx hb dX11_shift_19 (lv_at hl 0 rfl) ?_
      refine lv_ifnonnullN hx hb dX11_shift_21 ?_
      refine lv_iconst (v := (-1 : Int32)) hx hb dX11_shift_24 (by decide) ?_
      exact W.iret (v := (-1 : Int32)) hx hb hr (fun t ht2 hW => ⟨⟨(-1 : Int32), pl_elements, rfl, Option.some.inj h, by rw [ht2]; exact hP, hD⟩, hS.F ht2⟩) hS.2.2 dX11_shift_25 hlocks
  · have h := zk_f c_4 h
    refine W.eq (g2 := F0 m 5 ls [.null]) (by rw [if_neg c_4]; rfl) ?_
    refine lv_astoreN (lv' := [(6, .null), (0, .ref (ad 0)), (1, .int x1), (2, .int x2), (3, .int x3), (4, .int x4), (5, .int x5)]) hx hb dX11_shift_5 hl (by decide) rfl (fun ls hl => ?_)
    refine lv_aload_n hx hb dX11_shift_7 rfl (lv_at hl 1 rfl) ?_
    refine lv_iload_n hx hb dX11_shift_8 rfl (lv_at hl 4 rfl) ?_
    obtain ⟨r_23, u_24, hc_25, h⟩ := zk_o2 h
    refine zz_vq (post := (fun r u => r = (if r_23 = true then some h_pl else none) ∧ u = (u_24))) (w1 := fun u => (wl_X11_placeAt ad cs h_pl h_pl_elements root_places pl_holds pl_suit pl_size)) (As := [.int x3]) (rest := []) (c_X11_placeAt l D cs ad h_pl h_pl_elements H.size x3 root_places pl_holds pl_suit pl_size (r_23, u_24) hc_25) ⟨hx, hb, hml, hown, ht⟩ (cwV 1 ht g_X11_111 rfl rfl rfl ⟨rfl, hd_X11_placeAt⟩ ⟨Nat.le_of_ble_eq_true rfl, Nat.le_of_ble_eq_true rfl⟩) (va_recv hK hP (ci := 11) (q0 := 0) rfl rfl) hP hD hS hK hA [0, 1, 2] rfl rfl [(ad 0), (ad 1), h_pl] rfl (fun _ => rfl) rfl hl.1 (Nat.le_of_ble_eq_true rfl) dX11_shift_9 ⟨Nat.zero_le _, Nat.zero_le _⟩ (fun r u H locs hq hP hS => ?_)
    obtain ⟨hq1, hq2⟩ := hq; cases hq2; subst hq1
    have hP : va_P D classes (wl_X11_shift ad cs h_pl h_pl_elements root_places pl_holds pl_suit pl_size pl_elements) H := hP
    have hD : va_D A (wl_X11_shift ad cs h_pl h_pl_elements root_places pl_holds pl_suit pl_size pl_elements) := zDk hD [(ad 0), (ad 1), h_pl, h_pl_elements] rfl rfl
    by_cases c_26 : r_23 = true
    · have h := zk_t c_26 h
      refine W.eq (g2 := F0 m 12 ls [.ref h_pl]) (by rw [if_pos c_26]; rfl) ?_
      refine lv_astore (lv' := [(7, .ref h_pl), (6, .null), (0, .ref (ad 0)), (1, .int x1), (2, .int x2), (3, .int x3), (4, .int x4), (5, .int x5)]) hx hb dX11_shift_12 hl (by decide) rfl (fun ls hl => ?_)
      refine lv_aloadN hx hb dX11_shift_14 (lv_at hl 1 rfl) ?_
      refine lv_ifnullN (tgt := 24) hx hb dX11_shift_16 (by decide) ?_
      refine lv_iconst (v := (-1 : Int32)) hx hb dX11_shift_24 (by decide) ?_
      exact W.iret (v := (-1 : Int32)) hx hb hr (fun t ht2 hW => ⟨⟨(-1 : Int32), pl_elements, rfl, Option.some.inj h, by rw [ht2]; exact hP, hD⟩, hS.F ht2⟩) hS.2.2 dX11_shift_25 hlocks
    · have h := zk_f c_26 h
      refine W.eq (g2 := F0 m 12 ls [.null]) (by rw [if_neg c_26]; rfl) ?_
      refine lv_astoreN (lv' := [(7, .null), (6, .null), (0, .ref (ad 0)), (1, .int x1), (2, .int x2), (3, .int x3), (4, .int x4), (5, .int x5)]) hx hb dX11_shift_12 hl (by decide) rfl (fun ls hl => ?_)
      refine lv_aloadN hx hb dX11_shift_14 (lv_at hl 1 rfl) ?_
      refine lv_ifnullN (tgt := 24) hx hb dX11_shift_16 (by decide) ?_
      refine lv_iconst (v := (-1 : Int32)) hx hb dX11_shift_24 (by decide) ?_
      exact W.iret (v := (-1 : Int32)) hx hb hr (fun t ht2 hW => ⟨⟨(-1 : Int32), pl_elements, rfl, Option.some.inj h, by rw [ht2]; exact hP, hD⟩, hS.F ht2⟩) hS.2.2 dX11_shift_25 hlocks
set_option maxHeartbeats 4000000 in
set_option maxRecDepth 100000 in
theorem c_X11_shift (l : Launch) (D : va_G) (cs : Nat → ClassId) (ad : Nat → Nat) (h_pl : Nat) (h_pl_elements : Nat) (sz : Nat) (x1 : Int32) (x2 : Int32) (x3 : Int32) (x4 : Int32) (x5 : Int32) (root_places : Nat → Option Nat) (pl_holds : Int32) (pl_suit : Int32) (pl_size : Int32) (pl_elements : Nat → Int64) (R : Int32 × (Nat → Int64)) (h : f_X11_shift h_pl  x1 x2 x3 x4 x5 root_places pl_holds pl_suit pl_size pl_elements = some R) : Met l yX11_shift (z_X11_shift) rm_X11_shift (va_Pc [.ref (ad 0), .int x1, .int x2, .int x3, .int x4, .int x5] (zPre D cs (wl_X11_shift ad cs h_pl h_pl_elements root_places pl_holds pl_suit pl_size pl_elements) sz)) (Q_X11_shift D cs ad h_pl h_pl_elements root_places pl_holds pl_suit pl_size (va_A (wl_X11_shift ad cs h_pl h_pl_elements root_places pl_holds pl_suit pl_size pl_elements) sz) R) 0 0 (va_A (wl_X11_shift ad cs h_pl h_pl_elements root_places pl_holds pl_suit pl_size pl_elements) sz) := by
  refine Met.ofW (cc := cX11_shift) (maxL := 8) (ret := (some .int)) (by decide) rfl ?_
  intro p e s m args below meth c s₁ B hml hv
  obtain ⟨rfl, hsz, hP, hK, hD0⟩ := hv
  subst hsz
  have hD := hD0.self (sz := s.heap.size)
  have C0 : zC p s m _ meth c cX11_shift 8 (some .int) RX11 zW := ⟨B.exec, B.bytes, B.returns, hml, findClass_of_methodNamed B.named, fun w hw => atoms_spec (ws := z_X11_shift) B.pre w (List.mem_cons_of_mem _ hw), B.notSynchronized⟩
  have hA : ∀ q : Nat, s.heap.size ≤ q → va_A (wl_X11_shift ad cs h_pl h_pl_elements root_places pl_holds pl_suit pl_size pl_elements) s.heap.size q := fun q h => Or.inr h
  have hl := lv_entry ([.ref (ad 0), .int x1, .int x2, .int x3, .int x4, .int x5]) (n := 8) (Nat.le_of_ble_eq_true rfl)
  rw [lg_entry_eq]
  generalize (lg_sl ([.ref (ad 0), .int x1, .int x2, .int x3, .int x4, .int x5]) ++ List.replicate (8 - (lg_sl ([.ref (ad 0), .int x1, .int x2, .int x3, .int x4, .int x5])).length) Slot.unset).toArray = ls at hl ⊢
  exact L_X11_shift_0 C0 hK hA   x1 x2 x3 x4 x5 pl_elements h s.heap [] ls hP hD va_S.rf hl
abbrev wl_X11_shiftB (ad : Nat → Nat) (cs : Nat → ClassId) (h_pl : Nat) (h_pl_elements : Nat) (h_pm : Nat) (h_pm_elements : Nat) (root_places : Nat → Option Nat) (pl_holds : Int32) (pl_suit : Int32) (pl_size : Int32) (pl_elements : Nat → Int64) (pm_holds : Int32) (pm_suit : Int32) (pm_size : Int32) (pm_elements : Nat → Int64) : va_W := [((ad 0), .inr (11, [.ref (ad 4), .ref (ad 15), .ref (ad 23), .ref (ad 25), .ref (ad 26), .ref (ad 28), .ref (ad 34), .ref (ad 39), .ref (ad 1), .ref (ad 2), .ref (ad 3)])), ((ad 1), .inl (cs 7, 6, .inr (.inr (.inr (.inr root_places))))), (h_pl, .inr (6, [.int pl_holds, .int pl_suit, .int pl_size, .ref h_pl_elements])), (h_pl_elements, .inl (cs 1, 60, .inr (.inl pl_elements))), (h_pm, .inr (6, [.int pm_holds, .int pm_suit, .int pm_size, .ref h_pm_elements])), (h_pm_elements, .inl (cs 1, 60, .inr (.inl pm_elements)))]
def Q_X11_shiftB (D : va_G) (cs : Nat → ClassId) (ad : Nat → Nat) (h_pl : Nat) (h_pl_elements : Nat) (h_pm : Nat) (h_pm_elements : Nat) (root_places : Nat → Option Nat) (pl_holds : Int32) (pl_suit : Int32) (pl_size : Int32) (pl_elements : Nat → Int64) (pm_holds : Int32) (pm_suit : Int32) (pm_size : Int32) (A : Nat → Prop) (R : Int32 × (Nat → Int64)) : Array Value → State → Outcome → State → Prop :=
  va_Qi (fun (r : Int32) (u : (Nat → Int64)) => (r, u) = R) (fun (u : (Nat → Int64)) (t : State) => va_P D classes (wl_X11_shiftB ad cs h_pl h_pl_elements h_pm h_pm_elements root_places pl_holds pl_suit pl_size pl_elements pm_holds pm_suit pm_size u) t.heap ∧ va_D A (wl_X11_shiftB ad cs h_pl h_pl_elements h_pm h_pm_elements root_places pl_holds pl_suit pl_size pl_elements pm_holds pm_suit pm_size u)) A
abbrev rm_X11_shiftB : Room := { frames := 1, cells := 0, slots := 0, locals := 40 }
def B_X11_shiftB_0 (h_pl : Nat) (h_pm : Nat)   (root_places : Nat → Option Nat) (pl_holds : Int32) (pl_suit : Int32) (pl_size : Int32) (pl_elements : Nat → Int64) (pm_holds : Int32) (pm_suit : Int32) (pm_size : Int32) (x1 : Int32) (x2 : Int32) (x3 : Int32) (x4 : Int32) (x5 : Int32) (pm_elements : Nat → Int64) : Option (Int32 × (Nat → Int64)) :=
  (zk_b2 (f_X11_placeAt h_pl x1 root_places pl_holds pl_suit pl_size) (fun r_1 u_2 => (if r_1 = true then (zk_b2 (f_X11_placeAt h_pm x3 root_places pm_holds pm_suit pm_size) (fun r_5 u_6 => (if r_5 = true then (if pl_holds = (-1 : Int32) then (some ((-11 : Int32), pm_elements)) else (if pm_holds = (-1 : Int32) then (some ((-11 : Int32), pm_elements)) else (if pl_holds = (5 : Int32) then (some ((-12 : Int32), pm_elements)) else (if pl_holds = pm_holds then (zk_b2 (f_X6_hasRange x2 x5 pl_holds pl_suit pl_size) (fun r_13 u_14 => (if r_13 = 0 then (some ((-13 : Int32), pm_elements)) else (zk_b2 (f_X6_hasRange x4 x5 pm_holds pm_suit pm_size) (fun r_17 u_18 => (if r_17 = 0 then (some ((-13 : Int32), pm_elements)) else (if (x2 < 0 ∨ x4 < 0 ∨ x5 < 0 ∨ 60 < x2.toNatClampNeg + x5.toNatClampNeg ∨ 60 < x4.toNatClampNeg + x5.toNatClampNeg) then none else (zk_let (va_cpy pl_elements pm_elements x2.toNatClampNeg x4.toNatClampNeg x5.toNatClampNeg) (fun f_22 => (some (x5, f_22))))))))))) else (some ((-12 : Int32), pm_elements)))))) else (some ((-1 : Int32), pm_elements))))) else (zk_b2 (f_X11_placeAt h_pm x3 root_places pm_holds pm_suit pm_size) (fun r_23 u_24 => (if r_23 = true then (some ((-1 : Int32), pm_elements)) else (some ((-1 : Int32), pm_elements))))))))
def f_X11_shiftB (h_pl : Nat) (h_pm : Nat)  (x1 : Int32) (x2 : Int32) (x3 : Int32) (x4 : Int32) (x5 : Int32) (root_places : Nat → Option Nat) (pl_holds : Int32) (pl_suit : Int32) (pl_size : Int32) (pl_elements : Nat → Int64) (pm_holds : Int32) (pm_suit : Int32) (pm_size : Int32) (pm_elements : Nat → Int64) : Option (Int32 × (Nat → Int64)) := B_X11_shiftB_0 h_pl h_pm  root_places pl_holds pl_suit pl_size pl_elements pm_holds pm_suit pm_size x1 x2 x3 x4 x5 pm_elements
set_option maxHeartbeats 4000000 in
set_option maxRecDepth 100000 in
theorem L_X11_shiftB_0 {p : Program} {l : Launch} {e : Env} {s : State} {m : MethodId} {args : Array Value} {below : List Frame} {meth : Method} {c : Code} {A : Nat → Prop} {D : va_G} {cs : Nat → ClassId} {ad : Nat → Nat} {h_pl : Nat} {h_pl_elements : Nat} {h_pm : Nat} {h_pm_elements : Nat} {root_places : Nat → Option Nat} {pl_holds : Int32} {pl_suit : Int32} {pl_size : Int32} {pl_elements : Nat → Int64} {pm_holds : Int32} {pm_suit : Int32} {pm_size : Int32} {R : Int32 × (Nat → Int64)} (C0 : zC p s m args meth c cX11_shift 8 (some .int) RX11 zW) (hK : va_K D classes (zT cs) s) (hA : ∀ q : Nat, s.heap.size ≤ q → A q) (x1 : Int32) (x2 : Int32) (x3 : Int32) (x4 : Int32) (x5 : Int32) (pm_elements : Nat → Int64) (h : B_X11_shiftB_0 h_pl h_pm root_places pl_holds pl_suit pl_size pl_elements pm_holds pm_suit pm_size x1 x2 x3 x4 x5 pm_elements = some R) (H : Heap) (locs : List Loc) (ls : Array Slot) (hP : va_P D classes (wl_X11_shiftB ad cs h_pl h_pl_elements h_pm h_pm_elements root_places pl_holds pl_suit pl_size pl_elements pm_holds pm_suit pm_size pm_elements) H) (hD : va_D A (wl_X11_shiftB ad cs h_pl h_pl_elements h_pm h_pm_elements root_places pl_holds pl_suit pl_size pl_elements pm_holds pm_suit pm_size pm_elements)) (hS : va_S A s.heap H locs) (hl : lv_has ls 8 [(0, .ref (ad 0)), (1, .int x1), (2, .int x2), (3, .int x3), (4, .int x4), (5, .int x5)]) : W p l e rm_X11_shiftB s m args below meth c H locs 0 0 (MQ below (Q_X11_shiftB D cs ad h_pl h_pl_elements h_pm h_pm_elements root_places pl_holds pl_suit pl_size pl_elements pm_holds pm_suit pm_size A R) args s 0 0 A) (F0 m 0 ls []) := by
  obtain ⟨hx, hb, hr, hml, hown, ht, hlocks⟩ := id C0
  refine lv_aload_n hx hb dX11_shift_0 rfl (lv_at hl 0 rfl) ?_
  refine lv_iload_n hx hb dX11_shift_1 rfl (lv_at hl 1 rfl) ?_
  obtain ⟨r_1, u_2, hc_3, h⟩ := zk_o2 h
  refine zz_vq (post := (fun r u => r = (if r_1 = true then some h_pl else none) ∧ u = (u_2))) (w1 := fun u => (wl_X11_placeAt ad cs h_pl h_pl_elements root_places pl_holds pl_suit pl_size)) (As := [.int x1]) (rest := []) (c_X11_placeAt l D cs ad h_pl h_pl_elements H.size x1 root_places pl_holds pl_suit pl_size (r_1, u_2) hc_3) ⟨hx, hb, hml, hown, ht⟩ (cwV 1 ht g_X11_111 rfl rfl rfl ⟨rfl, hd_X11_placeAt⟩ ⟨Nat.le_of_ble_eq_true rfl, Nat.le_of_ble_eq_true rfl⟩) (va_recv hK hP (ci := 11) (q0 := 0) rfl rfl) hP hD hS hK hA [0, 1, 2] rfl rfl [(ad 0), (ad 1), h_pl] rfl (fun _ => rfl) rfl hl.1 (Nat.le_of_ble_eq_true rfl) dX11_shift_2 ⟨Nat.zero_le _, Nat.zero_le _⟩ (fun r u H locs hq hP hS => ?_)
  obtain ⟨hq1, hq2⟩ := hq; cases hq2; subst hq1
  have hP : va_P D classes (wl_X11_shiftB ad cs h_pl h_pl_elements h_pm h_pm_elements root_places pl_holds pl_suit pl_size pl_elements pm_holds pm_suit pm_size pm_elements) H := hP
  have hD : va_D A (wl_X11_shiftB ad cs h_pl h_pl_elements h_pm h_pm_elements root_places pl_holds pl_suit pl_size pl_elements pm_holds pm_suit pm_size pm_elements) := zDk hD [(ad 0), (ad 1), h_pl, h_pl_elements, h_pm, h_pm_elements] rfl rfl
  by_cases c_4 : r_1 = true
  · have h := zk_t c_4 h
    refine W.eq (g2 := F0 m 5 ls [.ref h_pl]) (by rw [if_pos c_4]; rfl) ?_
    refine lv_astore (lv' := [(6, .ref h_pl), (0, .ref (ad 0)), (1, .int x1), (2, .int x2), (3, .int x3), (4, .int x4), (5, .int x5)]) hx hb dX11_shift_5 hl (by decide) rfl (fun ls hl => ?_)
    refine lv_aload_n hx hb dX11_shift_7 rfl (lv_at hl 1 rfl) ?_
    refine lv_iload_n hx hb dX11_shift_8 rfl (lv_at hl 4 rfl) ?_
    obtain ⟨r_5, u_6, hc_7, h⟩ := zk_o2 h
    refine zz_vq (post := (fun r u => r = (if r_5 = true then some h_pm else none) ∧ u = (u_6))) (w1 := fun u => (wl_X11_placeAt ad cs h_pm h_pm_elements root_places pm_holds pm_suit pm_size)) (As := [.int x3]) (rest := []) (c_X11_placeAt l D cs ad h_pm h_pm_elements H.size x3 root_places pm_holds pm_suit pm_size (r_5, u_6) hc_7) ⟨hx, hb, hml, hown, ht⟩ (cwV 1 ht g_X11_111 rfl rfl rfl ⟨rfl, hd_X11_placeAt⟩ ⟨Nat.le_of_ble_eq_true rfl, Nat.le_of_ble_eq_true rfl⟩) (va_recv hK hP (ci := 11) (q0 := 0) rfl rfl) hP hD hS hK hA [0, 1, 4] rfl rfl [(ad 0), (ad 1), h_pm] rfl (fun _ => rfl) rfl hl.1 (Nat.le_of_ble_eq_true rfl) dX11_shift_9 ⟨Nat.zero_le _, Nat.zero_le _⟩ (fun r u H locs hq hP hS => ?_)
    obtain ⟨hq1, hq2⟩ := hq; cases hq2; subst hq1
    have hP : va_P D classes (wl_X11_shiftB ad cs h_pl h_pl_elements h_pm h_pm_elements root_places pl_holds pl_suit pl_size pl_elements pm_holds pm_suit pm_size pm_elements) H := hP
    have hD : va_D A (wl_X11_shiftB ad cs h_pl h_pl_elements h_pm h_pm_elements root_places pl_holds pl_suit pl_size pl_elements pm_holds pm_suit pm_size pm_elements) := zDk hD [(ad 0), (ad 1), h_pl, h_pl_elements, h_pm, h_pm_elements] rfl rfl
    by_cases c_8 : r_5 = true
    · have h := zk_t c_8 h
      refine W.eq (g2 := F0 m 12 ls [.ref h_pm]) (by rw [if_pos c_8]; rfl) ?_
      refine lv_astore (lv' := [(7, .ref h_pm), (6, .ref h_pl), (0, .ref (ad 0)), (1, .int x1), (2, .int x2), (3, .int x3), (4, .int x4), (5, .int x5)]) hx hb dX11_shift_12 hl (by decide) rfl (fun ls hl => ?_)
      refine lv_aload hx hb dX11_shift_14 (lv_at hl 1 rfl) ?_
      refine lv_ifnull hx hb dX11_shift_16 ?_
      refine lv_aload hx hb dX11_shift_19 (lv_at hl 0 rfl) ?_
      refine lv_ifnonnull (tgt := 26) hx hb dX11_shift_21 (by decide) ?_
      refine lv_aload hx hb dX11_shift_26 (lv_at hl 1 rfl) ?_
      refine va_get (D := D) (ci := 6) (v := .int pl_holds) (C := RX6) (T := TX6) (N := 4) hx hb ht iX6 hown hK hP 2 rfl rfl 0 (by decide) (ht _ kw_681) (fun _ h9 => h9) rfl dX11_shift_28 ?_
      refine lv_iconst (v := (-1 : Int32)) hx hb dX11_shift_31 (by decide) ?_
      refine lv_icmp_eq (tgt := 44) hx hb dX11_shift_32 (by decide) (fun c_9 => ?_) (fun c_9 => ?_)
      · have h := zk_t c_9 h
        refine lv_bipush (v := (-11 : Int32)) hx hb dX11_shift_44 (by decide) ?_
        exact W.iret (v := (-11 : Int32)) hx hb hr (fun t ht2 hW => ⟨⟨(-11 : Int32), pm_elements, rfl, Option.some.inj h, by rw [ht2]; exact hP, hD⟩, hS.F ht2⟩) hS.2.2 dX11_shift_46 hlocks
      · have h := zk_f c_9 h
        refine lv_aload hx hb dX11_shift_35 (lv_at hl 0 rfl) ?_
        refine va_get (D := D) (ci := 6) (v := .int pm_holds) (C := RX6) (T := TX6) (N := 4) hx hb ht iX6 hown hK hP 4 rfl rfl 0 (by decide) (ht _ kw_681) (fun _ h9 => h9) rfl dX11_shift_37 ?_
        refine lv_iconst (v := (-1 : Int32)) hx hb dX11_shift_40 (by decide) ?_
        refine lv_icmp_ne (tgt := 47) hx hb dX11_shift_41 (by decide) (fun c_10 => ?_) (fun c_10 => ?_)
        · have h := zk_f c_10 h
          refine lv_aload hx hb dX11_shift_47 (lv_at hl 1 rfl) ?_
          refine va_get (D := D) (ci := 6) (v := .int pl_holds) (C := RX6) (T := TX6) (N := 4) hx hb ht iX6 hown hK hP 2 rfl rfl 0 (by decide) (ht _ kw_681) (fun _ h9 => h9) rfl dX11_shift_49 ?_
          refine lv_iconst (v := (5 : Int32)) hx hb dX11_shift_52 (by decide) ?_
          refine lv_icmp_eq (tgt := 69) hx hb dX11_shift_53 (by decide) (fun c_11 => ?_) (fun c_11 => ?_)
          · have h := zk_t c_11 h
            refine lv_bipush (v := (-12 : Int32)) hx hb dX11_shift_69 (by decide) ?_
            exact W.iret (v := (-12 : Int32)) hx hb hr (fun t ht2 hW => ⟨⟨(-12 : Int32), pm_elements, rfl, Option.some.inj h, by rw [ht2]; exact hP, hD⟩, hS.F ht2⟩) hS.2.2 dX11_shift_71 hlocks
          · have h := zk_f c_11 h
            refine lv_aload hx hb dX11_shift_56 (lv_at hl 1 rfl) ?_
            refine va_get (D := D) (ci := 6) (v := .int pl_holds) (C := RX6) (T := TX6) (N := 4) hx hb ht iX6 hown hK hP 2 rfl rfl 0 (by decide) (ht _ kw_681) (fun _ h9 => h9) rfl dX11_shift_58 ?_
            refine lv_aload hx hb dX11_shift_61 (lv_at hl 0 rfl) ?_
            refine va_get (D := D) (ci := 6) (v := .int pm_holds) (C := RX6) (T := TX6) (N := 4) hx hb ht iX6 hown hK hP 4 rfl rfl 0 (by decide) (ht _ kw_681) (fun _ h9 => h9) rfl dX11_shift_63 ?_
            refine lv_icmp_eq (tgt := 72) hx hb dX11_shift_66 (by decide) (fun c_12 => ?_) (fun c_12 => ?_)
            · have h := zk_t c_12 h
              refine lv_aload hx hb dX11_shift_72 (lv_at hl 1 rfl) ?_
              refine lv_iload_n hx hb dX11_shift_74 rfl (lv_at hl 4 rfl) ?_
              refine lv_iload hx hb dX11_shift_75 (lv_at hl 7 rfl) ?_
              obtain ⟨r_13, u_14, hc_15, h⟩ := zk_o2 h
              refine zz_vi (post := (fun r u => (r, u) = (r_13, u_14))) (w1 := fun u => (wl_X6_hasRange ad cs h_pl h_pl_elements pl_holds pl_suit pl_size)) (As := [.int x2, .int x5]) (rest := []) (c_X6_hasRange l D cs ad h_pl h_pl_elements H.size x2 x5 pl_holds pl_suit pl_size (r_13, u_14) hc_15) ⟨hx, hb, hml, hown, ht⟩ (cwV 2 ht g_X11_375 rfl rfl rfl ⟨rfl, hd_X6_hasRange⟩ ⟨Nat.le_of_ble_eq_true rfl, Nat.le_of_ble_eq_true rfl⟩) (va_recv hK hP (ci := 6) (q0 := 2) rfl rfl) hP hD hS hK hA [2] rfl rfl [h_pl] rfl (fun _ => rfl) rfl hl.1 (Nat.le_of_ble_eq_true rfl) dX11_shift_77 ⟨Nat.zero_le _, Nat.zero_le _⟩ (fun r u H locs hq hP hS => ?_)
              cases hq
              have hP : va_P D classes (wl_X11_shiftB ad cs h_pl h_pl_elements h_pm h_pm_elements root_places pl_holds pl_suit pl_size pl_elements pm_holds pm_suit pm_size pm_elements) H := hP
              have hD : va_D A (wl_X11_shiftB ad cs h_pl h_pl_elements h_pm h_pm_elements root_places pl_holds pl_suit pl_size pl_elements pm_holds pm_suit pm_size pm_elements) := zDk hD [(ad 0), (ad 1), h_pl, h_pl_elements, h_pm, h_pm_elements] rfl rfl
              refine lv_if_eq (tgt := 95) hx hb dX11_shift_80 (by decide) (fun c_16 => ?_) (fun c_16 => ?_)
              · have h := zk_t c_16 h
                refine lv_bipush (v := (-13 : Int32)) hx hb dX11_shift_95 (by decide) ?_
                exact W.iret (v := (-13 : Int32)) hx hb hr (fun t ht2 hW => ⟨⟨(-13 : Int32), pm_elements, rfl, Option.some.inj h, by rw [ht2]; exact hP, hD⟩, hS.F ht2⟩) hS.2.2 dX11_shift_97 hlocks
              · have h := zk_f c_16 h
                refine lv_aload hx hb dX11_shift_83 (lv_at hl 0 rfl) ?_
                refine lv_iload hx hb dX11_shift_85 (lv_at hl 6 rfl) ?_
                refine lv_iload hx hb dX11_shift_87 (lv_at hl 7 rfl) ?_
                obtain ⟨r_17, u_18, hc_19, h⟩ := zk_o2 h
                refine zz_vi (post := (fun r u => (r, u) = (r_17, u_18))) (w1 := fun u => (wl_X6_hasRange ad cs h_pm h_pm_elements pm_holds pm_suit pm_size)) (As := [.int x4, .int x5]) (rest := []) (c_X6_hasRange l D cs ad h_pm h_pm_elements H.size x4 x5 pm_holds pm_suit pm_size (r_17, u_18) hc_19) ⟨hx, hb, hml, hown, ht⟩ (cwV 2 ht g_X11_375 rfl rfl rfl ⟨rfl, hd_X6_hasRange⟩ ⟨Nat.le_of_ble_eq_true rfl, Nat.le_of_ble_eq_true rfl⟩) (va_recv hK hP (ci := 6) (q0 := 4) rfl rfl) hP hD hS hK hA [4] rfl rfl [h_pm] rfl (fun _ => rfl) rfl hl.1 (Nat.le_of_ble_eq_true rfl) dX11_shift_89 ⟨Nat.zero_le _, Nat.zero_le _⟩ (fun r u H locs hq hP hS => ?_)
                cases hq
                have hP : va_P D classes (wl_X11_shiftB ad cs h_pl h_pl_elements h_pm h_pm_elements root_places pl_holds pl_suit pl_size pl_elements pm_holds pm_suit pm_size pm_elements) H := hP
                have hD : va_D A (wl_X11_shiftB ad cs h_pl h_pl_elements h_pm h_pm_elements root_places pl_holds pl_suit pl_size pl_elements pm_holds pm_suit pm_size pm_elements) := zDk hD [(ad 0), (ad 1), h_pl, h_pl_elements, h_pm, h_pm_elements] rfl rfl
                refine lv_if_ne (tgt := 98) hx hb dX11_shift_92 (by decide) (fun c_20 => ?_) (fun c_20 => ?_)
                · have h := zk_f c_20 h
                  refine lv_aload hx hb dX11_shift_98 (lv_at hl 1 rfl) ?_
                  refine va_get (D := D) (ci := 6) (v := .ref h_pl_elements) (C := RX6) (T := TX6) (N := 4) hx hb ht iX6 hown hK hP 2 rfl rfl 3 (by decide) (ht _ kw_686) (fun _ h9 => h9) rfl dX11_shift_100 ?_
                  refine lv_iload_n hx hb dX11_shift_103 rfl (lv_at hl 4 rfl) ?_
                  refine lv_aload hx hb dX11_shift_104 (lv_at hl 0 rfl) ?_
                  refine va_get (D := D) (ci := 6) (v := .ref h_pm_elements) (C := RX6) (T := TX6) (N := 4) hx hb ht iX6 hown hK hP 4 rfl rfl 3 (by decide) (ht _ kw_686) (fun _ h9 => h9) rfl dX11_shift_106 ?_
                  refine lv_iload hx hb dX11_shift_109 (lv_at hl 6 rfl) ?_
                  refine lv_iload hx hb dX11_shift_111 (lv_at hl 7 rfl) ?_
                  obtain ⟨g_21, h⟩ := zk_gd h
                  obtain ⟨f_22, ef_22, h⟩ := zk_lt h
                  refine va_copyl (ty := .long) hx hb (by rw [hml]; exact hl.1.symm) hown (ht _ kw_1277) (ht _ kw_665) (ht _ kw_664) (ht _ kw_93) hK hP hD hS 3 5 1 1 rfl rfl rfl rfl rfl (fun z => g_21 (Or.inl z)) (fun z => g_21 (Or.inr (Or.inl z))) (fun z => g_21 (Or.inr (Or.inr (Or.inl z)))) (Nat.not_lt.mp fun z => g_21 (Or.inr (Or.inr (Or.inr (Or.inl z))))) (Nat.not_lt.mp fun z => g_21 (Or.inr (Or.inr (Or.inr (Or.inr z))))) (fun _ _ => rfl) (Nat.le_of_ble_eq_true rfl) (Nat.le_of_ble_eq_true rfl) dX11_shift_113 (fun H locs hP hD hS => ?_)
                  have hP : va_P D classes (wl_X11_shiftB ad cs h_pl h_pl_elements h_pm h_pm_elements root_places pl_holds pl_suit pl_size pl_elements pm_holds pm_suit pm_size f_22) H := by rw [ef_22]; exact hP
                  have hD : va_D A (wl_X11_shiftB ad cs h_pl h_pl_elements h_pm h_pm_elements root_places pl_holds pl_suit pl_size pl_elements pm_holds pm_suit pm_size f_22) := by rw [ef_22]; exact hD
                  refine lv_iload hx hb dX11_shift_116 (lv_at hl 7 rfl) ?_
                  exact W.iret (v := x5) hx hb hr (fun t ht2 hW => ⟨⟨x5, f_22, rfl, Option.some.inj h, by rw [ht2]; exact hP, hD⟩, hS.F ht2⟩) hS.2.2 dX11_shift_118 hlocks
                · have h := zk_t c_20 h
                  refine lv_bipush (v := (-13 : Int32)) hx hb dX11_shift_95 (by decide) ?_
                  exact W.iret (v := (-13 : Int32)) hx hb hr (fun t ht2 hW => ⟨⟨(-13 : Int32), pm_elements, rfl, Option.some.inj h, by rw [ht2]; exact hP, hD⟩, hS.F ht2⟩) hS.2.2 dX11_shift_97 hlocks
            · have h := zk_f c_12 h
              refine lv_bipush (v := (-12 : Int32)) hx hb dX11_shift_69 (by decide) ?_
              exact W.iret (v := (-12 : Int32)) hx hb hr (fun t ht2 hW => ⟨⟨(-12 : Int32), pm_elements, rfl, Option.some.inj h, by rw [ht2]; exact hP, hD⟩, hS.F ht2⟩) hS.2.2 dX11_shift_71 hlocks
        · have h := zk_t c_10 h
          refine lv_bipush (v := (-11 : Int32)) hx hb dX11_shift_44 (by decide) ?_
          exact W.iret (v := (-11 : Int32)) hx hb hr (fun t ht2 hW => ⟨⟨(-11 : Int32), pm_elements, rfl, Option.some.inj h, by rw [ht2]; exact hP, hD⟩, hS.F ht2⟩) hS.2.2 dX11_shift_46 hlocks
    · have h := zk_f c_8 h
      refine W.eq (g2 := F0 m 12 ls [.null]) (by rw [if_neg c_8]; rfl) ?_
      refine lv_astoreN (lv' := [(7, .null), (6, .ref h_pl), (0, .ref (ad 0)), (1, .int x1), (2, .int x2), (3, .int x3), (4, .int x4), (5, .int x5)]) hx hb dX11_shift_12 hl (by decide) rfl (fun ls hl => ?_)
      refine lv_aload hx hb dX11_shift_14 (lv_at hl 1 rfl) ?_
      refine lv_ifnull hx hb dX11_shift_16 ?_
      refine lv_aloadN hx hb dX11_shift_19 (lv_at hl 0 rfl) ?_
      refine lv_ifnonnullN hx hb dX11_shift_21 ?_
      refine lv_iconst (v := (-1 : Int32)) hx hb dX11_shift_24 (by decide) ?_
      exact W.iret (v := (-1 : Int32)) hx hb hr (fun t ht2 hW => ⟨⟨(-1 : Int32), pm_elements, rfl, Option.some.inj h, by rw [ht2]; exact hP, hD⟩, hS.F ht2⟩) hS.2.2 dX11_shift_25 hlocks
  · have h := zk_f c_4 h
    refine W.eq (g2 := F0 m 5 ls [.null]) (by rw [if_neg c_4]; rfl) ?_
    refine lv_astoreN (lv' := [(6, .null), (0, .ref (ad 0)), (1, .int x1), (2, .int x2), (3, .int x3), (4, .int x4), (5, .int x5)]) hx hb dX11_shift_5 hl (by decide) rfl (fun ls hl => ?_)
    refine lv_aload_n hx hb dX11_shift_7 rfl (lv_at hl 1 rfl) ?_
    refine lv_iload_n hx hb dX11_shift_8 rfl (lv_at hl 4 rfl) ?_
    obtain ⟨r_23, u_24, hc_25, h⟩ := zk_o2 h
    refine zz_vq (post := (fun r u => r = (if r_23 = true then some h_pm else none) ∧ u = (u_24))) (w1 := fun u => (wl_X11_placeAt ad cs h_pm h_pm_elements root_places pm_holds pm_suit pm_size)) (As := [.int x3]) (rest := []) (c_X11_placeAt l D cs ad h_pm h_pm_elements H.size x3 root_places pm_holds pm_suit pm_size (r_23, u_24) hc_25) ⟨hx, hb, hml, hown, ht⟩ (cwV 1 ht g_X11_111 rfl rfl rfl ⟨rfl, hd_X11_placeAt⟩ ⟨Nat.le_of_ble_eq_true rfl, Nat.le_of_ble_eq_true rfl⟩) (va_recv hK hP (ci := 11) (q0 := 0) rfl rfl) hP hD hS hK hA [0, 1, 4] rfl rfl [(ad 0), (ad 1), h_pm] rfl (fun _ => rfl) rfl hl.1 (Nat.le_of_ble_eq_true rfl) dX11_shift_9 ⟨Nat.zero_le _, Nat.zero_le _⟩ (fun r u H locs hq hP hS => ?_)
    obtain ⟨hq1, hq2⟩ := hq; cases hq2; subst hq1
    have hP : va_P D classes (wl_X11_shiftB ad cs h_pl h_pl_elements h_pm h_pm_elements root_places pl_holds pl_suit pl_size pl_elements pm_holds pm_suit pm_size pm_elements) H := hP
    have hD : va_D A (wl_X11_shiftB ad cs h_pl h_pl_elements h_pm h_pm_elements root_places pl_holds pl_suit pl_size pl_elements pm_holds pm_suit pm_size pm_elements) := zDk hD [(ad 0), (ad 1), h_pl, h_pl_elements, h_pm, h_pm_elements] rfl rfl
    by_cases c_26 : r_23 = true
    · have h := zk_t c_26 h
      refine W.eq (g2 := F0 m 12 ls [.ref h_pm]) (by rw [if_pos c_26]; rfl) ?_
      refine lv_astore (lv' := [(7, .ref h_pm), (6, .null), (0, .ref (ad 0)), (1, .int x1), (2, .int x2), (3, .int x3), (4, .int x4), (5, .int x5)]) hx hb dX11_shift_12 hl (by decide) rfl (fun ls hl => ?_)
      refine lv_aloadN hx hb dX11_shift_14 (lv_at hl 1 rfl) ?_
      refine lv_ifnullN (tgt := 24) hx hb dX11_shift_16 (by decide) ?_
      refine lv_iconst (v := (-1 : Int32)) hx hb dX11_shift_24 (by decide) ?_
      exact W.iret (v := (-1 : Int32)) hx hb hr (fun t ht2 hW => ⟨⟨(-1 : Int32), pm_elements, rfl, Option.some.inj h, by rw [ht2]; exact hP, hD⟩, hS.F ht2⟩) hS.2.2 dX11_shift_25 hlocks
    · have h := zk_f c_26 h
      refine W.eq (g2 := F0 m 12 ls [.null]) (by rw [if_neg c_26]; rfl) ?_
      refine lv_astoreN (lv' := [(7, .null), (6, .null), (0, .ref (ad 0)), (1, .int x1), (2, .int x2), (3, .int x3), (4, .int x4), (5, .int x5)]) hx hb dX11_shift_12 hl (by decide) rfl (fun ls hl => ?_)
      refine lv_aloadN hx hb dX11_shift_14 (lv_at hl 1 rfl) ?_
      refine lv_ifnullN (tgt := 24) hx hb dX11_shift_16 (by decide) ?_
      refine lv_iconst (v := (-1 : Int32)) hx hb dX11_shift_24 (by decide) ?_
      exact W.iret (v := (-1 : Int32)) hx hb hr (fun t ht2 hW => ⟨⟨(-1 : Int32), pm_elements, rfl, Option.some.inj h, by rw [ht2]; exact hP, hD⟩, hS.F ht2⟩) hS.2.2 dX11_shift_25 hlocks
set_option maxHeartbeats 4000000 in
set_option maxRecDepth 100000 in
theorem c_X11_shiftB (l : Launch) (D : va_G) (cs : Nat → ClassId) (ad : Nat → Nat) (h_pl : Nat) (h_pl_elements : Nat) (h_pm : Nat) (h_pm_elements : Nat) (sz : Nat) (x1 : Int32) (x2 : Int32) (x3 : Int32) (x4 : Int32) (x5 : Int32) (root_places : Nat → Option Nat) (pl_holds : Int32) (pl_suit : Int32) (pl_size : Int32) (pl_elements : Nat → Int64) (pm_holds : Int32) (pm_suit : Int32) (pm_size : Int32) (pm_elements : Nat → Int64) (R : Int32 × (Nat → Int64)) (h : f_X11_shiftB h_pl h_pm  x1 x2 x3 x4 x5 root_places pl_holds pl_suit pl_size pl_elements pm_holds pm_suit pm_size pm_elements = some R) : Met l yX11_shift (z_X11_shift) rm_X11_shiftB (va_Pc [.ref (ad 0), .int x1, .int x2, .int x3, .int x4, .int x5] (zPre D cs (wl_X11_shiftB ad cs h_pl h_pl_elements h_pm h_pm_elements root_places pl_holds pl_suit pl_size pl_elements pm_holds pm_suit pm_size pm_elements) sz)) (Q_X11_shiftB D cs ad h_pl h_pl_elements h_pm h_pm_elements root_places pl_holds pl_suit pl_size pl_elements pm_holds pm_suit pm_size (va_A (wl_X11_shiftB ad cs h_pl h_pl_elements h_pm h_pm_elements root_places pl_holds pl_suit pl_size pl_elements pm_holds pm_suit pm_size pm_elements) sz) R) 0 0 (va_A (wl_X11_shiftB ad cs h_pl h_pl_elements h_pm h_pm_elements root_places pl_holds pl_suit pl_size pl_elements pm_holds pm_suit pm_size pm_elements) sz) := by
  refine Met.ofW (cc := cX11_shift) (maxL := 8) (ret := (some .int)) (by decide) rfl ?_
  intro p e s m args below meth c s₁ B hml hv
  obtain ⟨rfl, hsz, hP, hK, hD0⟩ := hv
  subst hsz
  have hD := hD0.self (sz := s.heap.size)
  have C0 : zC p s m _ meth c cX11_shift 8 (some .int) RX11 zW := ⟨B.exec, B.bytes, B.returns, hml, findClass_of_methodNamed B.named, fun w hw => atoms_spec (ws := z_X11_shift) B.pre w (List.mem_cons_of_mem _ hw), B.notSynchronized⟩
  have hA : ∀ q : Nat, s.heap.size ≤ q → va_A (wl_X11_shiftB ad cs h_pl h_pl_elements h_pm h_pm_elements root_places pl_holds pl_suit pl_size pl_elements pm_holds pm_suit pm_size pm_elements) s.heap.size q := fun q h => Or.inr h
  have hl := lv_entry ([.ref (ad 0), .int x1, .int x2, .int x3, .int x4, .int x5]) (n := 8) (Nat.le_of_ble_eq_true rfl)
  rw [lg_entry_eq]
  generalize (lg_sl ([.ref (ad 0), .int x1, .int x2, .int x3, .int x4, .int x5]) ++ List.replicate (8 - (lg_sl ([.ref (ad 0), .int x1, .int x2, .int x3, .int x4, .int x5])).length) Slot.unset).toArray = ls at hl ⊢
  exact L_X11_shiftB_0 C0 hK hA   x1 x2 x3 x4 x5 pm_elements h s.heap [] ls hP hD va_S.rf hl
