theorem kw_920 : Cond.instanceMethod yX7_hasFound ∈ zW := zwC (i := 126) zc_4 rfl rfl
theorem kw_921 : Cond.selects RX7 yX7_hasFound yX7_hasFound ∈ zW := zwC (i := 127) zc_4 rfl rfl
theorem kw_922 : Cond.code yX7_hasFound cX7_hasFound 2 (some .boolean) ∈ zW := zwC (i := 128) zc_4 rfl rfl
theorem kw_1043 : Cond.methodLink RX3 184 yX7_hasFound ∈ zW := zwC (i := 9) zc_5 rfl rfl
theorem kw_1044 : Cond.methodLink RX3 188 yX3_isSettling ∈ zW := zwC (i := 10) zc_5 rfl rfl
theorem kw_1045 : Cond.instanceMethod yX3_isSettling ∈ zW := zwC (i := 11) zc_5 rfl rfl
theorem kw_1046 : Cond.selects RX3 yX3_isSettling yX3_isSettling ∈ zW := zwC (i := 12) zc_5 rfl rfl
theorem kw_1047 : Cond.code yX3_isSettling cX3_isSettling 5 (some .boolean) ∈ zW := zwC (i := 13) zc_5 rfl rfl
theorem kw_1048 : Cond.methodLink RX3 192 yX7_wayOf ∈ zW := zwC (i := 14) zc_5 rfl rfl
theorem zh_cX3_findPoint_0 : zck [3, 54, 5, 3, 54, 6, 2, 54, 7, 3, 54, 8, 21, 8, 42, 180, 0, 36, 180, 0, 166, 162] (zdu 0 cX3_findPoint.data.toList) = true := by decide +kernel
theorem dX3_findPoint_0 : decode cX3_findPoint 0 = .ok (.iconst 0, 1) := zo_3 zh_cX3_findPoint_0 0 rfl
theorem dX3_findPoint_1 : decode cX3_findPoint 1 = .ok (.istore 5, 2) := zo_54 zh_cX3_findPoint_0 1 rfl
theorem dX3_findPoint_3 : decode cX3_findPoint 3 = .ok (.iconst 0, 1) := zo_3 zh_cX3_findPoint_0 3 rfl
theorem dX3_findPoint_4 : decode cX3_findPoint 4 = .ok (.istore 6, 2) := zo_54 zh_cX3_findPoint_0 4 rfl
theorem dX3_findPoint_6 : decode cX3_findPoint 6 = .ok (.iconst (-1), 1) := zo_2 zh_cX3_findPoint_0 6 rfl
theorem dX3_findPoint_7 : decode cX3_findPoint 7 = .ok (.istore 7, 2) := zo_54 zh_cX3_findPoint_0 7 rfl
theorem dX3_findPoint_9 : decode cX3_findPoint 9 = .ok (.iconst 0, 1) := zo_3 zh_cX3_findPoint_0 9 rfl
theorem dX3_findPoint_10 : decode cX3_findPoint 10 = .ok (.istore 8, 2) := zo_54 zh_cX3_findPoint_0 10 rfl
theorem dX3_findPoint_12 : decode cX3_findPoint 12 = .ok (.iload 8, 2) := zo_21 zh_cX3_findPoint_0 12 rfl
theorem dX3_findPoint_14 : decode cX3_findPoint 14 = .ok (.aload_n 0, 1) := zo_42 zh_cX3_findPoint_0 14 rfl
theorem dX3_findPoint_15 : decode cX3_findPoint 15 = .ok (.getfield 36, 3) := zo_180 zh_cX3_findPoint_0 15 rfl
theorem dX3_findPoint_18 : decode cX3_findPoint 18 = .ok (.getfield 166, 3) := zo_180 zh_cX3_findPoint_0 18 rfl
theorem zh_cX3_findPoint_1 : zck [166, 162, 0, 90, 42, 180, 0, 36, 180, 0, 169, 21, 8, 50, 58, 9, 21, 8, 21, 4, 159, 0] (zdu 20 cX3_findPoint.data.toList) = true := by decide +kernel
theorem dX3_findPoint_21 : decode cX3_findPoint 21 = .ok (.if_icmp .ge 90, 3) := zo_p162 zh_cX3_findPoint_1 1 90 rfl rfl
theorem dX3_findPoint_24 : decode cX3_findPoint 24 = .ok (.aload_n 0, 1) := zo_42 zh_cX3_findPoint_1 4 rfl
theorem dX3_findPoint_25 : decode cX3_findPoint 25 = .ok (.getfield 36, 3) := zo_180 zh_cX3_findPoint_1 5 rfl
theorem dX3_findPoint_28 : decode cX3_findPoint 28 = .ok (.getfield 169, 3) := zo_180 zh_cX3_findPoint_1 8 rfl
theorem dX3_findPoint_31 : decode cX3_findPoint 31 = .ok (.iload 8, 2) := zo_21 zh_cX3_findPoint_1 11 rfl
theorem dX3_findPoint_33 : decode cX3_findPoint 33 = .ok (.aaload, 1) := zo_50 zh_cX3_findPoint_1 13 rfl
theorem dX3_findPoint_34 : decode cX3_findPoint 34 = .ok (.astore 9, 2) := zo_58 zh_cX3_findPoint_1 14 rfl
theorem dX3_findPoint_36 : decode cX3_findPoint 36 = .ok (.iload 8, 2) := zo_21 zh_cX3_findPoint_1 16 rfl
theorem dX3_findPoint_38 : decode cX3_findPoint 38 = .ok (.iload 4, 2) := zo_21 zh_cX3_findPoint_1 18 rfl
theorem zh_cX3_findPoint_2 : zck [159, 0, 65, 25, 9, 198, 0, 60, 25, 9, 27, 182, 0, 184, 153, 0, 51, 42, 25, 9, 27, 28] (zdu 40 cX3_findPoint.data.toList) = true := by decide +kernel
theorem dX3_findPoint_40 : decode cX3_findPoint 40 = .ok (.if_icmp .eq 65, 3) := zo_p159 zh_cX3_findPoint_2 0 65 rfl rfl
theorem dX3_findPoint_43 : decode cX3_findPoint 43 = .ok (.aload 9, 2) := zo_25 zh_cX3_findPoint_2 3 rfl
theorem dX3_findPoint_45 : decode cX3_findPoint 45 = .ok (.ifnull 60, 3) := zo_p198 zh_cX3_findPoint_2 5 60 rfl rfl
theorem dX3_findPoint_48 : decode cX3_findPoint 48 = .ok (.aload 9, 2) := zo_25 zh_cX3_findPoint_2 8 rfl
theorem dX3_findPoint_50 : decode cX3_findPoint 50 = .ok (.iload_n 1, 1) := zo_27 zh_cX3_findPoint_2 10 rfl
theorem dX3_findPoint_51 : decode cX3_findPoint 51 = .ok (.invokevirtual 184, 3) := zo_182 zh_cX3_findPoint_2 11 rfl
theorem dX3_findPoint_54 : decode cX3_findPoint 54 = .ok (.ifCond .eq 51, 3) := zo_p153 zh_cX3_findPoint_2 14 51 rfl rfl
theorem dX3_findPoint_57 : decode cX3_findPoint 57 = .ok (.aload_n 0, 1) := zo_42 zh_cX3_findPoint_2 17 rfl
theorem dX3_findPoint_58 : decode cX3_findPoint 58 = .ok (.aload 9, 2) := zo_25 zh_cX3_findPoint_2 18 rfl
theorem zh_cX3_findPoint_3 : zck [27, 28, 29, 182, 0, 188, 153, 0, 39, 21, 5, 25, 9, 27, 182, 0, 192, 128, 54, 5, 25, 9] (zdu 60 cX3_findPoint.data.toList) = true := by decide +kernel
theorem dX3_findPoint_60 : decode cX3_findPoint 60 = .ok (.iload_n 1, 1) := zo_27 zh_cX3_findPoint_3 0 rfl
theorem dX3_findPoint_61 : decode cX3_findPoint 61 = .ok (.iload_n 2, 1) := zo_28 zh_cX3_findPoint_3 1 rfl
theorem dX3_findPoint_62 : decode cX3_findPoint 62 = .ok (.iload_n 3, 1) := zo_29 zh_cX3_findPoint_3 2 rfl
theorem dX3_findPoint_63 : decode cX3_findPoint 63 = .ok (.invokevirtual 188, 3) := zo_182 zh_cX3_findPoint_3 3 rfl
theorem dX3_findPoint_66 : decode cX3_findPoint 66 = .ok (.ifCond .eq 39, 3) := zo_p153 zh_cX3_findPoint_3 6 39 rfl rfl
theorem dX3_findPoint_69 : decode cX3_findPoint 69 = .ok (.iload 5, 2) := zo_21 zh_cX3_findPoint_3 9 rfl
theorem dX3_findPoint_71 : decode cX3_findPoint 71 = .ok (.aload 9, 2) := zo_25 zh_cX3_findPoint_3 11 rfl
theorem dX3_findPoint_73 : decode cX3_findPoint 73 = .ok (.iload_n 1, 1) := zo_27 zh_cX3_findPoint_3 13 rfl
theorem dX3_findPoint_74 : decode cX3_findPoint 74 = .ok (.invokevirtual 192, 3) := zo_182 zh_cX3_findPoint_3 14 rfl
theorem dX3_findPoint_77 : decode cX3_findPoint 77 = .ok (.ior, 1) := zo_128 zh_cX3_findPoint_3 17 rfl
theorem dX3_findPoint_78 : decode cX3_findPoint 78 = .ok (.istore 5, 2) := zo_54 zh_cX3_findPoint_3 18 rfl
theorem zh_cX3_findPoint_4 : zck [25, 9, 180, 0, 117, 21, 7, 161, 0, 18, 25, 9, 27, 182, 0, 192, 54, 6, 25, 9, 180, 0] (zdu 80 cX3_findPoint.data.toList) = true := by decide +kernel
theorem dX3_findPoint_80 : decode cX3_findPoint 80 = .ok (.aload 9, 2) := zo_25 zh_cX3_findPoint_4 0 rfl
theorem dX3_findPoint_82 : decode cX3_findPoint 82 = .ok (.getfield 117, 3) := zo_180 zh_cX3_findPoint_4 2 rfl
theorem dX3_findPoint_85 : decode cX3_findPoint 85 = .ok (.iload 7, 2) := zo_21 zh_cX3_findPoint_4 5 rfl
theorem dX3_findPoint_87 : decode cX3_findPoint 87 = .ok (.if_icmp .lt 18, 3) := zo_p161 zh_cX3_findPoint_4 7 18 rfl rfl
theorem dX3_findPoint_90 : decode cX3_findPoint 90 = .ok (.aload 9, 2) := zo_25 zh_cX3_findPoint_4 10 rfl
theorem dX3_findPoint_92 : decode cX3_findPoint 92 = .ok (.iload_n 1, 1) := zo_27 zh_cX3_findPoint_4 12 rfl
theorem dX3_findPoint_93 : decode cX3_findPoint 93 = .ok (.invokevirtual 192, 3) := zo_182 zh_cX3_findPoint_4 13 rfl
theorem dX3_findPoint_96 : decode cX3_findPoint 96 = .ok (.istore 6, 2) := zo_54 zh_cX3_findPoint_4 16 rfl
theorem dX3_findPoint_98 : decode cX3_findPoint 98 = .ok (.aload 9, 2) := zo_25 zh_cX3_findPoint_4 18 rfl
theorem zh_cX3_findPoint_5 : zck [180, 0, 117, 54, 7, 132, 8, 1, 167, 255, 160, 21, 5, 6, 160, 0, 10, 21, 6, 7, 96, 167] (zdu 100 cX3_findPoint.data.toList) = true := by decide +kernel
theorem dX3_findPoint_100 : decode cX3_findPoint 100 = .ok (.getfield 117, 3) := zo_180 zh_cX3_findPoint_5 0 rfl
theorem dX3_findPoint_103 : decode cX3_findPoint 103 = .ok (.istore 7, 2) := zo_54 zh_cX3_findPoint_5 3 rfl
theorem dX3_findPoint_105 : decode cX3_findPoint 105 = .ok (.iinc 8 1, 3) := zo_p132 zh_cX3_findPoint_5 5 1 rfl rfl
theorem dX3_findPoint_108 : decode cX3_findPoint 108 = .ok (.goto (-96), 3) := zo_n167 zh_cX3_findPoint_5 8 95 rfl rfl
theorem dX3_findPoint_111 : decode cX3_findPoint 111 = .ok (.iload 5, 2) := zo_21 zh_cX3_findPoint_5 11 rfl
theorem dX3_findPoint_113 : decode cX3_findPoint 113 = .ok (.iconst 3, 1) := zo_6 zh_cX3_findPoint_5 13 rfl
theorem dX3_findPoint_114 : decode cX3_findPoint 114 = .ok (.if_icmp .ne 10, 3) := zo_p160 zh_cX3_findPoint_5 14 10 rfl rfl
theorem dX3_findPoint_117 : decode cX3_findPoint 117 = .ok (.iload 6, 2) := zo_21 zh_cX3_findPoint_5 17 rfl
theorem dX3_findPoint_119 : decode cX3_findPoint 119 = .ok (.iconst 4, 1) := zo_7 zh_cX3_findPoint_5 19 rfl
theorem zh_cX3_findPoint_6 : zck [96, 167, 0, 5, 21, 6, 172] (zdu 120 cX3_findPoint.data.toList) = true := by decide +kernel
theorem dX3_findPoint_120 : decode cX3_findPoint 120 = .ok (.iadd, 1) := zo_96 zh_cX3_findPoint_6 0 rfl
theorem dX3_findPoint_121 : decode cX3_findPoint 121 = .ok (.goto 5, 3) := zo_p167 zh_cX3_findPoint_6 1 5 rfl rfl
theorem dX3_findPoint_124 : decode cX3_findPoint 124 = .ok (.iload 6, 2) := zo_21 zh_cX3_findPoint_6 4 rfl
theorem dX3_findPoint_126 : decode cX3_findPoint 126 = .ok (.ireturn, 1) := zo_172 zh_cX3_findPoint_6 6 rfl
abbrev z_X3_findPoint : List Cond := .code yX3_findPoint cX3_findPoint 10 (some .int) :: zW
abbrev wx_X3_findPoint (ad : Nat → Nat) (cs : Nat → ClassId) (PL : va_W) (S_a : Nat → Nat) (S_b : Nat → Nat) (L_a : Nat → Nat) (L_b : Nat → Nat) (court_shoeCount : Int32) (court_claimCount : Int32) (court_suitCount : Int32) (court_suits : Nat → Option Nat) (court_laws : Nat → Option Nat) (inq_day : Int32) (inq_land : Int32) (inq_shoeLeftOut : Int32) (inq_names : Nat → Int32) (inq_stack : Nat → Int32) (inq_boundAs : Nat → Int32) (S_who : Nat → Int32) (S_against : Nat → Int32) (S_kind : Nat → Int32) (S_won : Nat → Int32) (S_day : Nat → Int32) (S_land : Nat → Int32) (S_undoneFrom : Nat → Int32) (S_asked : Nat → Nat → Int32) (S_askedCount : Nat → Int32) (S_askedBits : Nat → Int32) (S_first : Nat → Int32) (S_foundSo : Nat → Int32) (S_foundNot : Nat → Int32) (S_fought : Nat → Int32) (S_needed : Nat → Int32) (L_n : Nat → Nat) (L_code : Nat → Nat → Int32) : va_W := [((ad 4), .inr (2, [.ref (ad 5), .ref (ad 6), .ref (ad 7), .ref (ad 8), .ref (ad 9), .ref (ad 10), .ref (ad 11), .ref (ad 12), .ref (ad 13), .ref (ad 14), .int court_shoeCount, .int court_claimCount, .int court_suitCount])), ((ad 13), .inl (cs 5, 40, .inr (.inr (.inr (.inr court_suits))))), ((ad 14), .inl (cs 6, 32, .inr (.inr (.inr (.inr court_laws))))), ((ad 15), .inr (3, [.ref (ad 4), .ref (ad 16), .ref (ad 17), .ref (ad 18), .ref (ad 19), .ref (ad 20), .ref (ad 21), .ref (ad 22), .int inq_day, .int inq_land, .int inq_shoeLeftOut])), ((ad 16), .inl (cs 0, 11, .inl inq_names)), ((ad 17), .inl (cs 0, 36, .inl inq_stack)), ((ad 20), .inl (cs 0, 20, .inl inq_boundAs))]
abbrev wl_X3_findPoint (ad : Nat → Nat) (cs : Nat → ClassId) (PL : va_W) (S_a : Nat → Nat) (S_b : Nat → Nat) (L_a : Nat → Nat) (L_b : Nat → Nat) (court_shoeCount : Int32) (court_claimCount : Int32) (court_suitCount : Int32) (court_suits : Nat → Option Nat) (court_laws : Nat → Option Nat) (inq_day : Int32) (inq_land : Int32) (inq_shoeLeftOut : Int32) (inq_names : Nat → Int32) (inq_stack : Nat → Int32) (inq_boundAs : Nat → Int32) (S_who : Nat → Int32) (S_against : Nat → Int32) (S_kind : Nat → Int32) (S_won : Nat → Int32) (S_day : Nat → Int32) (S_land : Nat → Int32) (S_undoneFrom : Nat → Int32) (S_asked : Nat → Nat → Int32) (S_askedCount : Nat → Int32) (S_askedBits : Nat → Int32) (S_first : Nat → Int32) (S_foundSo : Nat → Int32) (S_foundNot : Nat → Int32) (S_fought : Nat → Int32) (S_needed : Nat → Int32) (L_n : Nat → Nat) (L_code : Nat → Nat → Int32) : va_W := wx_X3_findPoint ad cs PL S_a S_b L_a L_b court_shoeCount court_claimCount court_suitCount court_suits court_laws inq_day inq_land inq_shoeLeftOut inq_names inq_stack inq_boundAs S_who S_against S_kind S_won S_day S_land S_undoneFrom S_asked S_askedCount S_askedBits S_first S_foundSo S_foundNot S_fought S_needed L_n L_code ++ PL
def Q_X3_findPoint (D : va_G) (cs : Nat → ClassId) (ad : Nat → Nat) (PL : va_W) (S_a : Nat → Nat) (S_b : Nat → Nat) (L_a : Nat → Nat) (L_b : Nat → Nat) (court_shoeCount : Int32) (court_claimCount : Int32) (court_suitCount : Int32) (court_suits : Nat → Option Nat) (court_laws : Nat → Option Nat) (inq_day : Int32) (inq_land : Int32) (inq_shoeLeftOut : Int32) (inq_boundAs : Nat → Int32) (S_who : Nat → Int32) (S_against : Nat → Int32) (S_kind : Nat → Int32) (S_won : Nat → Int32) (S_day : Nat → Int32) (S_land : Nat → Int32) (S_undoneFrom : Nat → Int32) (S_asked : Nat → Nat → Int32) (S_askedCount : Nat → Int32) (S_askedBits : Nat → Int32) (S_first : Nat → Int32) (S_foundSo : Nat → Int32) (S_foundNot : Nat → Int32) (S_fought : Nat → Int32) (S_needed : Nat → Int32) (L_n : Nat → Nat) (L_code : Nat → Nat → Int32) (A : Nat → Prop) (R : Int32 × (Nat → Int32) × (Nat → Int32)) : Array Value → State → Outcome → State → Prop :=
  va_Qi (fun (r : Int32) (u : (Nat → Int32) × (Nat → Int32)) => (r, u) = R) (fun (u : (Nat → Int32) × (Nat → Int32)) (t : State) => va_P D classes (wl_X3_findPoint ad cs PL S_a S_b L_a L_b court_shoeCount court_claimCount court_suitCount court_suits court_laws inq_day inq_land inq_shoeLeftOut u.1 u.2 inq_boundAs S_who S_against S_kind S_won S_day S_land S_undoneFrom S_asked S_askedCount S_askedBits S_first S_foundSo S_foundNot S_fought S_needed L_n L_code) t.heap ∧ va_D A (wl_X3_findPoint ad cs PL S_a S_b L_a L_b court_shoeCount court_claimCount court_suitCount court_suits court_laws inq_day inq_land inq_shoeLeftOut u.1 u.2 inq_boundAs S_who S_against S_kind S_won S_day S_land S_undoneFrom S_asked S_askedCount S_askedBits S_first S_foundSo S_foundNot S_fought S_needed L_n L_code)) A
abbrev rm_X3_findPoint : Room := { frames := 5, cells := 0, slots := 0, locals := 115 }
theorem g_X3_184 : GoodIn zW (wsV RX3 184 RX7 yX7_hasFound z_X7_hasFound) := zGV kw_1043 kw_920 kw_921 kw_82 kw_922
theorem g_X3_188 : GoodIn zW (wsV RX3 188 RX3 yX3_isSettling z_X3_isSettling) := zGV kw_1044 kw_1045 kw_1046 kw_77 kw_1047
theorem g_X3_192 : GoodIn zW (wsV RX3 192 RX7 yX7_wayOf z_X7_wayOf) := zGV kw_1048 kw_945 kw_946 kw_82 kw_947
theorem hd_X3_isSettling : yX3_isSettling.cls ≠ "java/lang/invoke/MethodHandle" ∧ yX3_isSettling.cls ≠ "java/lang/invoke/VarHandle" ∧ (parseMethodDescriptor yX3_isSettling.desc).map (fun d => d.parameters.length) = some 4 := by decide +kernel
theorem hd_X7_hasFound : yX7_hasFound.cls ≠ "java/lang/invoke/MethodHandle" ∧ yX7_hasFound.cls ≠ "java/lang/invoke/VarHandle" ∧ (parseMethodDescriptor yX7_hasFound.desc).map (fun d => d.parameters.length) = some 1 := by decide +kernel
def B_X3_findPoint_105   (g12 : Int32 → Int32 → Int32 → Int32 → Int32 → Int32 → Int32 → Int32 → (Nat → Int32) → (Nat → Int32) → (Option (Int32 × (Nat → Int32) × (Nat → Int32)))) (court_shoeCount : Int32) (court_claimCount : Int32) (court_suitCount : Int32) (court_suits : Nat → Option Nat) (court_laws : Nat → Option Nat) (inq_day : Int32) (inq_land : Int32) (inq_shoeLeftOut : Int32) (inq_boundAs : Nat → Int32) (S_who : Nat → Int32) (S_against : Nat → Int32) (S_kind : Nat → Int32) (S_won : Nat → Int32) (S_day : Nat → Int32) (S_land : Nat → Int32) (S_undoneFrom : Nat → Int32) (S_asked : Nat → Nat → Int32) (S_askedCount : Nat → Int32) (S_askedBits : Nat → Int32) (S_first : Nat → Int32) (S_foundSo : Nat → Int32) (S_foundNot : Nat → Int32) (S_fought : Nat → Int32) (S_needed : Nat → Int32) (L_n : Nat → Nat) (L_code : Nat → Nat → Int32) (x1 : Int32) (x2 : Int32) (x3 : Int32) (x4 : Int32) (x5 : Int32) (x6 : Int32) (x7 : Int32) (x8 : Int32) (inq_names : Nat → Int32) (inq_stack : Nat → Int32) : Option (Int32 × (Nat → Int32) × (Nat → Int32)) :=
  (zk_let (x8 + (1 : Int32)) (fun v_51 => (g12 x1 x2 x3 x4 x5 x6 x7 v_51 inq_names inq_stack)))
def B_X3_findPoint_12   (g12 : Int32 → Int32 → Int32 → Int32 → Int32 → Int32 → Int32 → Int32 → (Nat → Int32) → (Nat → Int32) → (Option (Int32 × (Nat → Int32) × (Nat → Int32)))) (court_shoeCount : Int32) (court_claimCount : Int32) (court_suitCount : Int32) (court_suits : Nat → Option Nat) (court_laws : Nat → Option Nat) (inq_day : Int32) (inq_land : Int32) (inq_shoeLeftOut : Int32) (inq_boundAs : Nat → Int32) (S_who : Nat → Int32) (S_against : Nat → Int32) (S_kind : Nat → Int32) (S_won : Nat → Int32) (S_day : Nat → Int32) (S_land : Nat → Int32) (S_undoneFrom : Nat → Int32) (S_asked : Nat → Nat → Int32) (S_askedCount : Nat → Int32) (S_askedBits : Nat → Int32) (S_first : Nat → Int32) (S_foundSo : Nat → Int32) (S_foundNot : Nat → Int32) (S_fought : Nat → Int32) (S_needed : Nat → Int32) (L_n : Nat → Nat) (L_code : Nat → Nat → Int32) (x1 : Int32) (x2 : Int32) (x3 : Int32) (x4 : Int32) (x5 : Int32) (x6 : Int32) (x7 : Int32) (x8 : Int32) (inq_names : Nat → Int32) (inq_stack : Nat → Int32) : Option (Int32 × (Nat → Int32) × (Nat → Int32)) :=
  (if court_suitCount ≤ x8 then (if x5 = (3 : Int32) then (some (x6 + (4 : Int32), inq_names, inq_stack)) else (some (x6, inq_names, inq_stack))) else (if (x8 < 0 ∨ 40 ≤ x8.toNatClampNeg) then none else (if (x8 < 0 ∨ court_suitCount ≤ x8) then none else (if x8 = x4 then (B_X3_findPoint_105 g12 court_shoeCount court_claimCount court_suitCount court_suits court_laws inq_day inq_land inq_shoeLeftOut inq_boundAs S_who S_against S_kind S_won S_day S_land S_undoneFrom S_asked S_askedCount S_askedBits S_first S_foundSo S_foundNot S_fought S_needed L_n L_code x1 x2 x3 x4 x5 x6 x7 x8 inq_names inq_stack) else (if (x8 < 0 ∨ court_suitCount ≤ x8) then none else (zk_b2 (f_X7_hasFound x1 (S_who x8.toNatClampNeg) (S_against x8.toNatClampNeg) (S_kind x8.toNatClampNeg) (S_won x8.toNatClampNeg) (S_day x8.toNatClampNeg) (S_land x8.toNatClampNeg) (S_undoneFrom x8.toNatClampNeg) (S_askedCount x8.toNatClampNeg) (S_askedBits x8.toNatClampNeg) (S_first x8.toNatClampNeg) (S_foundSo x8.toNatClampNeg) (S_foundNot x8.toNatClampNeg) (S_fought x8.toNatClampNeg) (S_needed x8.toNatClampNeg)) (fun r_13 u_14 => (if r_13 = 0 then (B_X3_findPoint_105 g12 court_shoeCount court_claimCount court_suitCount court_suits court_laws inq_day inq_land inq_shoeLeftOut inq_boundAs S_who S_against S_kind S_won S_day S_land S_undoneFrom S_asked S_askedCount S_askedBits S_first S_foundSo S_foundNot S_fought S_needed L_n L_code x1 x2 x3 x4 x5 x6 x7 x8 inq_names inq_stack) else (if (x8 < 0 ∨ court_suitCount ≤ x8) then none else (zk_b3 (f_X3_isSettling x1 x2 x3 court_shoeCount court_claimCount court_suitCount court_laws inq_day inq_land inq_shoeLeftOut inq_names inq_stack inq_boundAs (S_who x8.toNatClampNeg) (S_against x8.toNatClampNeg) (S_kind x8.toNatClampNeg) (S_won x8.toNatClampNeg) (S_day x8.toNatClampNeg) (S_land x8.toNatClampNeg) (S_undoneFrom x8.toNatClampNeg) (S_askedCount x8.toNatClampNeg) (S_askedBits x8.toNatClampNeg) (S_first x8.toNatClampNeg) (S_foundSo x8.toNatClampNeg) (S_foundNot x8.toNatClampNeg) (S_fought x8.toNatClampNeg) (S_needed x8.toNatClampNeg) L_n L_code) (fun r_21 u_22 u_23 => (if r_21 = 0 then (B_X3_findPoint_105 g12 court_shoeCount court_claimCount court_suitCount court_suits court_laws inq_day inq_land inq_shoeLeftOut inq_boundAs S_who S_against S_kind S_won S_day S_land S_undoneFrom S_asked S_askedCount S_askedBits S_first S_foundSo S_foundNot S_fought S_needed L_n L_code x1 x2 x3 x4 x5 x6 x7 x8 u_22 u_23) else (if (x8 < 0 ∨ court_suitCount ≤ x8) then none else (zk_b2 (f_X7_wayOf x1 (S_who x8.toNatClampNeg) (S_against x8.toNatClampNeg) (S_kind x8.toNatClampNeg) (S_won x8.toNatClampNeg) (S_day x8.toNatClampNeg) (S_land x8.toNatClampNeg) (S_undoneFrom x8.toNatClampNeg) (S_askedCount x8.toNatClampNeg) (S_askedBits x8.toNatClampNeg) (S_first x8.toNatClampNeg) (S_foundSo x8.toNatClampNeg) (S_foundNot x8.toNatClampNeg) (S_fought x8.toNatClampNeg) (S_needed x8.toNatClampNeg)) (fun r_30 u_31 => (zk_let (x5 ||| r_30) (fun v_33 => (if (x8 < 0 ∨ court_suitCount ≤ x8) then none else (if (S_day x8.toNatClampNeg) < x7 then (B_X3_findPoint_105 g12 court_shoeCount court_claimCount court_suitCount court_suits court_laws inq_day inq_land inq_shoeLeftOut inq_boundAs S_who S_against S_kind S_won S_day S_land S_undoneFrom S_asked S_askedCount S_askedBits S_first S_foundSo S_foundNot S_fought S_needed L_n L_code x1 x2 x3 x4 v_33 x6 x7 x8 u_22 u_23) else (if (x8 < 0 ∨ court_suitCount ≤ x8) then none else (zk_b2 (f_X7_wayOf x1 (S_who x8.toNatClampNeg) (S_against x8.toNatClampNeg) (S_kind x8.toNatClampNeg) (S_won x8.toNatClampNeg) (S_day x8.toNatClampNeg) (S_land x8.toNatClampNeg) (S_undoneFrom x8.toNatClampNeg) (S_askedCount x8.toNatClampNeg) (S_askedBits x8.toNatClampNeg) (S_first x8.toNatClampNeg) (S_foundSo x8.toNatClampNeg) (S_foundNot x8.toNatClampNeg) (S_fought x8.toNatClampNeg) (S_needed x8.toNatClampNeg)) (fun r_43 u_44 => (if (x8 < 0 ∨ court_suitCount ≤ x8) then none else (zk_let (S_day x8.toNatClampNeg) (fun v_50 => (B_X3_findPoint_105 g12 court_shoeCount court_claimCount court_suitCount court_suits court_laws inq_day inq_land inq_shoeLeftOut inq_boundAs S_who S_against S_kind S_won S_day S_land S_undoneFrom S_asked S_askedCount S_askedBits S_first S_foundSo S_foundNot S_fought S_needed L_n L_code x1 x2 x3 x4 v_33 r_43 v_50 x8 u_22 u_23))))))))))))))))))))))))))
def B_X3_findPoint_0   (g12 : Int32 → Int32 → Int32 → Int32 → Int32 → Int32 → Int32 → Int32 → (Nat → Int32) → (Nat → Int32) → (Option (Int32 × (Nat → Int32) × (Nat → Int32)))) (court_shoeCount : Int32) (court_claimCount : Int32) (court_suitCount : Int32) (court_suits : Nat → Option Nat) (court_laws : Nat → Option Nat) (inq_day : Int32) (inq_land : Int32) (inq_shoeLeftOut : Int32) (inq_boundAs : Nat → Int32) (S_who : Nat → Int32) (S_against : Nat → Int32) (S_kind : Nat → Int32) (S_won : Nat → Int32) (S_day : Nat → Int32) (S_land : Nat → Int32) (S_undoneFrom : Nat → Int32) (S_asked : Nat → Nat → Int32) (S_askedCount : Nat → Int32) (S_askedBits : Nat → Int32) (S_first : Nat → Int32) (S_foundSo : Nat → Int32) (S_foundNot : Nat → Int32) (S_fought : Nat → Int32) (S_needed : Nat → Int32) (L_n : Nat → Nat) (L_code : Nat → Nat → Int32) (x1 : Int32) (x2 : Int32) (x3 : Int32) (x4 : Int32) (inq_names : Nat → Int32) (inq_stack : Nat → Int32) : Option (Int32 × (Nat → Int32) × (Nat → Int32)) :=
  (g12 x1 x2 x3 x4 (0 : Int32) (0 : Int32) (-1 : Int32) (0 : Int32) inq_names inq_stack)
def G_X3_findPoint   (court_shoeCount : Int32) (court_claimCount : Int32) (court_suitCount : Int32) (court_suits : Nat → Option Nat) (court_laws : Nat → Option Nat) (inq_day : Int32) (inq_land : Int32) (inq_shoeLeftOut : Int32) (inq_boundAs : Nat → Int32) (S_who : Nat → Int32) (S_against : Nat → Int32) (S_kind : Nat → Int32) (S_won : Nat → Int32) (S_day : Nat → Int32) (S_land : Nat → Int32) (S_undoneFrom : Nat → Int32) (S_asked : Nat → Nat → Int32) (S_askedCount : Nat → Int32) (S_askedBits : Nat → Int32) (S_first : Nat → Int32) (S_foundSo : Nat → Int32) (S_foundNot : Nat → Int32) (S_fought : Nat → Int32) (S_needed : Nat → Int32) (L_n : Nat → Nat) (L_code : Nat → Nat → Int32) (n : Nat) : (Int32 → Int32 → Int32 → Int32 → Int32 → Int32 → Int32 → Int32 → (Nat → Int32) → (Nat → Int32) → (Option (Int32 × (Nat → Int32) × (Nat → Int32)))) :=
  Nat.rec (motive := fun _ => (Int32 → Int32 → Int32 → Int32 → Int32 → Int32 → Int32 → Int32 → (Nat → Int32) → (Nat → Int32) → (Option (Int32 × (Nat → Int32) × (Nat → Int32))))) ((fun _ _ _ _ _ _ _ _ _ _ => none)) (fun _ ih => (B_X3_findPoint_12   ih court_shoeCount court_claimCount court_suitCount court_suits court_laws inq_day inq_land inq_shoeLeftOut inq_boundAs S_who S_against S_kind S_won S_day S_land S_undoneFrom S_asked S_askedCount S_askedBits S_first S_foundSo S_foundNot S_fought S_needed L_n L_code)) n
def f_X3_findPoint   (n : Nat) (x1 : Int32) (x2 : Int32) (x3 : Int32) (x4 : Int32) (court_shoeCount : Int32) (court_claimCount : Int32) (court_suitCount : Int32) (court_suits : Nat → Option Nat) (court_laws : Nat → Option Nat) (inq_day : Int32) (inq_land : Int32) (inq_shoeLeftOut : Int32) (inq_names : Nat → Int32) (inq_stack : Nat → Int32) (inq_boundAs : Nat → Int32) (S_who : Nat → Int32) (S_against : Nat → Int32) (S_kind : Nat → Int32) (S_won : Nat → Int32) (S_day : Nat → Int32) (S_land : Nat → Int32) (S_undoneFrom : Nat → Int32) (S_asked : Nat → Nat → Int32) (S_askedCount : Nat → Int32) (S_askedBits : Nat → Int32) (S_first : Nat → Int32) (S_foundSo : Nat → Int32) (S_foundNot : Nat → Int32) (S_fought : Nat → Int32) (S_needed : Nat → Int32) (L_n : Nat → Nat) (L_code : Nat → Nat → Int32) : Option (Int32 × (Nat → Int32) × (Nat → Int32)) := B_X3_findPoint_0   ((G_X3_findPoint   court_shoeCount court_claimCount court_suitCount court_suits court_laws inq_day inq_land inq_shoeLeftOut inq_boundAs S_who S_against S_kind S_won S_day S_land S_undoneFrom S_asked S_askedCount S_askedBits S_first S_foundSo S_foundNot S_fought S_needed L_n L_code n)) court_shoeCount court_claimCount court_suitCount court_suits court_laws inq_day inq_land inq_shoeLeftOut inq_boundAs S_who S_against S_kind S_won S_day S_land S_undoneFrom S_asked S_askedCount S_askedBits S_first S_foundSo S_foundNot S_fought S_needed L_n L_code x1 x2 x3 x4 inq_names inq_stack
set_option maxHeartbeats 4000000 in
set_option maxRecDepth 100000 in
theorem L_X3_findPoint_105 {p : Program} {l : Launch} {e : Env} {s : State} {m : MethodId} {args : Array Value} {below : List Frame} {meth : Method} {c : Code} {A : Nat → Prop} {D : va_G} {cs : Nat → ClassId} {ad : Nat → Nat} {PL : va_W} {S_a : Nat → Nat} {S_b : Nat → Nat} {L_a : Nat → Nat} {L_b : Nat → Nat} {court_shoeCount : Int32} {court_claimCount : Int32} {court_suitCount : Int32} {court_suits : Nat → Option Nat} {court_laws : Nat → Option Nat} {inq_day : Int32} {inq_land : Int32} {inq_shoeLeftOut : Int32} {inq_boundAs : Nat → Int32} {S_who : Nat → Int32} {S_against : Nat → Int32} {S_kind : Nat → Int32} {S_won : Nat → Int32} {S_day : Nat → Int32} {S_land : Nat → Int32} {S_undoneFrom : Nat → Int32} {S_asked : Nat → Nat → Int32} {S_askedCount : Nat → Int32} {S_askedBits : Nat → Int32} {S_first : Nat → Int32} {S_foundSo : Nat → Int32} {S_foundNot : Nat → Int32} {S_fought : Nat → Int32} {S_needed : Nat → Int32} {L_n : Nat → Nat} {L_code : Nat → Nat → Int32} {R : Int32 × (Nat → Int32) × (Nat → Int32)} {g12 : Int32 → Int32 → Int32 → Int32 → Int32 → Int32 → Int32 → Int32 → (Nat → Int32) → (Nat → Int32) → (Option (Int32 × (Nat → Int32) × (Nat → Int32)))} (C0 : zC p s m args meth c cX3_findPoint 10 (some .int) RX3 zW) (hK : va_K D classes (zT cs) s) (hA : ∀ q : Nat, s.heap.size ≤ q → A q) (hSU : PSu cs PL court_suitCount court_suits S_a S_b S_who S_against S_kind S_won S_day S_land S_undoneFrom S_asked S_askedCount S_askedBits S_first S_foundSo S_foundNot S_fought S_needed) (hLA : PLa cs PL court_laws L_a L_b L_n L_code) (ih12 : ∀ (x1 : Int32) (x2 : Int32) (x3 : Int32) (x4 : Int32) (x5 : Int32) (x6 : Int32) (x7 : Int32) (x8 : Int32) (inq_names : Nat → Int32) (inq_stack : Nat → Int32) (h : g12 x1 x2 x3 x4 x5 x6 x7 x8 inq_names inq_stack = some R) (H : Heap) (locs : List Loc) (ls : Array Slot) (hP : va_P D classes (wl_X3_findPoint ad cs PL S_a S_b L_a L_b court_shoeCount court_claimCount court_suitCount court_suits court_laws inq_day inq_land inq_shoeLeftOut inq_names inq_stack inq_boundAs S_who S_against S_kind S_won S_day S_land S_undoneFrom S_asked S_askedCount S_askedBits S_first S_foundSo S_foundNot S_fought S_needed L_n L_code) H) (hD : va_D A (wl_X3_findPoint ad cs PL S_a S_b L_a L_b court_shoeCount court_claimCount court_suitCount court_suits court_laws inq_day inq_land inq_shoeLeftOut inq_names inq_stack inq_boundAs S_who S_against S_kind S_won S_day S_land S_undoneFrom S_asked S_askedCount S_askedBits S_first S_foundSo S_foundNot S_fought S_needed L_n L_code)) (hS : va_S A s.heap H locs) (hl : lv_has ls 10 [(0, .ref (ad 15)), (1, .int x1), (2, .int x2), (3, .int x3), (4, .int x4), (5, .int x5), (6, .int x6), (7, .int x7), (8, .int x8)]), W p l e rm_X3_findPoint s m args below meth c H locs 0 0 (MQ below (Q_X3_findPoint D cs ad PL S_a S_b L_a L_b court_shoeCount court_claimCount court_suitCount court_suits court_laws inq_day inq_land inq_shoeLeftOut inq_boundAs S_who S_against S_kind S_won S_day S_land S_undoneFrom S_asked S_askedCount S_askedBits S_first S_foundSo S_foundNot S_fought S_needed L_n L_code A R) args s 0 0 A) (F0 m 12 ls [])) (x1 : Int32) (x2 : Int32) (x3 : Int32) (x4 : Int32) (x5 : Int32) (x6 : Int32) (x7 : Int32) (x8 : Int32) (inq_names : Nat → Int32) (inq_stack : Nat → Int32) (h : B_X3_findPoint_105 g12 court_shoeCount court_claimCount court_suitCount court_suits court_laws inq_day inq_land inq_shoeLeftOut inq_boundAs S_who S_against S_kind S_won S_day S_land S_undoneFrom S_asked S_askedCount S_askedBits S_first S_foundSo S_foundNot S_fought S_needed L_n L_code x1 x2 x3 x4 x5 x6 x7 x8 inq_names inq_stack = some R) (H : Heap) (locs : List Loc) (ls : Array Slot) (hP : va_P D classes (wl_X3_findPoint ad cs PL S_a S_b L_a L_b court_shoeCount court_claimCount court_suitCount court_suits court_laws inq_day inq_land inq_shoeLeftOut inq_names inq_stack inq_boundAs S_who S_against S_kind S_won S_day S_land S_undoneFrom S_asked S_askedCount S_askedBits S_first S_foundSo S_foundNot S_fought S_needed L_n L_code) H) (hD : va_D A (wl_X3_findPoint ad cs PL S_a S_b L_a L_b court_shoeCount court_claimCount court_suitCount court_suits court_laws inq_day inq_land inq_shoeLeftOut inq_names inq_stack inq_boundAs S_who S_against S_kind S_won S_day S_land S_undoneFrom S_asked S_askedCount S_askedBits S_first S_foundSo S_foundNot S_fought S_needed L_n L_code)) (hS : va_S A s.heap H locs) (hl : lv_has ls 10 [(0, .ref (ad 15)), (1, .int x1), (2, .int x2), (3, .int x3), (4, .int x4), (5, .int x5), (6, .int x6), (7, .int x7), (8, .int x8)]) : W p l e rm_X3_findPoint s m args below meth c H locs 0 0 (MQ below (Q_X3_findPoint D cs ad PL S_a S_b L_a L_b court_shoeCount court_claimCount court_suitCount court_suits court_laws inq_day inq_land inq_shoeLeftOut inq_boundAs S_who S_against S_kind S_won S_day S_land S_undoneFrom S_asked S_askedCount S_askedBits S_first S_foundSo S_foundNot S_fought S_needed L_n L_code A R) args s 0 0 A) (F0 m 105 ls []) := by
  obtain ⟨hx, hb, hr, hml, hown, ht, hlocks⟩ := id C0
  obtain ⟨v_51, ev_51, h⟩ := zk_lt h
  refine lv_iinc (v := v_51) (lv' := [(8, .int v_51), (0, .ref (ad 15)), (1, .int x1), (2, .int x2), (3, .int x3), (4, .int x4), (5, .int x5), (6, .int x6), (7, .int x7)]) hx hb dX3_findPoint_105 hl (k := 8) rfl (by rw [ev_51]; rfl) (by decide) rfl (fun ls hl => ?_)
  refine lv_goto (tgt := 12) hx hb dX3_findPoint_108 (by decide) ?_
  exact ih12 x1 x2 x3 x4 x5 x6 x7 v_51 inq_names inq_stack h H locs ls hP hD hS (lv_sub hl [1, 2, 3, 4, 5, 6, 7, 8, 0] rfl)
set_option maxHeartbeats 4000000 in
set_option maxRecDepth 100000 in
theorem L_X3_findPoint_12 {p : Program} {l : Launch} {e : Env} {s : State} {m : MethodId} {args : Array Value} {below : List Frame} {meth : Method} {c : Code} {A : Nat → Prop} {D : va_G} {cs : Nat → ClassId} {ad : Nat → Nat} {PL : va_W} {S_a : Nat → Nat} {S_b : Nat → Nat} {L_a : Nat → Nat} {L_b : Nat → Nat} {court_shoeCount : Int32} {court_claimCount : Int32} {court_suitCount : Int32} {court_suits : Nat → Option Nat} {court_laws : Nat → Option Nat} {inq_day : Int32} {inq_land : Int32} {inq_shoeLeftOut : Int32} {inq_boundAs : Nat → Int32} {S_who : Nat → Int32} {S_against : Nat → Int32} {S_kind : Nat → Int32} {S_won : Nat → Int32} {S_day : Nat → Int32} {S_land : Nat → Int32} {S_undoneFrom : Nat → Int32} {S_asked : Nat → Nat → Int32} {S_askedCount : Nat → Int32} {S_askedBits : Nat → Int32} {S_first : Nat → Int32} {S_foundSo : Nat → Int32} {S_foundNot : Nat → Int32} {S_fought : Nat → Int32} {S_needed : Nat → Int32} {L_n : Nat → Nat} {L_code : Nat → Nat → Int32} {R : Int32 × (Nat → Int32) × (Nat → Int32)} {g12 : Int32 → Int32 → Int32 → Int32 → Int32 → Int32 → Int32 → Int32 → (Nat → Int32) → (Nat → Int32) → (Option (Int32 × (Nat → Int32) × (Nat → Int32)))} (C0 : zC p s m args meth c cX3_findPoint 10 (some .int) RX3 zW) (hK : va_K D classes (zT cs) s) (hA : ∀ q : Nat, s.heap.size ≤ q → A q) (hSU : PSu cs PL court_suitCount court_suits S_a S_b S_who S_against S_kind S_won S_day S_land S_undoneFrom S_asked S_askedCount S_askedBits S_first S_foundSo S_foundNot S_fought S_needed) (hLA : PLa cs PL court_laws L_a L_b L_n L_code) (ih12 : ∀ (x1 : Int32) (x2 : Int32) (x3 : Int32) (x4 : Int32) (x5 : Int32) (x6 : Int32) (x7 : Int32) (x8 : Int32) (inq_names : Nat → Int32) (inq_stack : Nat → Int32) (h : g12 x1 x2 x3 x4 x5 x6 x7 x8 inq_names inq_stack = some R) (H : Heap) (locs : List Loc) (ls : Array Slot) (hP : va_P D classes (wl_X3_findPoint ad cs PL S_a S_b L_a L_b court_shoeCount court_claimCount court_suitCount court_suits court_laws inq_day inq_land inq_shoeLeftOut inq_names inq_stack inq_boundAs S_who S_against S_kind S_won S_day S_land S_undoneFrom S_asked S_askedCount S_askedBits S_first S_foundSo S_foundNot S_fought S_needed L_n L_code) H) (hD : va_D A (wl_X3_findPoint ad cs PL S_a S_b L_a L_b court_shoeCount court_claimCount court_suitCount court_suits court_laws inq_day inq_land inq_shoeLeftOut inq_names inq_stack inq_boundAs S_who S_against S_kind S_won S_day S_land S_undoneFrom S_asked S_askedCount S_askedBits S_first S_foundSo S_foundNot S_fought S_needed L_n L_code)) (hS : va_S A s.heap H locs) (hl : lv_has ls 10 [(0, .ref (ad 15)), (1, .int x1), (2, .int x2), (3, .int x3), (4, .int x4), (5, .int x5), (6, .int x6), (7, .int x7), (8, .int x8)]), W p l e rm_X3_findPoint s m args below meth c H locs 0 0 (MQ below (Q_X3_findPoint D cs ad PL S_a S_b L_a L_b court_shoeCount court_claimCount court_suitCount court_suits court_laws inq_day inq_land inq_shoeLeftOut inq_boundAs S_who S_against S_kind S_won S_day S_land S_undoneFrom S_asked S_askedCount S_askedBits S_first S_foundSo S_foundNot S_fought S_needed L_n L_code A R) args s 0 0 A) (F0 m 12 ls [])) (x1 : Int32) (x2 : Int32) (x3 : Int32) (x4 : Int32) (x5 : Int32) (x6 : Int32) (x7 : Int32) (x8 : Int32) (inq_names : Nat → Int32) (inq_stack : Nat → Int32) (h : B_X3_findPoint_12 g12 court_shoeCount court_claimCount court_suitCount court_suits court_laws inq_day inq_land inq_shoeLeftOut inq_boundAs S_who S_against S_kind S_won S_day S_land S_undoneFrom S_asked S_askedCount S_askedBits S_first S_foundSo S_foundNot S_fought S_needed L_n L_code x1 x2 x3 x4 x5 x6 x7 x8 inq_names inq_stack = some R) (H : Heap) (locs : List Loc) (ls : Array Slot) (hP : va_P D classes (wl_X3_findPoint ad cs PL S_a S_b L_a L_b court_shoeCount court_claimCount court_suitCount court_suits court_laws inq_day inq_land inq_shoeLeftOut inq_names inq_stack inq_boundAs S_who S_against S_kind S_won S_day S_land S_undoneFrom S_asked S_askedCount S_askedBits S_first S_foundSo S_foundNot S_fought S_needed L_n L_code) H) (hD : va_D A (wl_X3_findPoint ad cs PL S_a S_b L_a L_b court_shoeCount court_claimCount court_suitCount court_suits court_laws inq_day inq_land inq_shoeLeftOut inq_names inq_stack inq_boundAs S_who S_against S_kind S_won S_day S_land S_undoneFrom S_asked S_askedCount S_askedBits S_first S_foundSo S_foundNot S_fought S_needed L_n L_code)) (hS : va_S A s.heap H locs) (hl : lv_has ls 10 [(0, .ref (ad 15)), (1, .int x1), (2, .int x2), (3, .int x3), (4, .int x4), (5, .int x5), (6, .int x6), (7, .int x7), (8, .int x8)]) : W p l e rm_X3_findPoint s m args below meth c H locs 0 0 (MQ below (Q_X3_findPoint D cs ad PL S_a S_b L_a L_b court_shoeCount court_claimCount court_suitCount court_suits court_laws inq_day inq_land inq_shoeLeftOut inq_boundAs S_who S_against S_kind S_won S_day S_land S_undoneFrom S_asked S_askedCount S_askedBits S_first S_foundSo S_foundNot S_fought S_needed L_n L_code A R) args s 0 0 A) (F0 m 12 ls []) := by
  obtain ⟨hx, hb, hr, hml, hown, ht, hlocks⟩ := id C0
  refine lv_iload hx hb dX3_findPoint_12 (lv_at hl 8 rfl) ?_
  refine lv_aload_n hx hb dX3_findPoint_14 rfl (lv_at hl 0 rfl) ?_
  refine va_get (D := D) (ci := 3) (v := .ref (ad 4)) (C := RX3) (T := TX3) (N := 11) hx hb ht iX3 hown hK hP 3 rfl rfl 0 (by decide) (ht _ kw_191) (fun _ h9 => h9) rfl dX3_findPoint_15 ?_
  refine va_get (D := D) (ci := 2) (v := .int court_suitCount) (C := RX2) (T := TX2) (N := 13) hx hb ht iX2 hown hK hP 0 rfl rfl 12 (by decide) (ht _ kw_156) (fun _ h9 => h9) rfl dX3_findPoint_18 ?_
  refine lv_icmp_ge (tgt := 111) hx hb dX3_findPoint_21 (by decide) (fun c_1 => ?_) (fun c_1 => ?_)
  · have h := zk_t c_1 h
    refine lv_iload hx hb dX3_findPoint_111 (lv_at hl 5 rfl) ?_
    refine lv_iconst (v := (3 : Int32)) hx hb dX3_findPoint_113 (by decide) ?_
    refine lv_icmp_ne (tgt := 124) hx hb dX3_findPoint_114 (by decide) (fun c_2 => ?_) (fun c_2 => ?_)
    · have h := zk_f c_2 h
      refine lv_iload hx hb dX3_findPoint_124 (lv_at hl 6 rfl) ?_
      exact W.iret (v := x6) hx hb hr (fun t ht2 hW => ⟨⟨x6, (inq_names, inq_stack), rfl, Option.some.inj h, by rw [ht2]; exact hP, hD⟩, hS.F ht2⟩) hS.2.2 dX3_findPoint_126 hlocks
    · have h := zk_t c_2 h
      refine lv_iload hx hb dX3_findPoint_117 (lv_at hl 6 rfl) ?_
      refine lv_iconst (v := (4 : Int32)) hx hb dX3_findPoint_119 (by decide) ?_
      refine lv_iadd hx hb dX3_findPoint_120 ?_
      refine lv_goto (tgt := 126) hx hb dX3_findPoint_121 (by decide) ?_
      exact W.iret (v := x6 + (4 : Int32)) hx hb hr (fun t ht2 hW => ⟨⟨x6 + (4 : Int32), (inq_names, inq_stack), rfl, Option.some.inj h, by rw [ht2]; exact hP, hD⟩, hS.F ht2⟩) hS.2.2 dX3_findPoint_126 hlocks
  · have h := zk_f c_1 h
    refine lv_aload_n hx hb dX3_findPoint_24 rfl (lv_at hl 0 rfl) ?_
    refine va_get (D := D) (ci := 3) (v := .ref (ad 4)) (C := RX3) (T := TX3) (N := 11) hx hb ht iX3 hown hK hP 3 rfl rfl 0 (by decide) (ht _ kw_191) (fun _ h9 => h9) rfl dX3_findPoint_25 ?_
    refine va_get (D := D) (ci := 2) (v := .ref (ad 13)) (C := RX2) (T := TX2) (N := 13) hx hb ht iX2 hown hK hP 0 rfl rfl 8 (by decide) (ht _ kw_144) (fun _ h9 => h9) rfl dX3_findPoint_28 ?_
    refine lv_iload hx hb dX3_findPoint_31 (lv_at hl 8 rfl) ?_
    obtain ⟨g_3, h⟩ := zk_gd h
    obtain ⟨g_4, h⟩ := zk_gd h
    obtain ⟨hs_5, ⟨_, hj_6⟩, ⟨_, hj_7⟩⟩ := hSU _ (zs_lt2 g_4)
    refine va_aldq hx hb hK hP 1 5 rfl rfl g_3 dX3_findPoint_33 ?_
    refine W.eq (g2 := F0 m 34 ls [.ref (S_a x8.toNatClampNeg)]) (by rw [hs_5]; rfl) ?_
    refine lv_astore (lv' := [(9, .ref (S_a x8.toNatClampNeg)), (0, .ref (ad 15)), (1, .int x1), (2, .int x2), (3, .int x3), (4, .int x4), (5, .int x5), (6, .int x6), (7, .int x7), (8, .int x8)]) hx hb dX3_findPoint_34 hl (by decide) rfl (fun ls hl => ?_)
    refine lv_iload hx hb dX3_findPoint_36 (lv_at hl 9 rfl) ?_
    refine lv_iload hx hb dX3_findPoint_38 (lv_at hl 5 rfl) ?_
    refine lv_icmp_eq (tgt := 105) hx hb dX3_findPoint_40 (by decide) (fun c_8 => ?_) (fun c_8 => ?_)
    · have h := zk_t c_8 h
      exact L_X3_findPoint_105 C0 hK hA hSU hLA  ih12 x1 x2 x3 x4 x5 x6 x7 x8 inq_names inq_stack h H locs ls hP hD hS (lv_sub hl [1, 2, 3, 4, 5, 6, 7, 8, 9] rfl)
    · have h := zk_f c_8 h
      refine lv_aload hx hb dX3_findPoint_43 (lv_at hl 0 rfl) ?_
      refine lv_ifnull hx hb dX3_findPoint_45 ?_
      refine lv_aload hx hb dX3_findPoint_48 (lv_at hl 0 rfl) ?_
      refine lv_iload_n hx hb dX3_findPoint_50 rfl (lv_at hl 2 rfl) ?_
      obtain ⟨g_9, h⟩ := zk_gd h
      obtain ⟨hs_10, ⟨_, hj_11⟩, ⟨_, hj_12⟩⟩ := hSU _ (zs_lt2 g_9)
      obtain ⟨r_13, u_14, hc_15, h⟩ := zk_o2 h
      refine zk_viM (post := (fun r u => (r, u) = (r_13, u_14))) (As := [.int x1]) (rest := []) (c_X7_hasFound l D cs ad (S_a x8.toNatClampNeg) (S_b x8.toNatClampNeg) H.size x1 (S_who x8.toNatClampNeg) (S_against x8.toNatClampNeg) (S_kind x8.toNatClampNeg) (S_won x8.toNatClampNeg) (S_day x8.toNatClampNeg) (S_land x8.toNatClampNeg) (S_undoneFrom x8.toNatClampNeg) (S_askedCount x8.toNatClampNeg) (S_askedBits x8.toNatClampNeg) (S_first x8.toNatClampNeg) (S_foundSo x8.toNatClampNeg) (S_foundNot x8.toNatClampNeg) (S_fought x8.toNatClampNeg) (S_needed x8.toNatClampNeg) (r_13, u_14) hc_15) ⟨hx, hb, hml, hown, ht⟩ (cwV 1 ht g_X3_184 rfl rfl rfl ⟨rfl, hd_X7_hasFound⟩ ⟨Nat.le_of_ble_eq_true rfl, Nat.le_of_ble_eq_true rfl⟩) (va_recv hK hP (ci := 7) (q0 := _) rfl (zPm hj_11 rfl)) hP hD hS hK hA _ (zPm hj_11 rfl) rfl hl.1 (Nat.le_of_ble_eq_true rfl) dX3_findPoint_51 ⟨Nat.zero_le _, Nat.zero_le _⟩ (fun r u H locs hq hP hD hS => ?_)
      cases hq
      have hP : va_P D classes (wl_X3_findPoint ad cs PL S_a S_b L_a L_b court_shoeCount court_claimCount court_suitCount court_suits court_laws inq_day inq_land inq_shoeLeftOut inq_names inq_stack inq_boundAs S_who S_against S_kind S_won S_day S_land S_undoneFrom S_asked S_askedCount S_askedBits S_first S_foundSo S_foundNot S_fought S_needed L_n L_code) H := hP
      have hD : va_D A (wl_X3_findPoint ad cs PL S_a S_b L_a L_b court_shoeCount court_claimCount court_suitCount court_suits court_laws inq_day inq_land inq_shoeLeftOut inq_names inq_stack inq_boundAs S_who S_against S_kind S_won S_day S_land S_undoneFrom S_asked S_askedCount S_askedBits S_first S_foundSo S_foundNot S_fought S_needed L_n L_code) := hD
      refine lv_if_eq (tgt := 105) hx hb dX3_findPoint_54 (by decide) (fun c_16 => ?_) (fun c_16 => ?_)
      · have h := zk_t c_16 h
        exact L_X3_findPoint_105 C0 hK hA hSU hLA  ih12 x1 x2 x3 x4 x5 x6 x7 x8 inq_names inq_stack h H locs ls hP hD hS (lv_sub hl [1, 2, 3, 4, 5, 6, 7, 8, 9] rfl)
      · have h := zk_f c_16 h
        refine lv_aload_n hx hb dX3_findPoint_57 rfl (lv_at hl 1 rfl) ?_
        refine lv_aload hx hb dX3_findPoint_58 (lv_at hl 0 rfl) ?_
        refine lv_iload_n hx hb dX3_findPoint_60 rfl (lv_at hl 2 rfl) ?_
        refine lv_iload_n hx hb dX3_findPoint_61 rfl (lv_at hl 3 rfl) ?_
        refine lv_iload_n hx hb dX3_findPoint_62 rfl (lv_at hl 4 rfl) ?_
        obtain ⟨g_17, h⟩ := zk_gd h
        obtain ⟨hs_18, ⟨_, hj_19⟩, ⟨_, hj_20⟩⟩ := hSU _ (zs_lt2 g_17)
        obtain ⟨r_21, u_22, u_23, hc_24, h⟩ := zk_o3 h
        refine zz_viP (post := (fun r u => (r, u) = (r_21, u_22, u_23))) (w1 := fun u => (wx_X3_isSettling ad cs PL L_a L_b (S_a x8.toNatClampNeg) (S_b x8.toNatClampNeg) court_shoeCount court_claimCount court_suitCount court_laws inq_day inq_land inq_shoeLeftOut u.1 u.2 inq_boundAs (S_who x8.toNatClampNeg) (S_against x8.toNatClampNeg) (S_kind x8.toNatClampNeg) (S_won x8.toNatClampNeg) (S_day x8.toNatClampNeg) (S_land x8.toNatClampNeg) (S_undoneFrom x8.toNatClampNeg) (S_askedCount x8.toNatClampNeg) (S_askedBits x8.toNatClampNeg) (S_first x8.toNatClampNeg) (S_foundSo x8.toNatClampNeg) (S_foundNot x8.toNatClampNeg) (S_fought x8.toNatClampNeg) (S_needed x8.toNatClampNeg) L_n L_code)) (PL := PL) (As := [.ref (S_a x8.toNatClampNeg), .int x1, .int x2, .int x3]) (rest := []) (c_X3_isSettling l D cs ad PL L_a L_b (S_a x8.toNatClampNeg) (S_b x8.toNatClampNeg) H.size x1 x2 x3 court_shoeCount court_claimCount court_suitCount court_laws inq_day inq_land inq_shoeLeftOut inq_names inq_stack inq_boundAs (S_who x8.toNatClampNeg) (S_against x8.toNatClampNeg) (S_kind x8.toNatClampNeg) (S_won x8.toNatClampNeg) (S_day x8.toNatClampNeg) (S_land x8.toNatClampNeg) (S_undoneFrom x8.toNatClampNeg) (S_askedCount x8.toNatClampNeg) (S_askedBits x8.toNatClampNeg) (S_first x8.toNatClampNeg) (S_foundSo x8.toNatClampNeg) (S_foundNot x8.toNatClampNeg) (S_fought x8.toNatClampNeg) (S_needed x8.toNatClampNeg) L_n L_code hLA hj_19 (r_21, u_22, u_23) hc_24) ⟨hx, hb, hml, hown, ht⟩ (cwV 4 ht g_X3_188 rfl rfl rfl ⟨rfl, hd_X3_isSettling⟩ ⟨Nat.le_of_ble_eq_true rfl, Nat.le_of_ble_eq_true rfl⟩) (va_recv hK hP (ci := 3) (q0 := 3) rfl rfl) hP hD hS hK hA [0, 2, 3, 4, 5, 6] rfl rfl [(ad 4), (ad 14), (ad 15), (ad 16), (ad 17), (ad 20)] rfl (fun _ => rfl) rfl hl.1 (Nat.le_of_ble_eq_true rfl) dX3_findPoint_63 ⟨Nat.zero_le _, Nat.zero_le _⟩ (fun r u H locs hq hP hS => ?_)
        cases hq
        have hP : va_P D classes (wl_X3_findPoint ad cs PL S_a S_b L_a L_b court_shoeCount court_claimCount court_suitCount court_suits court_laws inq_day inq_land inq_shoeLeftOut u_22 u_23 inq_boundAs S_who S_against S_kind S_won S_day S_land S_undoneFrom S_asked S_askedCount S_askedBits S_first S_foundSo S_foundNot S_fought S_needed L_n L_code) H := hP
        have hD : va_D A (wl_X3_findPoint ad cs PL S_a S_b L_a L_b court_shoeCount court_claimCount court_suitCount court_suits court_laws inq_day inq_land inq_shoeLeftOut u_22 u_23 inq_boundAs S_who S_against S_kind S_won S_day S_land S_undoneFrom S_asked S_askedCount S_askedBits S_first S_foundSo S_foundNot S_fought S_needed L_n L_code) := zDkp hD [(ad 4), (ad 13), (ad 14), (ad 15), (ad 16), (ad 17), (ad 20)] rfl rfl
        refine lv_if_eq (tgt := 105) hx hb dX3_findPoint_66 (by decide) (fun c_25 => ?_) (fun c_25 => ?_)
        · have h := zk_t c_25 h
          exact L_X3_findPoint_105 C0 hK hA hSU hLA  ih12 x1 x2 x3 x4 x5 x6 x7 x8 u_22 u_23 h H locs ls hP hD hS (lv_sub hl [1, 2, 3, 4, 5, 6, 7, 8, 9] rfl)
        · have h := zk_f c_25 h
          refine lv_iload hx hb dX3_findPoint_69 (lv_at hl 6 rfl) ?_
          refine lv_aload hx hb dX3_findPoint_71 (lv_at hl 0 rfl) ?_
          refine lv_iload_n hx hb dX3_findPoint_73 rfl (lv_at hl 2 rfl) ?_
          obtain ⟨g_26, h⟩ := zk_gd h
          obtain ⟨hs_27, ⟨_, hj_28⟩, ⟨_, hj_29⟩⟩ := hSU _ (zs_lt2 g_26)
          obtain ⟨r_30, u_31, hc_32, h⟩ := zk_o2 h
          refine zk_viM (post := (fun r u => (r, u) = (r_30, u_31))) (As := [.int x1]) (rest := [.int x5]) (c_X7_wayOf l D cs ad (S_a x8.toNatClampNeg) (S_b x8.toNatClampNeg) H.size x1 (S_who x8.toNatClampNeg) (S_against x8.toNatClampNeg) (S_kind x8.toNatClampNeg) (S_won x8.toNatClampNeg) (S_day x8.toNatClampNeg) (S_land x8.toNatClampNeg) (S_undoneFrom x8.toNatClampNeg) (S_askedCount x8.toNatClampNeg) (S_askedBits x8.toNatClampNeg) (S_first x8.toNatClampNeg) (S_foundSo x8.toNatClampNeg) (S_foundNot x8.toNatClampNeg) (S_fought x8.toNatClampNeg) (S_needed x8.toNatClampNeg) (r_30, u_31) hc_32) ⟨hx, hb, hml, hown, ht⟩ (cwV 1 ht g_X3_192 rfl rfl rfl ⟨rfl, hd_X7_wayOf⟩ ⟨Nat.le_of_ble_eq_true rfl, Nat.le_of_ble_eq_true rfl⟩) (va_recv hK hP (ci := 7) (q0 := _) rfl (zPm hj_28 rfl)) hP hD hS hK hA _ (zPm hj_28 rfl) rfl hl.1 (Nat.le_of_ble_eq_true rfl) dX3_findPoint_74 ⟨Nat.zero_le _, Nat.zero_le _⟩ (fun r u H locs hq hP hD hS => ?_)
          cases hq
          have hP : va_P D classes (wl_X3_findPoint ad cs PL S_a S_b L_a L_b court_shoeCount court_claimCount court_suitCount court_suits court_laws inq_day inq_land inq_shoeLeftOut u_22 u_23 inq_boundAs S_who S_against S_kind S_won S_day S_land S_undoneFrom S_asked S_askedCount S_askedBits S_first S_foundSo S_foundNot S_fought S_needed L_n L_code) H := hP
          have hD : va_D A (wl_X3_findPoint ad cs PL S_a S_b L_a L_b court_shoeCount court_claimCount court_suitCount court_suits court_laws inq_day inq_land inq_shoeLeftOut u_22 u_23 inq_boundAs S_who S_against S_kind S_won S_day S_land S_undoneFrom S_asked S_askedCount S_askedBits S_first S_foundSo S_foundNot S_fought S_needed L_n L_code) := hD
          refine lv_ior hx hb dX3_findPoint_77 ?_
          obtain ⟨v_33, ev_33, h⟩ := zk_lt h
          refine W.eq (g2 := F0 m 78 ls [.int v_33]) (by rw [ev_33]) ?_
          refine lv_istore (lv' := [(5, .int v_33), (9, .ref (S_a x8.toNatClampNeg)), (0, .ref (ad 15)), (1, .int x1), (2, .int x2), (3, .int x3), (4, .int x4), (6, .int x6), (7, .int x7), (8, .int x8)]) hx hb dX3_findPoint_78 hl (by decide) rfl (fun ls hl => ?_)
          refine lv_aload hx hb dX3_findPoint_80 (lv_at hl 1 rfl) ?_
          obtain ⟨g_34, h⟩ := zk_gd h
          obtain ⟨hs_35, ⟨_, hj_36⟩, ⟨_, hj_37⟩⟩ := hSU _ (zs_lt2 g_34)
          refine va_get (D := D) (ci := 7) (v := .int (S_day x8.toNatClampNeg)) (C := RX7) (T := TX7) (N := 15) hx hb ht iX7 hown hK hP _ (zPm hj_36 rfl) rfl 4 (by decide) (ht _ kw_322) (fun _ h9 => h9) rfl dX3_findPoint_82 ?_
          refine lv_iload hx hb dX3_findPoint_85 (lv_at hl 8 rfl) ?_
          refine lv_icmp_lt (tgt := 105) hx hb dX3_findPoint_87 (by decide) (fun c_38 => ?_) (fun c_38 => ?_)
          · have h := zk_t c_38 h
            exact L_X3_findPoint_105 C0 hK hA hSU hLA  ih12 x1 x2 x3 x4 v_33 x6 x7 x8 u_22 u_23 h H locs ls hP hD hS (lv_sub hl [2, 3, 4, 5, 6, 0, 7, 8, 9] rfl)
          · have h := zk_f c_38 h
            refine lv_aload hx hb dX3_findPoint_90 (lv_at hl 1 rfl) ?_
            refine lv_iload_n hx hb dX3_findPoint_92 rfl (lv_at hl 3 rfl) ?_
            obtain ⟨g_39, h⟩ := zk_gd h
            obtain ⟨hs_40, ⟨_, hj_41⟩, ⟨_, hj_42⟩⟩ := hSU _ (zs_lt2 g_39)
            obtain ⟨r_43, u_44, hc_45, h⟩ := zk_o2 h
            refine zk_viM (post := (fun r u => (r, u) = (r_43, u_44))) (As := [.int x1]) (rest := []) (c_X7_wayOf l D cs ad (S_a x8.toNatClampNeg) (S_b x8.toNatClampNeg) H.size x1 (S_who x8.toNatClampNeg) (S_against x8.toNatClampNeg) (S_kind x8.toNatClampNeg) (S_won x8.toNatClampNeg) (S_day x8.toNatClampNeg) (S_land x8.toNatClampNeg) (S_undoneFrom x8.toNatClampNeg) (S_askedCount x8.toNatClampNeg) (S_askedBits x8.toNatClampNeg) (S_first x8.toNatClampNeg) (S_foundSo x8.toNatClampNeg) (S_foundNot x8.toNatClampNeg) (S_fought x8.toNatClampNeg) (S_needed x8.toNatClampNeg) (r_43, u_44) hc_45) ⟨hx, hb, hml, hown, ht⟩ (cwV 1 ht g_X3_192 rfl rfl rfl ⟨rfl, hd_X7_wayOf⟩ ⟨Nat.le_of_ble_eq_true rfl, Nat.le_of_ble_eq_true rfl⟩) (va_recv hK hP (ci := 7) (q0 := _) rfl (zPm hj_41 rfl)) hP hD hS hK hA _ (zPm hj_41 rfl) rfl hl.1 (Nat.le_of_ble_eq_true rfl) dX3_findPoint_93 ⟨Nat.zero_le _, Nat.zero_le _⟩ (fun r u H locs hq hP hD hS => ?_)
            cases hq
            have hP : va_P D classes (wl_X3_findPoint ad cs PL S_a S_b L_a L_b court_shoeCount court_claimCount court_suitCount court_suits court_laws inq_day inq_land inq_shoeLeftOut u_22 u_23 inq_boundAs S_who S_against S_kind S_won S_day S_land S_undoneFrom S_asked S_askedCount S_askedBits S_first S_foundSo S_foundNot S_fought S_needed L_n L_code) H := hP
            have hD : va_D A (wl_X3_findPoint ad cs PL S_a S_b L_a L_b court_shoeCount court_claimCount court_suitCount court_suits court_laws inq_day inq_land inq_shoeLeftOut u_22 u_23 inq_boundAs S_who S_against S_kind S_won S_day S_land S_undoneFrom S_asked S_askedCount S_askedBits S_first S_foundSo S_foundNot S_fought S_needed L_n L_code) := hD
            refine lv_istore (lv' := [(6, .int r_43), (5, .int v_33), (9, .ref (S_a x8.toNatClampNeg)), (0, .ref (ad 15)), (1, .int x1), (2, .int x2), (3, .int x3), (4, .int x4), (7, .int x7), (8, .int x8)]) hx hb dX3_findPoint_96 hl (by decide) rfl (fun ls hl => ?_)
            refine lv_aload hx hb dX3_findPoint_98 (lv_at hl 2 rfl) ?_
            obtain ⟨g_46, h⟩ := zk_gd h
            obtain ⟨hs_47, ⟨_, hj_48⟩, ⟨_, hj_49⟩⟩ := hSU _ (zs_lt2 g_46)
            refine va_get (D := D) (ci := 7) (v := .int (S_day x8.toNatClampNeg)) (C := RX7) (T := TX7) (N := 15) hx hb ht iX7 hown hK hP _ (zPm hj_48 rfl) rfl 4 (by decide) (ht _ kw_322) (fun _ h9 => h9) rfl dX3_findPoint_100 ?_
            obtain ⟨v_50, ev_50, h⟩ := zk_lt h
            refine W.eq (g2 := F0 m 103 ls [.int v_50]) (by rw [ev_50]) ?_
            refine lv_istore (lv' := [(7, .int v_50), (6, .int r_43), (5, .int v_33), (9, .ref (S_a x8.toNatClampNeg)), (0, .ref (ad 15)), (1, .int x1), (2, .int x2), (3, .int x3), (4, .int x4), (8, .int x8)]) hx hb dX3_findPoint_103 hl (by decide) rfl (fun ls hl => ?_)
            exact L_X3_findPoint_105 C0 hK hA hSU hLA  ih12 x1 x2 x3 x4 v_33 r_43 v_50 x8 u_22 u_23 h H locs ls hP hD hS (lv_sub hl [4, 5, 6, 7, 8, 2, 1, 0, 9] rfl)
set_option maxHeartbeats 4000000 in
set_option maxRecDepth 100000 in
theorem L_X3_findPoint_0 {p : Program} {l : Launch} {e : Env} {s : State} {m : MethodId} {args : Array Value} {below : List Frame} {meth : Method} {c : Code} {A : Nat → Prop} {D : va_G} {cs : Nat → ClassId} {ad : Nat → Nat} {PL : va_W} {S_a : Nat → Nat} {S_b : Nat → Nat} {L_a : Nat → Nat} {L_b : Nat → Nat} {court_shoeCount : Int32} {court_claimCount : Int32} {court_suitCount : Int32} {court_suits : Nat → Option Nat} {court_laws : Nat → Option Nat} {inq_day : Int32} {inq_land : Int32} {inq_shoeLeftOut : Int32} {inq_boundAs : Nat → Int32} {S_who : Nat → Int32} {S_against : Nat → Int32} {S_kind : Nat → Int32} {S_won : Nat → Int32} {S_day : Nat → Int32} {S_land : Nat → Int32} {S_undoneFrom : Nat → Int32} {S_asked : Nat → Nat → Int32} {S_askedCount : Nat → Int32} {S_askedBits : Nat → Int32} {S_first : Nat → Int32} {S_foundSo : Nat → Int32} {S_foundNot : Nat → Int32} {S_fought : Nat → Int32} {S_needed : Nat → Int32} {L_n : Nat → Nat} {L_code : Nat → Nat → Int32} {R : Int32 × (Nat → Int32) × (Nat → Int32)} {g12 : Int32 → Int32 → Int32 → Int32 → Int32 → Int32 → Int32 → Int32 → (Nat → Int32) → (Nat → Int32) → (Option (Int32 × (Nat → Int32) × (Nat → Int32)))} (C0 : zC p s m args meth c cX3_findPoint 10 (some .int) RX3 zW) (hK : va_K D classes (zT cs) s) (hA : ∀ q : Nat, s.heap.size ≤ q → A q) (hSU : PSu cs PL court_suitCount court_suits S_a S_b S_who S_against S_kind S_won S_day S_land S_undoneFrom S_asked S_askedCount S_askedBits S_first S_foundSo S_foundNot S_fought S_needed) (hLA : PLa cs PL court_laws L_a L_b L_n L_code) (ih12 : ∀ (x1 : Int32) (x2 : Int32) (x3 : Int32) (x4 : Int32) (x5 : Int32) (x6 : Int32) (x7 : Int32) (x8 : Int32) (inq_names : Nat → Int32) (inq_stack : Nat → Int32) (h : g12 x1 x2 x3 x4 x5 x6 x7 x8 inq_names inq_stack = some R) (H : Heap) (locs : List Loc) (ls : Array Slot) (hP : va_P D classes (wl_X3_findPoint ad cs PL S_a S_b L_a L_b court_shoeCount court_claimCount court_suitCount court_suits court_laws inq_day inq_land inq_shoeLeftOut inq_names inq_stack inq_boundAs S_who S_against S_kind S_won S_day S_land S_undoneFrom S_asked S_askedCount S_askedBits S_first S_foundSo S_foundNot S_fought S_needed L_n L_code) H) (hD : va_D A (wl_X3_findPoint ad cs PL S_a S_b L_a L_b court_shoeCount court_claimCount court_suitCount court_suits court_laws inq_day inq_land inq_shoeLeftOut inq_names inq_stack inq_boundAs S_who S_against S_kind S_won S_day S_land S_undoneFrom S_asked S_askedCount S_askedBits S_first S_foundSo S_foundNot S_fought S_needed L_n L_code)) (hS : va_S A s.heap H locs) (hl : lv_has ls 10 [(0, .ref (ad 15)), (1, .int x1), (2, .int x2), (3, .int x3), (4, .int x4), (5, .int x5), (6, .int x6), (7, .int x7), (8, .int x8)]), W p l e rm_X3_findPoint s m args below meth c H locs 0 0 (MQ below (Q_X3_findPoint D cs ad PL S_a S_b L_a L_b court_shoeCount court_claimCount court_suitCount court_suits court_laws inq_day inq_land inq_shoeLeftOut inq_boundAs S_who S_against S_kind S_won S_day S_land S_undoneFrom S_asked S_askedCount S_askedBits S_first S_foundSo S_foundNot S_fought S_needed L_n L_code A R) args s 0 0 A) (F0 m 12 ls [])) (x1 : Int32) (x2 : Int32) (x3 : Int32) (x4 : Int32) (inq_names : Nat → Int32) (inq_stack : Nat → Int32) (h : B_X3_findPoint_0 g12 court_shoeCount court_claimCount court_suitCount court_suits court_laws inq_day inq_land inq_shoeLeftOut inq_boundAs S_who S_against S_kind S_won S_day S_land S_undoneFrom S_asked S_askedCount S_askedBits S_first S_foundSo S_foundNot S_fought S_needed L_n L_code x1 x2 x3 x4 inq_names inq_stack = some R) (H : Heap) (locs : List Loc) (ls : Array Slot) (hP : va_P D classes (wl_X3_findPoint ad cs PL S_a S_b L_a L_b court_shoeCount court_claimCount court_suitCount court_suits court_laws inq_day inq_land inq_shoeLeftOut inq_names inq_stack inq_boundAs S_who S_against S_kind S_won S_day S_land S_undoneFrom S_asked S_askedCount S_askedBits S_first S_foundSo S_foundNot S_fought S_needed L_n L_code) H) (hD : va_D A (wl_X3_findPoint ad cs PL S_a S_b L_a L_b court_shoeCount court_claimCount court_suitCount court_suits court_laws inq_day inq_land inq_shoeLeftOut inq_names inq_stack inq_boundAs S_who S_against S_kind S_won S_day S_land S_undoneFrom S_asked S_askedCount S_askedBits S_first S_foundSo S_foundNot S_fought S_needed L_n L_code)) (hS : va_S A s.heap H locs) (hl : lv_has ls 10 [(0, .ref (ad 15)), (1, .int x1), (2, .int x2), (3, .int x3), (4, .int x4)]) : W p l e rm_X3_findPoint s m args below meth c H locs 0 0 (MQ below (Q_X3_findPoint D cs ad PL S_a S_b L_a L_b court_shoeCount court_claimCount court_suitCount court_suits court_laws inq_day inq_land inq_shoeLeftOut inq_boundAs S_who S_against S_kind S_won S_day S_land S_undoneFrom S_asked S_askedCount S_askedBits S_first S_foundSo S_foundNot S_fought S_needed L_n L_code A R) args s 0 0 A) (F0 m 0 ls []) := by
  obtain ⟨hx, hb, hr, hml, hown, ht, hlocks⟩ := id C0
  refine lv_iconst (v := (0 : Int32)) hx hb dX3_findPoint_0 (by decide) ?_
  refine lv_istore (lv' := [(5, .int (0 : Int32)), (0, .ref (ad 15)), (1, .int x1), (2, .int x2), (3, .int x3), (4, .int x4)]) hx hb dX3_findPoint_1 hl (by decide) rfl (fun ls hl => ?_)
  refine lv_iconst (v := (0 : Int32)) hx hb dX3_findPoint_3 (by decide) ?_
  refine lv_istore (lv' := [(6, .int (0 : Int32)), (5, .int (0 : Int32)), (0, .ref (ad 15)), (1, .int x1), (2, .int x2), (3, .int x3), (4, .int x4)]) hx hb dX3_findPoint_4 hl (by decide) rfl (fun ls hl => ?_)
  refine lv_iconst (v := (-1 : Int32)) hx hb dX3_findPoint_6 (by decide) ?_
  refine lv_istore (lv' := [(7, .int (-1 : Int32)), (6, .int (0 : Int32)), (5, .int (0 : Int32)), (0, .ref (ad 15)), (1, .int x1), (2, .int x2), (3, .int x3), (4, .int x4)]) hx hb dX3_findPoint_7 hl (by decide) rfl (fun ls hl => ?_)
  refine lv_iconst (v := (0 : Int32)) hx hb dX3_findPoint_9 (by decide) ?_
  refine lv_istore (lv' := [(8, .int (0 : Int32)), (7, .int (-1 : Int32)), (6, .int (0 : Int32)), (5, .int (0 : Int32)), (0, .ref (ad 15)), (1, .int x1), (2, .int x2), (3, .int x3), (4, .int x4)]) hx hb dX3_findPoint_10 hl (by decide) rfl (fun ls hl => ?_)
  exact ih12 x1 x2 x3 x4 (0 : Int32) (0 : Int32) (-1 : Int32) (0 : Int32) inq_names inq_stack h H locs ls hP hD hS (lv_sub hl [4, 5, 6, 7, 8, 3, 2, 1, 0] rfl)
theorem LG_X3_findPoint {p : Program} {l : Launch} {e : Env} {s : State} {m : MethodId} {args : Array Value} {below : List Frame} {meth : Method} {c : Code} {A : Nat → Prop} {D : va_G} {cs : Nat → ClassId} {ad : Nat → Nat} {PL : va_W} {S_a : Nat → Nat} {S_b : Nat → Nat} {L_a : Nat → Nat} {L_b : Nat → Nat} {court_shoeCount : Int32} {court_claimCount : Int32} {court_suitCount : Int32} {court_suits : Nat → Option Nat} {court_laws : Nat → Option Nat} {inq_day : Int32} {inq_land : Int32} {inq_shoeLeftOut : Int32} {inq_boundAs : Nat → Int32} {S_who : Nat → Int32} {S_against : Nat → Int32} {S_kind : Nat → Int32} {S_won : Nat → Int32} {S_day : Nat → Int32} {S_land : Nat → Int32} {S_undoneFrom : Nat → Int32} {S_asked : Nat → Nat → Int32} {S_askedCount : Nat → Int32} {S_askedBits : Nat → Int32} {S_first : Nat → Int32} {S_foundSo : Nat → Int32} {S_foundNot : Nat → Int32} {S_fought : Nat → Int32} {S_needed : Nat → Int32} {L_n : Nat → Nat} {L_code : Nat → Nat → Int32} {R : Int32 × (Nat → Int32) × (Nat → Int32)} (C0 : zC p s m args meth c cX3_findPoint 10 (some .int) RX3 zW) (hK : va_K D classes (zT cs) s) (hA : ∀ q : Nat, s.heap.size ≤ q → A q) (hSU : PSu cs PL court_suitCount court_suits S_a S_b S_who S_against S_kind S_won S_day S_land S_undoneFrom S_asked S_askedCount S_askedBits S_first S_foundSo S_foundNot S_fought S_needed) (hLA : PLa cs PL court_laws L_a L_b L_n L_code) : ∀ n : Nat, (∀ (x1 : Int32) (x2 : Int32) (x3 : Int32) (x4 : Int32) (x5 : Int32) (x6 : Int32) (x7 : Int32) (x8 : Int32) (inq_names : Nat → Int32) (inq_stack : Nat → Int32) (h : (G_X3_findPoint   court_shoeCount court_claimCount court_suitCount court_suits court_laws inq_day inq_land inq_shoeLeftOut inq_boundAs S_who S_against S_kind S_won S_day S_land S_undoneFrom S_asked S_askedCount S_askedBits S_first S_foundSo S_foundNot S_fought S_needed L_n L_code n) x1 x2 x3 x4 x5 x6 x7 x8 inq_names inq_stack = some R) (H : Heap) (locs : List Loc) (ls : Array Slot) (hP : va_P D classes (wl_X3_findPoint ad cs PL S_a S_b L_a L_b court_shoeCount court_claimCount court_suitCount court_suits court_laws inq_day inq_land inq_shoeLeftOut inq_names inq_stack inq_boundAs S_who S_against S_kind S_won S_day S_land S_undoneFrom S_asked S_askedCount S_askedBits S_first S_foundSo S_foundNot S_fought S_needed L_n L_code) H) (hD : va_D A (wl_X3_findPoint ad cs PL S_a S_b L_a L_b court_shoeCount court_claimCount court_suitCount court_suits court_laws inq_day inq_land inq_shoeLeftOut inq_names inq_stack inq_boundAs S_who S_against S_kind S_won S_day S_land S_undoneFrom S_asked S_askedCount S_askedBits S_first S_foundSo S_foundNot S_fought S_needed L_n L_code)) (hS : va_S A s.heap H locs) (hl : lv_has ls 10 [(0, .ref (ad 15)), (1, .int x1), (2, .int x2), (3, .int x3), (4, .int x4), (5, .int x5), (6, .int x6), (7, .int x7), (8, .int x8)]), W p l e rm_X3_findPoint s m args below meth c H locs 0 0 (MQ below (Q_X3_findPoint D cs ad PL S_a S_b L_a L_b court_shoeCount court_claimCount court_suitCount court_suits court_laws inq_day inq_land inq_shoeLeftOut inq_boundAs S_who S_against S_kind S_won S_day S_land S_undoneFrom S_asked S_askedCount S_askedBits S_first S_foundSo S_foundNot S_fought S_needed L_n L_code A R) args s 0 0 A) (F0 m 12 ls [])) := by
  intro n
  induction n with
  | zero =>
    refine ?_ <;> (intros; rename_i h _ _ _ _ _ _ _; cases h)
  | succ n ih =>
    exact L_X3_findPoint_12 C0 hK hA hSU hLA  ih
set_option maxHeartbeats 4000000 in
set_option maxRecDepth 100000 in
theorem c_X3_findPoint (l : Launch) (D : va_G) (cs : Nat → ClassId) (ad : Nat → Nat) (PL : va_W) (S_a : Nat → Nat) (S_b : Nat → Nat) (L_a : Nat → Nat) (L_b : Nat → Nat) (sz : Nat) (n : Nat) (x1 : Int32) (x2 : Int32) (x3 : Int32) (x4 : Int32) (court_shoeCount : Int32) (court_claimCount : Int32) (court_suitCount : Int32) (court_suits : Nat → Option Nat) (court_laws : Nat → Option Nat) (inq_day : Int32) (inq_land : Int32) (inq_shoeLeftOut : Int32) (inq_names : Nat → Int32) (inq_stack : Nat → Int32) (inq_boundAs : Nat → Int32) (S_who : Nat → Int32) (S_against : Nat → Int32) (S_kind : Nat → Int32) (S_won : Nat → Int32) (S_day : Nat → Int32) (S_land : Nat → Int32) (S_undoneFrom : Nat → Int32) (S_asked : Nat → Nat → Int32) (S_askedCount : Nat → Int32) (S_askedBits : Nat → Int32) (S_first : Nat → Int32) (S_foundSo : Nat → Int32) (S_foundNot : Nat → Int32) (S_fought : Nat → Int32) (S_needed : Nat → Int32) (L_n : Nat → Nat) (L_code : Nat → Nat → Int32) (hSU : PSu cs PL court_suitCount court_suits S_a S_b S_who S_against S_kind S_won S_day S_land S_undoneFrom S_asked S_askedCount S_askedBits S_first S_foundSo S_foundNot S_fought S_needed) (hLA : PLa cs PL court_laws L_a L_b L_n L_code) (R : Int32 × (Nat → Int32) × (Nat → Int32)) (h : f_X3_findPoint   n x1 x2 x3 x4 court_shoeCount court_claimCount court_suitCount court_suits court_laws inq_day inq_land inq_shoeLeftOut inq_names inq_stack inq_boundAs S_who S_against S_kind S_won S_day S_land S_undoneFrom S_asked S_askedCount S_askedBits S_first S_foundSo S_foundNot S_fought S_needed L_n L_code = some R) : Met l yX3_findPoint (z_X3_findPoint) rm_X3_findPoint (va_Pc [.ref (ad 15), .int x1, .int x2, .int x3, .int x4] (zPre D cs (wl_X3_findPoint ad cs PL S_a S_b L_a L_b court_shoeCount court_claimCount court_suitCount court_suits court_laws inq_day inq_land inq_shoeLeftOut inq_names inq_stack inq_boundAs S_who S_against S_kind S_won S_day S_land S_undoneFrom S_asked S_askedCount S_askedBits S_first S_foundSo S_foundNot S_fought S_needed L_n L_code) sz)) (Q_X3_findPoint D cs ad PL S_a S_b L_a L_b court_shoeCount court_claimCount court_suitCount court_suits court_laws inq_day inq_land inq_shoeLeftOut inq_boundAs S_who S_against S_kind S_won S_day S_land S_undoneFrom S_asked S_askedCount S_askedBits S_first S_foundSo S_foundNot S_fought S_needed L_n L_code (va_A (wl_X3_findPoint ad cs PL S_a S_b L_a L_b court_shoeCount court_claimCount court_suitCount court_suits court_laws inq_day inq_land inq_shoeLeftOut inq_names inq_stack inq_boundAs S_who S_against S_kind S_won S_day S_land S_undoneFrom S_asked S_askedCount S_askedBits S_first S_foundSo S_foundNot S_fought S_needed L_n L_code) sz) R) 0 0 (va_A (wl_X3_findPoint ad cs PL S_a S_b L_a L_b court_shoeCount court_claimCount court_suitCount court_suits court_laws inq_day inq_land inq_shoeLeftOut inq_names inq_stack inq_boundAs S_who S_against S_kind S_won S_day S_land S_undoneFrom S_asked S_askedCount S_askedBits S_first S_foundSo S_foundNot S_fought S_needed L_n L_code) sz) := by
  refine Met.ofW (cc := cX3_findPoint) (maxL := 10) (ret := (some .int)) (by decide) rfl ?_
  intro p e s m args below meth c s₁ B hml hv
  obtain ⟨rfl, hsz, hP, hK, hD0⟩ := hv
  subst hsz
  have hD := hD0.self (sz := s.heap.size)
  have C0 : zC p s m _ meth c cX3_findPoint 10 (some .int) RX3 zW := ⟨B.exec, B.bytes, B.returns, hml, findClass_of_methodNamed B.named, fun w hw => atoms_spec (ws := z_X3_findPoint) B.pre w (List.mem_cons_of_mem _ hw), B.notSynchronized⟩
  have hA : ∀ q : Nat, s.heap.size ≤ q → va_A (wl_X3_findPoint ad cs PL S_a S_b L_a L_b court_shoeCount court_claimCount court_suitCount court_suits court_laws inq_day inq_land inq_shoeLeftOut inq_names inq_stack inq_boundAs S_who S_against S_kind S_won S_day S_land S_undoneFrom S_asked S_askedCount S_askedBits S_first S_foundSo S_foundNot S_fought S_needed L_n L_code) s.heap.size q := fun q h => Or.inr h
  have hl := lv_entry ([.ref (ad 15), .int x1, .int x2, .int x3, .int x4]) (n := 10) (Nat.le_of_ble_eq_true rfl)
  rw [lg_entry_eq]
  generalize (lg_sl ([.ref (ad 15), .int x1, .int x2, .int x3, .int x4]) ++ List.replicate (10 - (lg_sl ([.ref (ad 15), .int x1, .int x2, .int x3, .int x4])).length) Slot.unset).toArray = ls at hl ⊢
  exact L_X3_findPoint_0 C0 hK hA hSU hLA  ((LG_X3_findPoint C0 hK hA hSU hLA  n)) x1 x2 x3 x4 inq_names inq_stack h s.heap [] ls hP hD va_S.rf hl
theorem kw_93 : Cond.initialized "java/lang/System" ∈ zW := zwC (i := 19) zc_1 rfl rfl
theorem kw_664 : Cond.static arraycopyName ∈ zW := zwC (i := 110) zc_3 rfl rfl
theorem kw_665 : Cond.native arraycopyName ∈ zW := zwC (i := 111) zc_3 rfl rfl
theorem kw_781 : Cond.methodLink RX1 43 arraycopyName ∈ zW := zwC (i := 227) zc_3 rfl rfl
theorem zh_cX1_dropOldest_0 : zck [42, 4, 42, 3, 42, 190, 4, 100, 184, 0, 43, 177] (zdu 0 cX1_dropOldest.data.toList) = true := by decide +kernel
theorem dX1_dropOldest_0 : decode cX1_dropOldest 0 = .ok (.aload_n 0, 1) := zo_42 zh_cX1_dropOldest_0 0 rfl
theorem dX1_dropOldest_1 : decode cX1_dropOldest 1 = .ok (.iconst 1, 1) := zo_4 zh_cX1_dropOldest_0 1 rfl
theorem dX1_dropOldest_2 : decode cX1_dropOldest 2 = .ok (.aload_n 0, 1) := zo_42 zh_cX1_dropOldest_0 2 rfl
theorem dX1_dropOldest_3 : decode cX1_dropOldest 3 = .ok (.iconst 0, 1) := zo_3 zh_cX1_dropOldest_0 3 rfl
theorem dX1_dropOldest_4 : decode cX1_dropOldest 4 = .ok (.aload_n 0, 1) := zo_42 zh_cX1_dropOldest_0 4 rfl
theorem dX1_dropOldest_5 : decode cX1_dropOldest 5 = .ok (.arraylength, 1) := zo_190 zh_cX1_dropOldest_0 5 rfl
theorem dX1_dropOldest_6 : decode cX1_dropOldest 6 = .ok (.iconst 1, 1) := zo_4 zh_cX1_dropOldest_0 6 rfl
theorem dX1_dropOldest_7 : decode cX1_dropOldest 7 = .ok (.isub, 1) := zo_100 zh_cX1_dropOldest_0 7 rfl
theorem dX1_dropOldest_8 : decode cX1_dropOldest 8 = .ok (.invokestatic 43, 3) := zo_184 zh_cX1_dropOldest_0 8 rfl
theorem dX1_dropOldest_11 : decode cX1_dropOldest 11 = .ok (.return_, 1) := zo_177 zh_cX1_dropOldest_0 11 rfl
abbrev z_X1_dropOldest : List Cond := .code yX1_dropOldest cX1_dropOldest 1 none :: zW
abbrev wl_X1_dropOldest (ad : Nat → Nat) (cs : Nat → ClassId) (h_arI_a : Nat) (arI_a : Nat → Int32) (arI_a_n : Nat) : va_W := [(h_arI_a, .inl (cs 0, arI_a_n, .inl arI_a))]
def Q_X1_dropOldest (D : va_G) (cs : Nat → ClassId) (ad : Nat → Nat) (h_arI_a : Nat) (arI_a_n : Nat) (A : Nat → Prop) (R : (Nat → Int32)) : Array Value → State → Outcome → State → Prop :=
  va_Qv (fun u : (Nat → Int32) => u = R) (fun (u : (Nat → Int32)) (t : State) => va_P D classes (wl_X1_dropOldest ad cs h_arI_a u arI_a_n) t.heap ∧ va_D A (wl_X1_dropOldest ad cs h_arI_a u arI_a_n)) A
abbrev rm_X1_dropOldest : Room := { frames := 1, cells := 0, slots := 0, locals := 40 }
def B_X1_dropOldest_0    (arI_a_n : Nat) (arI_a : Nat → Int32) : Option ((Nat → Int32)) :=
  (if ((1 : Int32) < 0 ∨ (0 : Int32) < 0 ∨ ((Int32.ofNat arI_a_n) - (1 : Int32)) < 0 ∨ arI_a_n < (1 : Int32).toNatClampNeg + ((Int32.ofNat arI_a_n) - (1 : Int32)).toNatClampNeg ∨ arI_a_n < (0 : Int32).toNatClampNeg + ((Int32.ofNat arI_a_n) - (1 : Int32)).toNatClampNeg) then none else (zk_let (va_cpy arI_a arI_a (1 : Int32).toNatClampNeg (0 : Int32).toNatClampNeg ((Int32.ofNat arI_a_n) - (1 : Int32)).toNatClampNeg) (fun f_2 => (some f_2))))
def f_X1_dropOldest    (arI_a : Nat → Int32) (arI_a_n : Nat) : Option ((Nat → Int32)) := B_X1_dropOldest_0   arI_a_n  arI_a
set_option maxHeartbeats 4000000 in
set_option maxRecDepth 100000 in
theorem L_X1_dropOldest_0 {p : Program} {l : Launch} {e : Env} {s : State} {m : MethodId} {args : Array Value} {below : List Frame} {meth : Method} {c : Code} {A : Nat → Prop} {D : va_G} {cs : Nat → ClassId} {ad : Nat → Nat} {h_arI_a : Nat} {arI_a_n : Nat} {R : (Nat → Int32)} (C0 : zC p s m args meth c cX1_dropOldest 1 none RX1 zW) (hK : va_K D classes (zT cs) s) (hA : ∀ q : Nat, s.heap.size ≤ q → A q) (arI_a : Nat → Int32) (h : B_X1_dropOldest_0 arI_a_n arI_a = some R) (H : Heap) (locs : List Loc) (ls : Array Slot) (hP : va_P D classes (wl_X1_dropOldest ad cs h_arI_a arI_a arI_a_n) H) (hD : va_D A (wl_X1_dropOldest ad cs h_arI_a arI_a arI_a_n)) (hS : va_S A s.heap H locs) (hl : lv_has ls 1 [(0, .ref h_arI_a)]) : W p l e rm_X1_dropOldest s m args below meth c H locs 0 0 (MQ below (Q_X1_dropOldest D cs ad h_arI_a arI_a_n A R) args s 0 0 A) (F0 m 0 ls []) := by
  obtain ⟨hx, hb, hr, hml, hown, ht, hlocks⟩ := id C0
  refine lv_aload_n hx hb dX1_dropOldest_0 rfl (lv_at hl 0 rfl) ?_
  refine lv_iconst (v := (1 : Int32)) hx hb dX1_dropOldest_1 (by decide) ?_
  refine lv_aload_n hx hb dX1_dropOldest_2 rfl (lv_at hl 0 rfl) ?_
  refine lv_iconst (v := (0 : Int32)) hx hb dX1_dropOldest_3 (by decide) ?_
  refine lv_aload_n hx hb dX1_dropOldest_4 rfl (lv_at hl 0 rfl) ?_
  refine va_alen (v := Int32.ofNat arI_a_n) hx hb hK hP 0 0 rfl rfl rfl dX1_dropOldest_5 ?_
  refine lv_iconst (v := (1 : Int32)) hx hb dX1_dropOldest_6 (by decide) ?_
  refine lv_isub hx hb dX1_dropOldest_7 ?_
  obtain ⟨g_1, h⟩ := zk_gd h
  obtain ⟨f_2, ef_2, h⟩ := zk_lt h
  refine va_copyi (ty := .int) hx hb (by rw [hml]; exact hl.1.symm) hown (ht _ kw_781) (ht _ kw_665) (ht _ kw_664) (ht _ kw_93) hK hP hD hS 0 0 0 0 rfl rfl rfl rfl rfl (fun z => g_1 (Or.inl z)) (fun z => g_1 (Or.inr (Or.inl z))) (fun z => g_1 (Or.inr (Or.inr (Or.inl z)))) (Nat.not_lt.mp fun z => g_1 (Or.inr (Or.inr (Or.inr (Or.inl z))))) (Nat.not_lt.mp fun z => g_1 (Or.inr (Or.inr (Or.inr (Or.inr z))))) (fun _ _ => rfl) (Nat.le_of_ble_eq_true rfl) (Nat.le_of_ble_eq_true rfl) dX1_dropOldest_8 (fun H locs hP hD hS => ?_)
  have hP : va_P D classes (wl_X1_dropOldest ad cs h_arI_a f_2 arI_a_n) H := by rw [ef_2]; exact hP
  have hD : va_D A (wl_X1_dropOldest ad cs h_arI_a f_2 arI_a_n) := by rw [ef_2]; exact hD
  exact W.vret hx hb hr (fun t ht2 hW => ⟨⟨f_2, rfl, Option.some.inj h, by rw [ht2]; exact hP, hD⟩, hS.F ht2⟩) hS.2.2 dX1_dropOldest_11 hlocks
set_option maxHeartbeats 4000000 in
set_option maxRecDepth 100000 in
theorem c_X1_dropOldest (l : Launch) (D : va_G) (cs : Nat → ClassId) (ad : Nat → Nat) (h_arI_a : Nat) (sz : Nat)  (arI_a : Nat → Int32) (arI_a_n : Nat) (R : (Nat → Int32)) (h : f_X1_dropOldest    arI_a arI_a_n = some R) : Met l yX1_dropOldest (z_X1_dropOldest) rm_X1_dropOldest (va_Pc [.ref h_arI_a] (zPre D cs (wl_X1_dropOldest ad cs h_arI_a arI_a arI_a_n) sz)) (Q_X1_dropOldest D cs ad h_arI_a arI_a_n (va_A (wl_X1_dropOldest ad cs h_arI_a arI_a arI_a_n) sz) R) 0 0 (va_A (wl_X1_dropOldest ad cs h_arI_a arI_a arI_a_n) sz) := by
  refine Met.ofW (cc := cX1_dropOldest) (maxL := 1) (ret := none) (by decide) rfl ?_
  intro p e s m args below meth c s₁ B hml hv
  obtain ⟨rfl, hsz, hP, hK, hD0⟩ := hv
  subst hsz
  have hD := hD0.self (sz := s.heap.size)
  have C0 : zC p s m _ meth c cX1_dropOldest 1 none RX1 zW := ⟨B.exec, B.bytes, B.returns, hml, findClass_of_methodNamed B.named, fun w hw => atoms_spec (ws := z_X1_dropOldest) B.pre w (List.mem_cons_of_mem _ hw), B.notSynchronized⟩
  have hA : ∀ q : Nat, s.heap.size ≤ q → va_A (wl_X1_dropOldest ad cs h_arI_a arI_a arI_a_n) s.heap.size q := fun q h => Or.inr h
  have hl := lv_entry ([.ref h_arI_a]) (n := 1) (Nat.le_of_ble_eq_true rfl)
  rw [lg_entry_eq]
  generalize (lg_sl ([.ref h_arI_a]) ++ List.replicate (1 - (lg_sl ([.ref h_arI_a])).length) Slot.unset).toArray = ls at hl ⊢
  exact L_X1_dropOldest_0 C0 hK hA    arI_a h s.heap [] ls hP hD va_S.rf hl
theorem kw_127 : Cond.fieldLink RX1 54 "AlreadyJudged$Court" "shoeDay" "[I" ∈ zW := zwC (i := 53) zc_1 rfl rfl
theorem kw_150 : Cond.fieldLink RX1 49 "AlreadyJudged$Court" "shoeCount" "I" ∈ zW := zwC (i := 76) zc_1 rfl rfl
theorem kw_314 : Cond.fieldLink RX1 61 "AlreadyJudged$Suit" "won" "I" ∈ zW := zwC (i := 0) zc_2 rfl rfl
theorem kw_331 : Cond.fieldLink RX1 66 "AlreadyJudged$Suit" "undoneFrom" "I" ∈ zW := zwC (i := 17) zc_2 rfl rfl
theorem kw_424 : Cond.fieldLink RX1 24 "AlreadyJudged$Changes" "court" "LAlreadyJudged$Court;" ∈ zW := zwC (i := 110) zc_2 rfl rfl
theorem kw_786 : Cond.methodLink RX1 57 yX2_suitAt ∈ zW := zwC (i := 232) zc_3 rfl rfl
theorem zh_cX1_set_0 : zck [27, 5, 160, 0, 29, 28, 155, 0, 24, 28, 42, 180, 0, 24, 180, 0, 49, 162, 0, 13, 42, 180] (zdu 0 cX1_set.data.toList) = true := by decide +kernel
theorem dX1_set_0 : decode cX1_set 0 = .ok (.iload_n 1, 1) := zo_27 zh_cX1_set_0 0 rfl
theorem dX1_set_1 : decode cX1_set 1 = .ok (.iconst 2, 1) := zo_5 zh_cX1_set_0 1 rfl
theorem dX1_set_2 : decode cX1_set 2 = .ok (.if_icmp .ne 29, 3) := zo_p160 zh_cX1_set_0 2 29 rfl rfl
theorem dX1_set_5 : decode cX1_set 5 = .ok (.iload_n 2, 1) := zo_28 zh_cX1_set_0 5 rfl
theorem dX1_set_6 : decode cX1_set 6 = .ok (.ifCond .lt 24, 3) := zo_p155 zh_cX1_set_0 6 24 rfl rfl
theorem dX1_set_9 : decode cX1_set 9 = .ok (.iload_n 2, 1) := zo_28 zh_cX1_set_0 9 rfl
theorem dX1_set_10 : decode cX1_set 10 = .ok (.aload_n 0, 1) := zo_42 zh_cX1_set_0 10 rfl
theorem dX1_set_11 : decode cX1_set 11 = .ok (.getfield 24, 3) := zo_180 zh_cX1_set_0 11 rfl
theorem dX1_set_14 : decode cX1_set 14 = .ok (.getfield 49, 3) := zo_180 zh_cX1_set_0 14 rfl
theorem dX1_set_17 : decode cX1_set 17 = .ok (.if_icmp .ge 13, 3) := zo_p162 zh_cX1_set_0 17 13 rfl rfl
theorem zh_cX1_set_1 : zck [42, 180, 0, 24, 180, 0, 54, 28, 29, 79, 177, 42, 180, 0, 24, 28, 182, 0, 57, 58, 4, 25] (zdu 20 cX1_set.data.toList) = true := by decide +kernel
theorem dX1_set_20 : decode cX1_set 20 = .ok (.aload_n 0, 1) := zo_42 zh_cX1_set_1 0 rfl
theorem dX1_set_21 : decode cX1_set 21 = .ok (.getfield 24, 3) := zo_180 zh_cX1_set_1 1 rfl
theorem dX1_set_24 : decode cX1_set 24 = .ok (.getfield 54, 3) := zo_180 zh_cX1_set_1 4 rfl
theorem dX1_set_27 : decode cX1_set 27 = .ok (.iload_n 2, 1) := zo_28 zh_cX1_set_1 7 rfl
theorem dX1_set_28 : decode cX1_set 28 = .ok (.iload_n 3, 1) := zo_29 zh_cX1_set_1 8 rfl
theorem dX1_set_29 : decode cX1_set 29 = .ok (.iastore, 1) := zo_79 zh_cX1_set_1 9 rfl
theorem dX1_set_30 : decode cX1_set 30 = .ok (.return_, 1) := zo_177 zh_cX1_set_1 10 rfl
theorem dX1_set_31 : decode cX1_set 31 = .ok (.aload_n 0, 1) := zo_42 zh_cX1_set_1 11 rfl
theorem dX1_set_32 : decode cX1_set 32 = .ok (.getfield 24, 3) := zo_180 zh_cX1_set_1 12 rfl
theorem dX1_set_35 : decode cX1_set 35 = .ok (.iload_n 2, 1) := zo_28 zh_cX1_set_1 15 rfl
theorem dX1_set_36 : decode cX1_set 36 = .ok (.invokevirtual 57, 3) := zo_182 zh_cX1_set_1 16 rfl
theorem dX1_set_39 : decode cX1_set 39 = .ok (.astore 4, 2) := zo_58 zh_cX1_set_1 19 rfl
theorem zh_cX1_set_2 : zck [4, 25, 4, 198, 0, 16, 27, 154, 0, 12, 25, 4, 29, 181, 0, 61, 167, 0, 14, 25, 4, 198] (zdu 40 cX1_set.data.toList) = true := by decide +kernel
theorem dX1_set_41 : decode cX1_set 41 = .ok (.aload 4, 2) := zo_25 zh_cX1_set_2 1 rfl
theorem dX1_set_43 : decode cX1_set 43 = .ok (.ifnull 16, 3) := zo_p198 zh_cX1_set_2 3 16 rfl rfl
theorem dX1_set_46 : decode cX1_set 46 = .ok (.iload_n 1, 1) := zo_27 zh_cX1_set_2 6 rfl
theorem dX1_set_47 : decode cX1_set 47 = .ok (.ifCond .ne 12, 3) := zo_p154 zh_cX1_set_2 7 12 rfl rfl
theorem dX1_set_50 : decode cX1_set 50 = .ok (.aload 4, 2) := zo_25 zh_cX1_set_2 10 rfl
theorem dX1_set_52 : decode cX1_set 52 = .ok (.iload_n 3, 1) := zo_29 zh_cX1_set_2 12 rfl
theorem dX1_set_53 : decode cX1_set 53 = .ok (.putfield 61, 3) := zo_181 zh_cX1_set_2 13 rfl
theorem dX1_set_56 : decode cX1_set 56 = .ok (.goto 14, 3) := zo_p167 zh_cX1_set_2 16 14 rfl rfl
theorem dX1_set_59 : decode cX1_set 59 = .ok (.aload 4, 2) := zo_25 zh_cX1_set_2 19 rfl
theorem zh_cX1_set_3 : zck [4, 198, 0, 9, 25, 4, 29, 181, 0, 66, 177] (zdu 60 cX1_set.data.toList) = true := by decide +kernel
theorem dX1_set_61 : decode cX1_set 61 = .ok (.ifnull 9, 3) := zo_p198 zh_cX1_set_3 1 9 rfl rfl
theorem dX1_set_64 : decode cX1_set 64 = .ok (.aload 4, 2) := zo_25 zh_cX1_set_3 4 rfl
theorem dX1_set_66 : decode cX1_set 66 = .ok (.iload_n 3, 1) := zo_29 zh_cX1_set_3 6 rfl
theorem dX1_set_67 : decode cX1_set 67 = .ok (.putfield 66, 3) := zo_181 zh_cX1_set_3 7 rfl
theorem dX1_set_70 : decode cX1_set 70 = .ok (.return_, 1) := zo_177 zh_cX1_set_3 10 rfl
abbrev z_X1_set : List Cond := .code yX1_set cX1_set 5 none :: zW
abbrev wx_X1_set (ad : Nat → Nat) (cs : Nat → ClassId) (LP : va_W) (S_a : Nat → Nat) (S_b : Nat → Nat) (court_shoeCount : Int32) (court_claimCount : Int32) (court_suitCount : Int32) (court_shoeDay : Nat → Int32) (court_suits : Nat → Option Nat) (chg_done : Int32) (chg_size : Int32) (S_who : Nat → Int32) (S_against : Nat → Int32) (S_kind : Nat → Int32) (S_won : Nat → Int32) (S_day : Nat → Int32) (S_land : Nat → Int32) (S_undoneFrom : Nat → Int32) (S_asked : Nat → Nat → Int32) (S_askedCount : Nat → Int32) (S_askedBits : Nat → Int32) (S_first : Nat → Int32) (S_foundSo : Nat → Int32) (S_foundNot : Nat → Int32) (S_fought : Nat → Int32) (S_needed : Nat → Int32) : va_W := [((ad 4), .inr (2, [.ref (ad 5), .ref (ad 6), .ref (ad 7), .ref (ad 8), .ref (ad 9), .ref (ad 10), .ref (ad 11), .ref (ad 12), .ref (ad 13), .ref (ad 14), .int court_shoeCount, .int court_claimCount, .int court_suitCount])), ((ad 8), .inl (cs 0, 40, .inl court_shoeDay)), ((ad 13), .inl (cs 5, 40, .inr (.inr (.inr (.inr court_suits))))), ((ad 34), .inr (1, [.ref (ad 4), .ref (ad 35), .ref (ad 36), .ref (ad 37), .ref (ad 38), .int chg_done, .int chg_size]))]
abbrev wl_X1_set (ad : Nat → Nat) (cs : Nat → ClassId) (LP : va_W) (S_a : Nat → Nat) (S_b : Nat → Nat) (court_shoeCount : Int32) (court_claimCount : Int32) (court_suitCount : Int32) (court_shoeDay : Nat → Int32) (court_suits : Nat → Option Nat) (chg_done : Int32) (chg_size : Int32) (S_who : Nat → Int32) (S_against : Nat → Int32) (S_kind : Nat → Int32) (S_won : Nat → Int32) (S_day : Nat → Int32) (S_land : Nat → Int32) (S_undoneFrom : Nat → Int32) (S_asked : Nat → Nat → Int32) (S_askedCount : Nat → Int32) (S_askedBits : Nat → Int32) (S_first : Nat → Int32) (S_foundSo : Nat → Int32) (S_foundNot : Nat → Int32) (S_fought : Nat → Int32) (S_needed : Nat → Int32) : va_W := wx_X1_set ad cs LP S_a S_b court_shoeCount court_claimCount court_suitCount court_shoeDay court_suits chg_done chg_size S_who S_against S_kind S_won S_day S_land S_undoneFrom S_asked S_askedCount S_askedBits S_first S_foundSo S_foundNot S_fought S_needed ++ (zSu cs S_a S_b court_suitCount.toInt.toNat S_who S_against S_kind S_won S_day S_land S_undoneFrom S_asked S_askedCount S_askedBits S_first S_foundSo S_foundNot S_fought S_needed ++ LP)
def Q_X1_set (D : va_G) (cs : Nat → ClassId) (ad : Nat → Nat) (LP : va_W) (S_a : Nat → Nat) (S_b : Nat → Nat) (court_shoeCount : Int32) (court_claimCount : Int32) (court_suitCount : Int32) (court_suits : Nat → Option Nat) (chg_done : Int32) (chg_size : Int32) (S_who : Nat → Int32) (S_against : Nat → Int32) (S_kind : Nat → Int32) (S_day : Nat → Int32) (S_land : Nat → Int32) (S_asked : Nat → Nat → Int32) (S_askedCount : Nat → Int32) (S_askedBits : Nat → Int32) (S_first : Nat → Int32) (S_foundSo : Nat → Int32) (S_foundNot : Nat → Int32) (S_fought : Nat → Int32) (S_needed : Nat → Int32) (A : Nat → Prop) (R : (Nat → Int32) × (Nat → Int32) × (Nat → Int32)) : Array Value → State → Outcome → State → Prop :=
  va_Qv (fun u : (Nat → Int32) × (Nat → Int32) × (Nat → Int32) => u = R) (fun (u : (Nat → Int32) × (Nat → Int32) × (Nat → Int32)) (t : State) => va_P D classes (wl_X1_set ad cs LP S_a S_b court_shoeCount court_claimCount court_suitCount u.1 court_suits chg_done chg_size S_who S_against S_kind u.2.1 S_day S_land u.2.2 S_asked S_askedCount S_askedBits S_first S_foundSo S_foundNot S_fought S_needed) t.heap ∧ va_D A (wl_X1_set ad cs LP S_a S_b court_shoeCount court_claimCount court_suitCount u.1 court_suits chg_done chg_size S_who S_against S_kind u.2.1 S_day S_land u.2.2 S_asked S_askedCount S_askedBits S_first S_foundSo S_foundNot S_fought S_needed)) A
abbrev rm_X1_set : Room := { frames := 1, cells := 0, slots := 0, locals := 21 }
theorem g_X1_57 : GoodIn zW (wsV RX1 57 RX2 yX2_suitAt z_X2_suitAt) := zGV kw_786 kw_787 kw_788 kw_76 kw_789
def B_X1_set_59    (court_shoeCount : Int32) (court_claimCount : Int32) (court_suitCount : Int32) (court_suits : Nat → Option Nat) (chg_done : Int32) (chg_size : Int32) (S_who : Nat → Int32) (S_against : Nat → Int32) (S_kind : Nat → Int32) (S_day : Nat → Int32) (S_land : Nat → Int32) (S_asked : Nat → Nat → Int32) (S_askedCount : Nat → Int32) (S_askedBits : Nat → Int32) (S_first : Nat → Int32) (S_foundSo : Nat → Int32) (S_foundNot : Nat → Int32) (S_fought : Nat → Int32) (S_needed : Nat → Int32) (x3 : Int32) (x4 : Int32) (court_shoeDay : Nat → Int32) (S_won : Nat → Int32) (S_undoneFrom : Nat → Int32) : Option ((Nat → Int32) × (Nat → Int32) × (Nat → Int32)) :=
  (if (x4 < 0 ∨ court_suitCount ≤ x4) then none else (zk_let (upd S_undoneFrom x4.toNatClampNeg x3) (fun f_20 => (some (court_shoeDay, S_won, f_20)))))
def B_X1_set_0    (court_shoeCount : Int32) (court_claimCount : Int32) (court_suitCount : Int32) (court_suits : Nat → Option Nat) (chg_done : Int32) (chg_size : Int32) (S_who : Nat → Int32) (S_against : Nat → Int32) (S_kind : Nat → Int32) (S_day : Nat → Int32) (S_land : Nat → Int32) (S_asked : Nat → Nat → Int32) (S_askedCount : Nat → Int32) (S_askedBits : Nat → Int32) (S_first : Nat → Int32) (S_foundSo : Nat → Int32) (S_foundNot : Nat → Int32) (S_fought : Nat → Int32) (S_needed : Nat → Int32) (x1 : Int32) (x2 : Int32) (x3 : Int32) (court_shoeDay : Nat → Int32) (S_won : Nat → Int32) (S_undoneFrom : Nat → Int32) : Option ((Nat → Int32) × (Nat → Int32) × (Nat → Int32)) :=
  (if x1 = (2 : Int32) then (if x2 < 0 then (some (court_shoeDay, S_won, S_undoneFrom)) else (if court_shoeCount ≤ x2 then (some (court_shoeDay, S_won, S_undoneFrom)) else (if (x2 < 0 ∨ 40 ≤ x2.toNatClampNeg) then none else (zk_let (upd court_shoeDay x2.toNatClampNeg x3) (fun f_15 => (some (f_15, S_won, S_undoneFrom))))))) else (zk_b2 (f_X2_suitAt x2 court_shoeCount court_claimCount court_suitCount court_suits S_who S_against S_kind S_won S_day S_land S_undoneFrom S_asked S_askedCount S_askedBits S_first S_foundSo S_foundNot S_fought S_needed) (fun r_2 u_3 => (if r_2 < 0 then (some (court_shoeDay, S_won, S_undoneFrom)) else (if x1 = 0 then (if (r_2 < 0 ∨ court_suitCount ≤ r_2) then none else (zk_let (upd S_won r_2.toNatClampNeg x3) (fun f_11 => (some (court_shoeDay, f_11, S_undoneFrom))))) else (B_X1_set_59 court_shoeCount court_claimCount court_suitCount court_suits chg_done chg_size S_who S_against S_kind S_day S_land S_asked S_askedCount S_askedBits S_first S_foundSo S_foundNot S_fought S_needed x3 r_2 court_shoeDay S_won S_undoneFrom))))))
def f_X1_set   (x1 : Int32) (x2 : Int32) (x3 : Int32) (court_shoeCount : Int32) (court_claimCount : Int32) (court_suitCount : Int32) (court_shoeDay : Nat → Int32) (court_suits : Nat → Option Nat) (chg_done : Int32) (chg_size : Int32) (S_who : Nat → Int32) (S_against : Nat → Int32) (S_kind : Nat → Int32) (S_won : Nat → Int32) (S_day : Nat → Int32) (S_land : Nat → Int32) (S_undoneFrom : Nat → Int32) (S_asked : Nat → Nat → Int32) (S_askedCount : Nat → Int32) (S_askedBits : Nat → Int32) (S_first : Nat → Int32) (S_foundSo : Nat → Int32) (S_foundNot : Nat → Int32) (S_fought : Nat → Int32) (S_needed : Nat → Int32) : Option ((Nat → Int32) × (Nat → Int32) × (Nat → Int32)) := B_X1_set_0   court_shoeCount court_claimCount court_suitCount court_suits chg_done chg_size S_who S_against S_kind S_day S_land S_asked S_askedCount S_askedBits S_first S_foundSo S_foundNot S_fought S_needed x1 x2 x3 court_shoeDay S_won S_undoneFrom
set_option maxHeartbeats 4000000 in
set_option maxRecDepth 100000 in
theorem L_X1_set_59 {p : Program} {l : Launch} {e : Env} {s : State} {m : MethodId} {args : Array Value} {below : List Frame} {meth : Method} {c : Code} {A : Nat → Prop} {D : va_G} {cs : Nat → ClassId} {ad : Nat → Nat} {LP : va_W} {S_a : Nat → Nat} {S_b : Nat → Nat} {court_shoeCount : Int32} {court_claimCount : Int32} {court_suitCount : Int32} {court_suits : Nat → Option Nat} {chg_done : Int32} {chg_size : Int32} {S_who : Nat → Int32} {S_against : Nat → Int32} {S_kind : Nat → Int32} {S_day : Nat → Int32} {S_land : Nat → Int32} {S_asked : Nat → Nat → Int32} {S_askedCount : Nat → Int32} {S_askedBits : Nat → Int32} {S_first : Nat → Int32} {S_foundSo : Nat → Int32} {S_foundNot : Nat → Int32} {S_fought : Nat → Int32} {S_needed : Nat → Int32} {R : (Nat → Int32) × (Nat → Int32) × (Nat → Int32)} (C0 : zC p s m args meth c cX1_set 5 none RX1 zW) (hK : va_K D classes (zT cs) s) (hA : ∀ q : Nat, s.heap.size ≤ q → A q) (hSA : ∀ i, i < court_suitCount.toInt.toNat → court_suits i = some (S_a i)) (x3 : Int32) (x4 : Int32) (court_shoeDay : Nat → Int32) (S_won : Nat → Int32) (S_undoneFrom : Nat → Int32) (h : B_X1_set_59 court_shoeCount court_claimCount court_suitCount court_suits chg_done chg_size S_who S_against S_kind S_day S_land S_asked S_askedCount S_askedBits S_first S_foundSo S_foundNot S_fought S_needed x3 x4 court_shoeDay S_won S_undoneFrom = some R) (H : Heap) (locs : List Loc) (ls : Array Slot) (hP : va_P D classes (wl_X1_set ad cs LP S_a S_b court_shoeCount court_claimCount court_suitCount court_shoeDay court_suits chg_done chg_size S_who S_against S_kind S_won S_day S_land S_undoneFrom S_asked S_askedCount S_askedBits S_first S_foundSo S_foundNot S_fought S_needed) H) (hD : va_D A (wl_X1_set ad cs LP S_a S_b court_shoeCount court_claimCount court_suitCount court_shoeDay court_suits chg_done chg_size S_who S_against S_kind S_won S_day S_land S_undoneFrom S_asked S_askedCount S_askedBits S_first S_foundSo S_foundNot S_fought S_needed)) (hS : va_S A s.heap H locs) (hl : lv_has ls 5 [(3, .int x3), (4, .ref (S_a x4.toNatClampNeg))]) : W p l e rm_X1_set s m args below meth c H locs 0 0 (MQ below (Q_X1_set D cs ad LP S_a S_b court_shoeCount court_claimCount court_suitCount court_suits chg_done chg_size S_who S_against S_kind S_day S_land S_asked S_askedCount S_askedBits S_first S_foundSo S_foundNot S_fought S_needed A R) args s 0 0 A) (F0 m 59 ls []) := by
  obtain ⟨hx, hb, hr, hml, hown, ht, hlocks⟩ := id C0
  refine lv_aload hx hb dX1_set_59 (lv_at hl 1 rfl) ?_
  refine lv_ifnull hx hb dX1_set_61 ?_
  refine lv_aload hx hb dX1_set_64 (lv_at hl 1 rfl) ?_
  refine lv_iload_n hx hb dX1_set_66 rfl (lv_at hl 0 rfl) ?_
  obtain ⟨g_16, h⟩ := zk_gd h
  have hSU : PSu cs (zSu cs S_a S_b court_suitCount.toInt.toNat S_who S_against S_kind S_won S_day S_land S_undoneFrom S_asked S_askedCount S_askedBits S_first S_foundSo S_foundNot S_fought S_needed ++ LP) court_suitCount court_suits S_a S_b S_who S_against S_kind S_won S_day S_land S_undoneFrom S_asked S_askedCount S_askedBits S_first S_foundSo S_foundNot S_fought S_needed := zSu_ok hSA
  obtain ⟨hs_17, ⟨_, hj_18⟩, ⟨_, hj_19⟩⟩ := hSU _ (zs_lt2 g_16)
  obtain ⟨f_20, ef_20, h⟩ := zk_lt h
  refine va_put (D := D) (ci := 7) (v := .int x3) (ty := .int) (C := RX7) (T := TX7) (N := 15) hx hb ht iX7 tyX7 tyX7_ok nmX7 hown hK hP hD hS _ (zSu_at (X := [((ad 4), .inr (2, [.ref (ad 5), .ref (ad 6), .ref (ad 7), .ref (ad 8), .ref (ad 9), .ref (ad 10), .ref (ad 11), .ref (ad 12), .ref (ad 13), .ref (ad 14), .int court_shoeCount, .int court_claimCount, .int court_suitCount])), ((ad 8), .inl (cs 0, 40, .inl court_shoeDay)), ((ad 13), .inl (cs 5, 40, .inr (.inr (.inr (.inr court_suits))))), ((ad 34), .inr (1, [.ref (ad 4), .ref (ad 35), .ref (ad 36), .ref (ad 37), .ref (ad 38), .int chg_done, .int chg_size]))]) rfl (zs_lt2 g_16)) rfl 6 (by decide) (ht _ kw_331) (fun _ h9 => h9) rfl (by decide +kernel) rfl rfl (Nat.le_of_ble_eq_true rfl) dX1_set_67 (fun H locs hP hD hS => ?_)
  have hP : va_P D classes (wl_X1_set ad cs LP S_a S_b court_shoeCount court_claimCount court_suitCount court_shoeDay court_suits chg_done chg_size S_who S_against S_kind S_won S_day S_land f_20 S_asked S_askedCount S_askedBits S_first S_foundSo S_foundNot S_fought S_needed) H := by rw [ef_20]; rw [zSu_undoneFrom (X := [((ad 4), .inr (2, [.ref (ad 5), .ref (ad 6), .ref (ad 7), .ref (ad 8), .ref (ad 9), .ref (ad 10), .ref (ad 11), .ref (ad 12), .ref (ad 13), .ref (ad 14), .int court_shoeCount, .int court_claimCount, .int court_suitCount])), ((ad 8), .inl (cs 0, 40, .inl court_shoeDay)), ((ad 13), .inl (cs 5, 40, .inr (.inr (.inr (.inr court_suits))))), ((ad 34), .inr (1, [.ref (ad 4), .ref (ad 35), .ref (ad 36), .ref (ad 37), .ref (ad 38), .int chg_done, .int chg_size]))]) rfl (zs_lt2 g_16)] at hP; exact hP
  have hD : va_D A (wl_X1_set ad cs LP S_a S_b court_shoeCount court_claimCount court_suitCount court_shoeDay court_suits chg_done chg_size S_who S_against S_kind S_won S_day S_land f_20 S_asked S_askedCount S_askedBits S_first S_foundSo S_foundNot S_fought S_needed) := by rw [ef_20]; rw [zSu_undoneFrom (X := [((ad 4), .inr (2, [.ref (ad 5), .ref (ad 6), .ref (ad 7), .ref (ad 8), .ref (ad 9), .ref (ad 10), .ref (ad 11), .ref (ad 12), .ref (ad 13), .ref (ad 14), .int court_shoeCount, .int court_claimCount, .int court_suitCount])), ((ad 8), .inl (cs 0, 40, .inl court_shoeDay)), ((ad 13), .inl (cs 5, 40, .inr (.inr (.inr (.inr court_suits))))), ((ad 34), .inr (1, [.ref (ad 4), .ref (ad 35), .ref (ad 36), .ref (ad 37), .ref (ad 38), .int chg_done, .int chg_size]))]) rfl (zs_lt2 g_16)] at hD; exact hD
  exact W.vret hx hb hr (fun t ht2 hW => ⟨⟨(court_shoeDay, S_won, f_20), rfl, Option.some.inj h, by rw [ht2]; exact hP, hD⟩, hS.F ht2⟩) hS.2.2 dX1_set_70 hlocks
set_option maxHeartbeats 4000000 in
set_option maxRecDepth 100000 in
theorem L_X1_set_0 {p : Program} {l : Launch} {e : Env} {s : State} {m : MethodId} {args : Array Value} {below : List Frame} {meth : Method} {c : Code} {A : Nat → Prop} {D : va_G} {cs : Nat → ClassId} {ad : Nat → Nat} {LP : va_W} {S_a : Nat → Nat} {S_b : Nat → Nat} {court_shoeCount : Int32} {court_claimCount : Int32} {court_suitCount : Int32} {court_suits : Nat → Option Nat} {chg_done : Int32} {chg_size : Int32} {S_who : Nat → Int32} {S_against : Nat → Int32} {S_kind : Nat → Int32} {S_day : Nat → Int32} {S_land : Nat → Int32} {S_asked : Nat → Nat → Int32} {S_askedCount : Nat → Int32} {S_askedBits : Nat → Int32} {S_first : Nat → Int32} {S_foundSo : Nat → Int32} {S_foundNot : Nat → Int32} {S_fought : Nat → Int32} {S_needed : Nat → Int32} {R : (Nat → Int32) × (Nat → Int32) × (Nat → Int32)} (C0 : zC p s m args meth c cX1_set 5 none RX1 zW) (hK : va_K D classes (zT cs) s) (hA : ∀ q : Nat, s.heap.size ≤ q → A q) (hSA : ∀ i, i < court_suitCount.toInt.toNat → court_suits i = some (S_a i)) (x1 : Int32) (x2 : Int32) (x3 : Int32) (court_shoeDay : Nat → Int32) (S_won : Nat → Int32) (S_undoneFrom : Nat → Int32) (h : B_X1_set_0 court_shoeCount court_claimCount court_suitCount court_suits chg_done chg_size S_who S_against S_kind S_day S_land S_asked S_askedCount S_askedBits S_first S_foundSo S_foundNot S_fought S_needed x1 x2 x3 court_shoeDay S_won S_undoneFrom = some R) (H : Heap) (locs : List Loc) (ls : Array Slot) (hP : va_P D classes (wl_X1_set ad cs LP S_a S_b court_shoeCount court_claimCount court_suitCount court_shoeDay court_suits chg_done chg_size S_who S_against S_kind S_won S_day S_land S_undoneFrom S_asked S_askedCount S_askedBits S_first S_foundSo S_foundNot S_fought S_needed) H) (hD : va_D A (wl_X1_set ad cs LP S_a S_b court_shoeCount court_claimCount court_suitCount court_shoeDay court_suits chg_done chg_size S_who S_against S_kind S_won S_day S_land S_undoneFrom S_asked S_askedCount S_askedBits S_first S_foundSo S_foundNot S_fought S_needed)) (hS : va_S A s.heap H locs) (hl : lv_has ls 5 [(0, .ref (ad 34)), (1, .int x1), (2, .int x2), (3, .int x3)]) : W p l e rm_X1_set s m args below meth c H locs 0 0 (MQ below (Q_X1_set D cs ad LP S_a S_b court_shoeCount court_claimCount court_suitCount court_suits chg_done chg_size S_who S_against S_kind S_day S_land S_asked S_askedCount S_askedBits S_first S_foundSo S_foundNot S_fought S_needed A R) args s 0 0 A) (F0 m 0 ls []) := by
  obtain ⟨hx, hb, hr, hml, hown, ht, hlocks⟩ := id C0
  refine lv_iload_n hx hb dX1_set_0 rfl (lv_at hl 1 rfl) ?_
  refine lv_iconst (v := (2 : Int32)) hx hb dX1_set_1 (by decide) ?_
  refine lv_icmp_ne (tgt := 31) hx hb dX1_set_2 (by decide) (fun c_1 => ?_) (fun c_1 => ?_)
  · have h := zk_f c_1 h
    refine lv_aload_n hx hb dX1_set_31 rfl (lv_at hl 0 rfl) ?_
    refine va_get (D := D) (ci := 1) (v := .ref (ad 4)) (C := RX1) (T := TX1) (N := 7) hx hb ht iX1 hown hK hP 3 rfl rfl 0 (by decide) (ht _ kw_424) (fun _ h9 => h9) rfl dX1_set_32 ?_
    refine lv_iload_n hx hb dX1_set_35 rfl (lv_at hl 2 rfl) ?_
    obtain ⟨r_2, u_3, hc_4, h⟩ := zk_o2 h
    refine zz_vqP (post := (fun r u => r = (if r_2 < 0 then none else some (S_a r_2.toNatClampNeg)) ∧ u = (u_3))) (w1 := fun u => (wx_X2_suitAt ad cs (zSu cs S_a S_b court_suitCount.toInt.toNat S_who S_against S_kind S_won S_day S_land S_undoneFrom S_asked S_askedCount S_askedBits S_first S_foundSo S_foundNot S_fought S_needed ++ LP) S_a S_b court_shoeCount court_claimCount court_suitCount court_suits S_who S_against S_kind S_won S_day S_land S_undoneFrom S_asked S_askedCount S_askedBits S_first S_foundSo S_foundNot S_fought S_needed)) (PL := (zSu cs S_a S_b court_suitCount.toInt.toNat S_who S_against S_kind S_won S_day S_land S_undoneFrom S_asked S_askedCount S_askedBits S_first S_foundSo S_foundNot S_fought S_needed ++ LP)) (As := [.int x2]) (rest := []) (c_X2_suitAt l D cs ad (zSu cs S_a S_b court_suitCount.toInt.toNat S_who S_against S_kind S_won S_day S_land S_undoneFrom S_asked S_askedCount S_askedBits S_first S_foundSo S_foundNot S_fought S_needed ++ LP) S_a S_b H.size x2 court_shoeCount court_claimCount court_suitCount court_suits S_who S_against S_kind S_won S_day S_land S_undoneFrom S_asked S_askedCount S_askedBits S_first S_foundSo S_foundNot S_fought S_needed (zSu_ok hSA) (r_2, u_3) hc_4) ⟨hx, hb, hml, hown, ht⟩ (cwV 1 ht g_X1_57 rfl rfl rfl ⟨rfl, hd_X2_suitAt⟩ ⟨Nat.le_of_ble_eq_true rfl, Nat.le_of_ble_eq_true rfl⟩) (va_recv hK hP (ci := 2) (q0 := 0) rfl rfl) hP hD hS hK hA [0, 2] rfl rfl [(ad 4), (ad 13)] rfl (fun _ => rfl) rfl hl.1 (Nat.le_of_ble_eq_true rfl) dX1_set_36 ⟨Nat.zero_le _, Nat.zero_le _⟩ (fun r u H locs hq hP hS => ?_)
    obtain ⟨hq1, hq2⟩ := hq; cases hq2; subst hq1
    have hP : va_P D classes (wl_X1_set ad cs LP S_a S_b court_shoeCount court_claimCount court_suitCount court_shoeDay court_suits chg_done chg_size S_who S_against S_kind S_won S_day S_land S_undoneFrom S_asked S_askedCount S_askedBits S_first S_foundSo S_foundNot S_fought S_needed) H := hP
    have hD : va_D A (wl_X1_set ad cs LP S_a S_b court_shoeCount court_claimCount court_suitCount court_shoeDay court_suits chg_done chg_size S_who S_against S_kind S_won S_day S_land S_undoneFrom S_asked S_askedCount S_askedBits S_first S_foundSo S_foundNot S_fought S_needed) := zDkp hD [(ad 4), (ad 8), (ad 13), (ad 34)] rfl rfl
    by_cases c_5 : r_2 < 0
    · have h := zk_t c_5 h
      refine W.eq (g2 := F0 m 39 ls [.null]) (by rw [if_pos c_5]; rfl) ?_
      refine lv_astoreN (lv' := [(4, .null), (0, .ref (ad 34)), (1, .int x1), (2, .int x2), (3, .int x3)]) hx hb dX1_set_39 hl (by decide) rfl (fun ls hl => ?_)
      refine lv_aloadN hx hb dX1_set_41 (lv_at hl 0 rfl) ?_
      refine lv_ifnullN (tgt := 59) hx hb dX1_set_43 (by decide) ?_
      refine lv_aloadN hx hb dX1_set_59 (lv_at hl 0 rfl) ?_
      refine lv_ifnullN (tgt := 70) hx hb dX1_set_61 (by decide) ?_
      exact W.vret hx hb hr (fun t ht2 hW => ⟨⟨(court_shoeDay, S_won, S_undoneFrom), rfl, Option.some.inj h, by rw [ht2]; exact hP, hD⟩, hS.F ht2⟩) hS.2.2 dX1_set_70 hlocks
    · have h := zk_f c_5 h
      refine W.eq (g2 := F0 m 39 ls [.ref (S_a r_2.toNatClampNeg)]) (by rw [if_neg c_5]; rfl) ?_
      refine lv_astore (lv' := [(4, .ref (S_a r_2.toNatClampNeg)), (0, .ref (ad 34)), (1, .int x1), (2, .int x2), (3, .int x3)]) hx hb dX1_set_39 hl (by decide) rfl (fun ls hl => ?_)
      refine lv_aload hx hb dX1_set_41 (lv_at hl 0 rfl) ?_
      refine lv_ifnull hx hb dX1_set_43 ?_
      refine lv_iload_n hx hb dX1_set_46 rfl (lv_at hl 2 rfl) ?_
      refine lv_if_ne (tgt := 59) hx hb dX1_set_47 (by decide) (fun c_6 => ?_) (fun c_6 => ?_)
      · have h := zk_f c_6 h
        exact L_X1_set_59 C0 hK hA hSA   x3 r_2 court_shoeDay S_won S_undoneFrom h H locs ls hP hD hS (lv_sub hl [4, 0] rfl)
      · have h := zk_t c_6 h
        refine lv_aload hx hb dX1_set_50 (lv_at hl 0 rfl) ?_
        refine lv_iload_n hx hb dX1_set_52 rfl (lv_at hl 4 rfl) ?_
        obtain ⟨g_7, h⟩ := zk_gd h
        have hSU : PSu cs (zSu cs S_a S_b court_suitCount.toInt.toNat S_who S_against S_kind S_won S_day S_land S_undoneFrom S_asked S_askedCount S_askedBits S_first S_foundSo S_foundNot S_fought S_needed ++ LP) court_suitCount court_suits S_a S_b S_who S_against S_kind S_won S_day S_land S_undoneFrom S_asked S_askedCount S_askedBits S_first S_foundSo S_foundNot S_fought S_needed := zSu_ok hSA
        obtain ⟨hs_8, ⟨_, hj_9⟩, ⟨_, hj_10⟩⟩ := hSU _ (zs_lt2 g_7)
        obtain ⟨f_11, ef_11, h⟩ := zk_lt h
        refine va_put (D := D) (ci := 7) (v := .int x3) (ty := .int) (C := RX7) (T := TX7) (N := 15) hx hb ht iX7 tyX7 tyX7_ok nmX7 hown hK hP hD hS _ (zSu_at (X := [((ad 4), .inr (2, [.ref (ad 5), .ref (ad 6), .ref (ad 7), .ref (ad 8), .ref (ad 9), .ref (ad 10), .ref (ad 11), .ref (ad 12), .ref (ad 13), .ref (ad 14), .int court_shoeCount, .int court_claimCount, .int court_suitCount])), ((ad 8), .inl (cs 0, 40, .inl court_shoeDay)), ((ad 13), .inl (cs 5, 40, .inr (.inr (.inr (.inr court_suits))))), ((ad 34), .inr (1, [.ref (ad 4), .ref (ad 35), .ref (ad 36), .ref (ad 37), .ref (ad 38), .int chg_done, .int chg_size]))]) rfl (zs_lt2 g_7)) rfl 3 (by decide) (ht _ kw_314) (fun _ h9 => h9) rfl (by decide +kernel) rfl rfl (Nat.le_of_ble_eq_true rfl) dX1_set_53 (fun H locs hP hD hS => ?_)
        have hP : va_P D classes (wl_X1_set ad cs LP S_a S_b court_shoeCount court_claimCount court_suitCount court_shoeDay court_suits chg_done chg_size S_who S_against S_kind f_11 S_day S_land S_undoneFrom S_asked S_askedCount S_askedBits S_first S_foundSo S_foundNot S_fought S_needed) H := by rw [ef_11]; rw [zSu_won (X := [((ad 4), .inr (2, [.ref (ad 5), .ref (ad 6), .ref (ad 7), .ref (ad 8), .ref (ad 9), .ref (ad 10), .ref (ad 11), .ref (ad 12), .ref (ad 13), .ref (ad 14), .int court_shoeCount, .int court_claimCount, .int court_suitCount])), ((ad 8), .inl (cs 0, 40, .inl court_shoeDay)), ((ad 13), .inl (cs 5, 40, .inr (.inr (.inr (.inr court_suits))))), ((ad 34), .inr (1, [.ref (ad 4), .ref (ad 35), .ref (ad 36), .ref (ad 37), .ref (ad 38), .int chg_done, .int chg_size]))]) rfl (zs_lt2 g_7)] at hP; exact hP
        have hD : va_D A (wl_X1_set ad cs LP S_a S_b court_shoeCount court_claimCount court_suitCount court_shoeDay court_suits chg_done chg_size S_who S_against S_kind f_11 S_day S_land S_undoneFrom S_asked S_askedCount S_askedBits S_first S_foundSo S_foundNot S_fought S_needed) := by rw [ef_11]; rw [zSu_won (X := [((ad 4), .inr (2, [.ref (ad 5), .ref (ad 6), .ref (ad 7), .ref (ad 8), .ref (ad 9), .ref (ad 10), .ref (ad 11), .ref (ad 12), .ref (ad 13), .ref (ad 14), .int court_shoeCount, .int court_claimCount, .int court_suitCount])), ((ad 8), .inl (cs 0, 40, .inl court_shoeDay)), ((ad 13), .inl (cs 5, 40, .inr (.inr (.inr (.inr court_suits))))), ((ad 34), .inr (1, [.ref (ad 4), .ref (ad 35), .ref (ad 36), .ref (ad 37), .ref (ad 38), .int chg_done, .int chg_size]))]) rfl (zs_lt2 g_7)] at hD; exact hD
        refine lv_goto (tgt := 70) hx hb dX1_set_56 (by decide) ?_
        exact W.vret hx hb hr (fun t ht2 hW => ⟨⟨(court_shoeDay, f_11, S_undoneFrom), rfl, Option.some.inj h, by rw [ht2]; exact hP, hD⟩, hS.F ht2⟩) hS.2.2 dX1_set_70 hlocks
  · have h := zk_t c_1 h
    refine lv_iload_n hx hb dX1_set_5 rfl (lv_at hl 2 rfl) ?_
    refine lv_if_lt (tgt := 30) hx hb dX1_set_6 (by decide) (fun c_12 => ?_) (fun c_12 => ?_)
    · have h := zk_t c_12 h
      exact W.vret hx hb hr (fun t ht2 hW => ⟨⟨(court_shoeDay, S_won, S_undoneFrom), rfl, Option.some.inj h, by rw [ht2]; exact hP, hD⟩, hS.F ht2⟩) hS.2.2 dX1_set_30 hlocks
    · have h := zk_f c_12 h
      refine lv_iload_n hx hb dX1_set_9 rfl (lv_at hl 2 rfl) ?_
      refine lv_aload_n hx hb dX1_set_10 rfl (lv_at hl 0 rfl) ?_
      refine va_get (D := D) (ci := 1) (v := .ref (ad 4)) (C := RX1) (T := TX1) (N := 7) hx hb ht iX1 hown hK hP 3 rfl rfl 0 (by decide) (ht _ kw_424) (fun _ h9 => h9) rfl dX1_set_11 ?_
      refine va_get (D := D) (ci := 2) (v := .int court_shoeCount) (C := RX2) (T := TX2) (N := 13) hx hb ht iX2 hown hK hP 0 rfl rfl 10 (by decide) (ht _ kw_150) (fun _ h9 => h9) rfl dX1_set_14 ?_
      refine lv_icmp_ge (tgt := 30) hx hb dX1_set_17 (by decide) (fun c_13 => ?_) (fun c_13 => ?_)
      · have h := zk_t c_13 h
        exact W.vret hx hb hr (fun t ht2 hW => ⟨⟨(court_shoeDay, S_won, S_undoneFrom), rfl, Option.some.inj h, by rw [ht2]; exact hP, hD⟩, hS.F ht2⟩) hS.2.2 dX1_set_30 hlocks
      · have h := zk_f c_13 h
        refine lv_aload_n hx hb dX1_set_20 rfl (lv_at hl 0 rfl) ?_
        refine va_get (D := D) (ci := 1) (v := .ref (ad 4)) (C := RX1) (T := TX1) (N := 7) hx hb ht iX1 hown hK hP 3 rfl rfl 0 (by decide) (ht _ kw_424) (fun _ h9 => h9) rfl dX1_set_21 ?_
        refine va_get (D := D) (ci := 2) (v := .ref (ad 8)) (C := RX2) (T := TX2) (N := 13) hx hb ht iX2 hown hK hP 0 rfl rfl 3 (by decide) (ht _ kw_127) (fun _ h9 => h9) rfl dX1_set_24 ?_
        refine lv_iload_n hx hb dX1_set_27 rfl (lv_at hl 2 rfl) ?_
        refine lv_iload_n hx hb dX1_set_28 rfl (lv_at hl 3 rfl) ?_
        obtain ⟨g_14, h⟩ := zk_gd h
        obtain ⟨f_15, ef_15, h⟩ := zk_lt h
        refine va_iast hx hb hK hP hD hS 1 0 rfl rfl g_14 dX1_set_29 (fun H locs hP hD hS => ?_)
        have hP : va_P D classes (wl_X1_set ad cs LP S_a S_b court_shoeCount court_claimCount court_suitCount f_15 court_suits chg_done chg_size S_who S_against S_kind S_won S_day S_land S_undoneFrom S_asked S_askedCount S_askedBits S_first S_foundSo S_foundNot S_fought S_needed) H := by rw [ef_15]; exact hP
        have hD : va_D A (wl_X1_set ad cs LP S_a S_b court_shoeCount court_claimCount court_suitCount f_15 court_suits chg_done chg_size S_who S_against S_kind S_won S_day S_land S_undoneFrom S_asked S_askedCount S_askedBits S_first S_foundSo S_foundNot S_fought S_needed) := by rw [ef_15]; exact hD
        exact W.vret hx hb hr (fun t ht2 hW => ⟨⟨(f_15, S_won, S_undoneFrom), rfl, Option.some.inj h, by rw [ht2]; exact hP, hD⟩, hS.F ht2⟩) hS.2.2 dX1_set_30 hlocks
set_option maxHeartbeats 4000000 in
set_option maxRecDepth 100000 in
theorem c_X1_set (l : Launch) (D : va_G) (cs : Nat → ClassId) (ad : Nat → Nat) (LP : va_W) (S_a : Nat → Nat) (S_b : Nat → Nat) (sz : Nat) (x1 : Int32) (x2 : Int32) (x3 : Int32) (court_shoeCount : Int32) (court_claimCount : Int32) (court_suitCount : Int32) (court_shoeDay : Nat → Int32) (court_suits : Nat → Option Nat) (chg_done : Int32) (chg_size : Int32) (S_who : Nat → Int32) (S_against : Nat → Int32) (S_kind : Nat → Int32) (S_won : Nat → Int32) (S_day : Nat → Int32) (S_land : Nat → Int32) (S_undoneFrom : Nat → Int32) (S_asked : Nat → Nat → Int32) (S_askedCount : Nat → Int32) (S_askedBits : Nat → Int32) (S_first : Nat → Int32) (S_foundSo : Nat → Int32) (S_foundNot : Nat → Int32) (S_fought : Nat → Int32) (S_needed : Nat → Int32) (hSA : ∀ i, i < court_suitCount.toInt.toNat → court_suits i = some (S_a i)) (R : (Nat → Int32) × (Nat → Int32) × (Nat → Int32)) (h : f_X1_set   x1 x2 x3 court_shoeCount court_claimCount court_suitCount court_shoeDay court_suits chg_done chg_size S_who S_against S_kind S_won S_day S_land S_undoneFrom S_asked S_askedCount S_askedBits S_first S_foundSo S_foundNot S_fought S_needed = some R) : Met l yX1_set (z_X1_set) rm_X1_set (va_Pc [.ref (ad 34), .int x1, .int x2, .int x3] (zPre D cs (wl_X1_set ad cs LP S_a S_b court_shoeCount court_claimCount court_suitCount court_shoeDay court_suits chg_done chg_size S_who S_against S_kind S_won S_day S_land S_undoneFrom S_asked S_askedCount S_askedBits S_first S_foundSo S_foundNot S_fought S_needed) sz)) (Q_X1_set D cs ad LP S_a S_b court_shoeCount court_claimCount court_suitCount court_suits chg_done chg_size S_who S_against S_kind S_day S_land S_asked S_askedCount S_askedBits S_first S_foundSo S_foundNot S_fought S_needed (va_A (wl_X1_set ad cs LP S_a S_b court_shoeCount court_claimCount court_suitCount court_shoeDay court_suits chg_done chg_size S_who S_against S_kind S_won S_day S_land S_undoneFrom S_asked S_askedCount S_askedBits S_first S_foundSo S_foundNot S_fought S_needed) sz) R) 0 0 (va_A (wl_X1_set ad cs LP S_a S_b court_shoeCount court_claimCount court_suitCount court_shoeDay court_suits chg_done chg_size S_who S_against S_kind S_won S_day S_land S_undoneFrom S_asked S_askedCount S_askedBits S_first S_foundSo S_foundNot S_fought S_needed) sz) := by
  refine Met.ofW (cc := cX1_set) (maxL := 5) (ret := none) (by decide) rfl ?_
  intro p e s m args below meth c s₁ B hml hv
  obtain ⟨rfl, hsz, hP, hK, hD0⟩ := hv
  subst hsz
  have hD := hD0.self (sz := s.heap.size)
  have C0 : zC p s m _ meth c cX1_set 5 none RX1 zW := ⟨B.exec, B.bytes, B.returns, hml, findClass_of_methodNamed B.named, fun w hw => atoms_spec (ws := z_X1_set) B.pre w (List.mem_cons_of_mem _ hw), B.notSynchronized⟩
  have hA : ∀ q : Nat, s.heap.size ≤ q → va_A (wl_X1_set ad cs LP S_a S_b court_shoeCount court_claimCount court_suitCount court_shoeDay court_suits chg_done chg_size S_who S_against S_kind S_won S_day S_land S_undoneFrom S_asked S_askedCount S_askedBits S_first S_foundSo S_foundNot S_fought S_needed) s.heap.size q := fun q h => Or.inr h
  have hl := lv_entry ([.ref (ad 34), .int x1, .int x2, .int x3]) (n := 5) (Nat.le_of_ble_eq_true rfl)
  rw [lg_entry_eq]
  generalize (lg_sl ([.ref (ad 34), .int x1, .int x2, .int x3]) ++ List.replicate (5 - (lg_sl ([.ref (ad 34), .int x1, .int x2, .int x3])).length) Slot.unset).toArray = ls at hl ⊢
  exact L_X1_set_0 C0 hK hA hSA   x1 x2 x3 court_shoeDay S_won S_undoneFrom h s.heap [] ls hP hD va_S.rf hl
theorem kw_83 : Cond.initialized RX1 ∈ zW := zwC (i := 9) zc_1 rfl rfl
theorem kw_425 : Cond.fieldLink RX1 9 "AlreadyJudged$Changes" "sorts" "[I" ∈ zW := zwC (i := 111) zc_2 rfl rfl
theorem kw_426 : Cond.fieldLink RX1 15 "AlreadyJudged$Changes" "numbers" "[I" ∈ zW := zwC (i := 112) zc_2 rfl rfl
theorem kw_427 : Cond.fieldLink RX1 18 "AlreadyJudged$Changes" "befores" "[I" ∈ zW := zwC (i := 113) zc_2 rfl rfl
theorem kw_428 : Cond.fieldLink RX1 21 "AlreadyJudged$Changes" "afters" "[I" ∈ zW := zwC (i := 114) zc_2 rfl rfl
theorem kw_429 : Cond.fieldLink RX1 28 "AlreadyJudged$Changes" "done" "I" ∈ zW := zwC (i := 115) zc_2 rfl rfl
theorem kw_431 : Cond.fieldLink RX1 36 "AlreadyJudged$Changes" "size" "I" ∈ zW := zwC (i := 117) zc_2 rfl rfl
theorem kw_778 : Cond.methodLink RX1 32 yX1_dropOldest ∈ zW := zwC (i := 224) zc_3 rfl rfl
theorem kw_779 : Cond.static yX1_dropOldest ∈ zW := zwC (i := 225) zc_3 rfl rfl
theorem kw_780 : Cond.code yX1_dropOldest cX1_dropOldest 1 none ∈ zW := zwC (i := 226) zc_3 rfl rfl
theorem kw_782 : Cond.methodLink RX1 39 yX1_set ∈ zW := zwC (i := 228) zc_3 rfl rfl
theorem kw_783 : Cond.instanceMethod yX1_set ∈ zW := zwC (i := 229) zc_3 rfl rfl
theorem kw_784 : Cond.selects RX1 yX1_set yX1_set ∈ zW := zwC (i := 230) zc_3 rfl rfl
theorem kw_785 : Cond.code yX1_set cX1_set 5 none ∈ zW := zwC (i := 231) zc_3 rfl rfl
theorem zh_cX1_make_0 : zck [29, 21, 4, 160, 0, 4, 177, 42, 180, 0, 28, 16, 40, 161, 0, 37, 42, 180, 0, 9, 184, 0] (zdu 0 cX1_make.data.toList) = true := by decide +kernel
theorem dX1_make_0 : decode cX1_make 0 = .ok (.iload_n 3, 1) := zo_29 zh_cX1_make_0 0 rfl
theorem dX1_make_1 : decode cX1_make 1 = .ok (.iload 4, 2) := zo_21 zh_cX1_make_0 1 rfl
theorem dX1_make_3 : decode cX1_make 3 = .ok (.if_icmp .ne 4, 3) := zo_p160 zh_cX1_make_0 3 4 rfl rfl
theorem dX1_make_6 : decode cX1_make 6 = .ok (.return_, 1) := zo_177 zh_cX1_make_0 6 rfl
theorem dX1_make_7 : decode cX1_make 7 = .ok (.aload_n 0, 1) := zo_42 zh_cX1_make_0 7 rfl
theorem dX1_make_8 : decode cX1_make 8 = .ok (.getfield 28, 3) := zo_180 zh_cX1_make_0 8 rfl
theorem dX1_make_11 : decode cX1_make 11 = .ok (.bipush 40, 2) := zo_p16 zh_cX1_make_0 11 40 rfl rfl
theorem dX1_make_13 : decode cX1_make 13 = .ok (.if_icmp .lt 37, 3) := zo_p161 zh_cX1_make_0 13 37 rfl rfl
theorem dX1_make_16 : decode cX1_make 16 = .ok (.aload_n 0, 1) := zo_42 zh_cX1_make_0 16 rfl
theorem dX1_make_17 : decode cX1_make 17 = .ok (.getfield 9, 3) := zo_180 zh_cX1_make_0 17 rfl
theorem zh_cX1_make_1 : zck [184, 0, 32, 42, 180, 0, 15, 184, 0, 32, 42, 180, 0, 18, 184, 0, 32, 42, 180, 0, 21, 184] (zdu 20 cX1_make.data.toList) = true := by decide +kernel
theorem dX1_make_20 : decode cX1_make 20 = .ok (.invokestatic 32, 3) := zo_184 zh_cX1_make_1 0 rfl
theorem dX1_make_23 : decode cX1_make 23 = .ok (.aload_n 0, 1) := zo_42 zh_cX1_make_1 3 rfl
theorem dX1_make_24 : decode cX1_make 24 = .ok (.getfield 15, 3) := zo_180 zh_cX1_make_1 4 rfl
theorem dX1_make_27 : decode cX1_make 27 = .ok (.invokestatic 32, 3) := zo_184 zh_cX1_make_1 7 rfl
theorem dX1_make_30 : decode cX1_make 30 = .ok (.aload_n 0, 1) := zo_42 zh_cX1_make_1 10 rfl
theorem dX1_make_31 : decode cX1_make 31 = .ok (.getfield 18, 3) := zo_180 zh_cX1_make_1 11 rfl
theorem dX1_make_34 : decode cX1_make 34 = .ok (.invokestatic 32, 3) := zo_184 zh_cX1_make_1 14 rfl
theorem dX1_make_37 : decode cX1_make 37 = .ok (.aload_n 0, 1) := zo_42 zh_cX1_make_1 17 rfl
theorem dX1_make_38 : decode cX1_make 38 = .ok (.getfield 21, 3) := zo_180 zh_cX1_make_1 18 rfl
theorem zh_cX1_make_2 : zck [21, 184, 0, 32, 42, 16, 39, 181, 0, 28, 42, 180, 0, 9, 42, 180, 0, 28, 27, 79, 42, 180] (zdu 40 cX1_make.data.toList) = true := by decide +kernel
theorem dX1_make_41 : decode cX1_make 41 = .ok (.invokestatic 32, 3) := zo_184 zh_cX1_make_2 1 rfl
theorem dX1_make_44 : decode cX1_make 44 = .ok (.aload_n 0, 1) := zo_42 zh_cX1_make_2 4 rfl
theorem dX1_make_45 : decode cX1_make 45 = .ok (.bipush 39, 2) := zo_p16 zh_cX1_make_2 5 39 rfl rfl
theorem dX1_make_47 : decode cX1_make 47 = .ok (.putfield 28, 3) := zo_181 zh_cX1_make_2 7 rfl
theorem dX1_make_50 : decode cX1_make 50 = .ok (.aload_n 0, 1) := zo_42 zh_cX1_make_2 10 rfl
theorem dX1_make_51 : decode cX1_make 51 = .ok (.getfield 9, 3) := zo_180 zh_cX1_make_2 11 rfl
theorem dX1_make_54 : decode cX1_make 54 = .ok (.aload_n 0, 1) := zo_42 zh_cX1_make_2 14 rfl
theorem dX1_make_55 : decode cX1_make 55 = .ok (.getfield 28, 3) := zo_180 zh_cX1_make_2 15 rfl
theorem dX1_make_58 : decode cX1_make 58 = .ok (.iload_n 1, 1) := zo_27 zh_cX1_make_2 18 rfl
theorem dX1_make_59 : decode cX1_make 59 = .ok (.iastore, 1) := zo_79 zh_cX1_make_2 19 rfl
theorem zh_cX1_make_3 : zck [42, 180, 0, 15, 42, 180, 0, 28, 28, 79, 42, 180, 0, 18, 42, 180, 0, 28, 29, 79, 42, 180] (zdu 60 cX1_make.data.toList) = true := by decide +kernel
theorem dX1_make_60 : decode cX1_make 60 = .ok (.aload_n 0, 1) := zo_42 zh_cX1_make_3 0 rfl
theorem dX1_make_61 : decode cX1_make 61 = .ok (.getfield 15, 3) := zo_180 zh_cX1_make_3 1 rfl
theorem dX1_make_64 : decode cX1_make 64 = .ok (.aload_n 0, 1) := zo_42 zh_cX1_make_3 4 rfl
theorem dX1_make_65 : decode cX1_make 65 = .ok (.getfield 28, 3) := zo_180 zh_cX1_make_3 5 rfl
theorem dX1_make_68 : decode cX1_make 68 = .ok (.iload_n 2, 1) := zo_28 zh_cX1_make_3 8 rfl
theorem dX1_make_69 : decode cX1_make 69 = .ok (.iastore, 1) := zo_79 zh_cX1_make_3 9 rfl
theorem dX1_make_70 : decode cX1_make 70 = .ok (.aload_n 0, 1) := zo_42 zh_cX1_make_3 10 rfl
theorem dX1_make_71 : decode cX1_make 71 = .ok (.getfield 18, 3) := zo_180 zh_cX1_make_3 11 rfl
theorem dX1_make_74 : decode cX1_make 74 = .ok (.aload_n 0, 1) := zo_42 zh_cX1_make_3 14 rfl
theorem dX1_make_75 : decode cX1_make 75 = .ok (.getfield 28, 3) := zo_180 zh_cX1_make_3 15 rfl
theorem dX1_make_78 : decode cX1_make 78 = .ok (.iload_n 3, 1) := zo_29 zh_cX1_make_3 18 rfl
theorem dX1_make_79 : decode cX1_make 79 = .ok (.iastore, 1) := zo_79 zh_cX1_make_3 19 rfl
theorem zh_cX1_make_4 : zck [42, 180, 0, 21, 42, 180, 0, 28, 21, 4, 79, 42, 89, 180, 0, 28, 4, 96, 181, 0, 28, 42] (zdu 80 cX1_make.data.toList) = true := by decide +kernel
theorem dX1_make_80 : decode cX1_make 80 = .ok (.aload_n 0, 1) := zo_42 zh_cX1_make_4 0 rfl
theorem dX1_make_81 : decode cX1_make 81 = .ok (.getfield 21, 3) := zo_180 zh_cX1_make_4 1 rfl
theorem dX1_make_84 : decode cX1_make 84 = .ok (.aload_n 0, 1) := zo_42 zh_cX1_make_4 4 rfl
theorem dX1_make_85 : decode cX1_make 85 = .ok (.getfield 28, 3) := zo_180 zh_cX1_make_4 5 rfl
theorem dX1_make_88 : decode cX1_make 88 = .ok (.iload 4, 2) := zo_21 zh_cX1_make_4 8 rfl
theorem dX1_make_90 : decode cX1_make 90 = .ok (.iastore, 1) := zo_79 zh_cX1_make_4 10 rfl
theorem dX1_make_91 : decode cX1_make 91 = .ok (.aload_n 0, 1) := zo_42 zh_cX1_make_4 11 rfl
theorem dX1_make_92 : decode cX1_make 92 = .ok (.dup, 1) := zo_89 zh_cX1_make_4 12 rfl
theorem dX1_make_93 : decode cX1_make 93 = .ok (.getfield 28, 3) := zo_180 zh_cX1_make_4 13 rfl
theorem dX1_make_96 : decode cX1_make 96 = .ok (.iconst 1, 1) := zo_4 zh_cX1_make_4 16 rfl
theorem dX1_make_97 : decode cX1_make 97 = .ok (.iadd, 1) := zo_96 zh_cX1_make_4 17 rfl
theorem dX1_make_98 : decode cX1_make 98 = .ok (.putfield 28, 3) := zo_181 zh_cX1_make_4 18 rfl
theorem zh_cX1_make_5 : zck [28, 42, 42, 180, 0, 28, 181, 0, 36, 42, 27, 28, 21, 4, 182, 0, 39, 177] (zdu 100 cX1_make.data.toList) = true := by decide +kernel
theorem dX1_make_101 : decode cX1_make 101 = .ok (.aload_n 0, 1) := zo_42 zh_cX1_make_5 1 rfl
theorem dX1_make_102 : decode cX1_make 102 = .ok (.aload_n 0, 1) := zo_42 zh_cX1_make_5 2 rfl
theorem dX1_make_103 : decode cX1_make 103 = .ok (.getfield 28, 3) := zo_180 zh_cX1_make_5 3 rfl
theorem dX1_make_106 : decode cX1_make 106 = .ok (.putfield 36, 3) := zo_181 zh_cX1_make_5 6 rfl
theorem dX1_make_109 : decode cX1_make 109 = .ok (.aload_n 0, 1) := zo_42 zh_cX1_make_5 9 rfl
theorem dX1_make_110 : decode cX1_make 110 = .ok (.iload_n 1, 1) := zo_27 zh_cX1_make_5 10 rfl
theorem dX1_make_111 : decode cX1_make 111 = .ok (.iload_n 2, 1) := zo_28 zh_cX1_make_5 11 rfl
theorem dX1_make_112 : decode cX1_make 112 = .ok (.iload 4, 2) := zo_21 zh_cX1_make_5 12 rfl
theorem dX1_make_114 : decode cX1_make 114 = .ok (.invokevirtual 39, 3) := zo_182 zh_cX1_make_5 14 rfl
theorem dX1_make_117 : decode cX1_make 117 = .ok (.return_, 1) := zo_177 zh_cX1_make_5 17 rfl
abbrev z_X1_make : List Cond := .code yX1_make cX1_make 5 none :: zW
abbrev wx_X1_make (ad : Nat → Nat) (cs : Nat → ClassId) (LP : va_W) (S_a : Nat → Nat) (S_b : Nat → Nat) (court_shoeCount : Int32) (court_claimCount : Int32) (court_suitCount : Int32) (court_shoeDay : Nat → Int32) (court_suits : Nat → Option Nat) (chg_done : Int32) (chg_size : Int32) (chg_sorts : Nat → Int32) (chg_numbers : Nat → Int32) (chg_befores : Nat → Int32) (chg_afters : Nat → Int32) (S_who : Nat → Int32) (S_against : Nat → Int32) (S_kind : Nat → Int32) (S_won : Nat → Int32) (S_day : Nat → Int32) (S_land : Nat → Int32) (S_undoneFrom : Nat → Int32) (S_asked : Nat → Nat → Int32) (S_askedCount : Nat → Int32) (S_askedBits : Nat → Int32) (S_first : Nat → Int32) (S_foundSo : Nat → Int32) (S_foundNot : Nat → Int32) (S_fought : Nat → Int32) (S_needed : Nat → Int32) : va_W := [((ad 4), .inr (2, [.ref (ad 5), .ref (ad 6), .ref (ad 7), .ref (ad 8), .ref (ad 9), .ref (ad 10), .ref (ad 11), .ref (ad 12), .ref (ad 13), .ref (ad 14), .int court_shoeCount, .int court_claimCount, .int court_suitCount])), ((ad 8), .inl (cs 0, 40, .inl court_shoeDay)), ((ad 13), .inl (cs 5, 40, .inr (.inr (.inr (.inr court_suits))))), ((ad 34), .inr (1, [.ref (ad 4), .ref (ad 35), .ref (ad 36), .ref (ad 37), .ref (ad 38), .int chg_done, .int chg_size])), ((ad 35), .inl (cs 0, 40, .inl chg_sorts)), ((ad 36), .inl (cs 0, 40, .inl chg_numbers)), ((ad 37), .inl (cs 0, 40, .inl chg_befores)), ((ad 38), .inl (cs 0, 40, .inl chg_afters))]
abbrev wl_X1_make (ad : Nat → Nat) (cs : Nat → ClassId) (LP : va_W) (S_a : Nat → Nat) (S_b : Nat → Nat) (court_shoeCount : Int32) (court_claimCount : Int32) (court_suitCount : Int32) (court_shoeDay : Nat → Int32) (court_suits : Nat → Option Nat) (chg_done : Int32) (chg_size : Int32) (chg_sorts : Nat → Int32) (chg_numbers : Nat → Int32) (chg_befores : Nat → Int32) (chg_afters : Nat → Int32) (S_who : Nat → Int32) (S_against : Nat → Int32) (S_kind : Nat → Int32) (S_won : Nat → Int32) (S_day : Nat → Int32) (S_land : Nat → Int32) (S_undoneFrom : Nat → Int32) (S_asked : Nat → Nat → Int32) (S_askedCount : Nat → Int32) (S_askedBits : Nat → Int32) (S_first : Nat → Int32) (S_foundSo : Nat → Int32) (S_foundNot : Nat → Int32) (S_fought : Nat → Int32) (S_needed : Nat → Int32) : va_W := wx_X1_make ad cs LP S_a S_b court_shoeCount court_claimCount court_suitCount court_shoeDay court_suits chg_done chg_size chg_sorts chg_numbers chg_befores chg_afters S_who S_against S_kind S_won S_day S_land S_undoneFrom S_asked S_askedCount S_askedBits S_first S_foundSo S_foundNot S_fought S_needed ++ (zSu cs S_a S_b court_suitCount.toInt.toNat S_who S_against S_kind S_won S_day S_land S_undoneFrom S_asked S_askedCount S_askedBits S_first S_foundSo S_foundNot S_fought S_needed ++ LP)
def Q_X1_make (D : va_G) (cs : Nat → ClassId) (ad : Nat → Nat) (LP : va_W) (S_a : Nat → Nat) (S_b : Nat → Nat) (court_shoeCount : Int32) (court_claimCount : Int32) (court_suitCount : Int32) (court_suits : Nat → Option Nat) (S_who : Nat → Int32) (S_against : Nat → Int32) (S_kind : Nat → Int32) (S_day : Nat → Int32) (S_land : Nat → Int32) (S_asked : Nat → Nat → Int32) (S_askedCount : Nat → Int32) (S_askedBits : Nat → Int32) (S_first : Nat → Int32) (S_foundSo : Nat → Int32) (S_foundNot : Nat → Int32) (S_fought : Nat → Int32) (S_needed : Nat → Int32) (A : Nat → Prop) (R : (Nat → Int32) × Int32 × Int32 × (Nat → Int32) × (Nat → Int32) × (Nat → Int32) × (Nat → Int32) × (Nat → Int32) × (Nat → Int32)) : Array Value → State → Outcome → State → Prop :=
  va_Qv (fun u : (Nat → Int32) × Int32 × Int32 × (Nat → Int32) × (Nat → Int32) × (Nat → Int32) × (Nat → Int32) × (Nat → Int32) × (Nat → Int32) => u = R) (fun (u : (Nat → Int32) × Int32 × Int32 × (Nat → Int32) × (Nat → Int32) × (Nat → Int32) × (Nat → Int32) × (Nat → Int32) × (Nat → Int32)) (t : State) => va_P D classes (wl_X1_make ad cs LP S_a S_b court_shoeCount court_claimCount court_suitCount u.1 court_suits u.2.1 u.2.2.1 u.2.2.2.1 u.2.2.2.2.1 u.2.2.2.2.2.1 u.2.2.2.2.2.2.1 S_who S_against S_kind u.2.2.2.2.2.2.2.1 S_day S_land u.2.2.2.2.2.2.2.2 S_asked S_askedCount S_askedBits S_first S_foundSo S_foundNot S_fought S_needed) t.heap ∧ va_D A (wl_X1_make ad cs LP S_a S_b court_shoeCount court_claimCount court_suitCount u.1 court_suits u.2.1 u.2.2.1 u.2.2.2.1 u.2.2.2.2.1 u.2.2.2.2.2.1 u.2.2.2.2.2.2.1 S_who S_against S_kind u.2.2.2.2.2.2.2.1 S_day S_land u.2.2.2.2.2.2.2.2 S_asked S_askedCount S_askedBits S_first S_foundSo S_foundNot S_fought S_needed)) A
abbrev rm_X1_make : Room := { frames := 2, cells := 0, slots := 0, locals := 60 }
theorem g_X1_32 : GoodIn zW (va_wsS RX1 32 yX1_dropOldest z_X1_dropOldest) := zGS kw_778 kw_779 kw_83 kw_780
theorem g_X1_39 : GoodIn zW (wsV RX1 39 RX1 yX1_set z_X1_set) := zGV kw_782 kw_783 kw_784 kw_83 kw_785
theorem hd_X1_dropOldest : yX1_dropOldest.cls ≠ "java/lang/invoke/MethodHandle" ∧ yX1_dropOldest.cls ≠ "java/lang/invoke/VarHandle" ∧ (parseMethodDescriptor yX1_dropOldest.desc).map (fun d => d.parameters.length) = some 1 := by decide +kernel
theorem hd_X1_set : yX1_set.cls ≠ "java/lang/invoke/MethodHandle" ∧ yX1_set.cls ≠ "java/lang/invoke/VarHandle" ∧ (parseMethodDescriptor yX1_set.desc).map (fun d => d.parameters.length) = some 3 := by decide +kernel
def B_X1_make_50    (court_shoeCount : Int32) (court_claimCount : Int32) (court_suitCount : Int32) (court_suits : Nat → Option Nat) (S_who : Nat → Int32) (S_against : Nat → Int32) (S_kind : Nat → Int32) (S_day : Nat → Int32) (S_land : Nat → Int32) (S_asked : Nat → Nat → Int32) (S_askedCount : Nat → Int32) (S_askedBits : Nat → Int32) (S_first : Nat → Int32) (S_foundSo : Nat → Int32) (S_foundNot : Nat → Int32) (S_fought : Nat → Int32) (S_needed : Nat → Int32) (x1 : Int32) (x2 : Int32) (x3 : Int32) (x4 : Int32) (court_shoeDay : Nat → Int32) (chg_done : Int32) (chg_size : Int32) (chg_sorts : Nat → Int32) (chg_numbers : Nat → Int32) (chg_befores : Nat → Int32) (chg_afters : Nat → Int32) (S_won : Nat → Int32) (S_undoneFrom : Nat → Int32) : Option ((Nat → Int32) × Int32 × Int32 × (Nat → Int32) × (Nat → Int32) × (Nat → Int32) × (Nat → Int32) × (Nat → Int32) × (Nat → Int32)) :=
  (if (chg_done < 0 ∨ 40 ≤ chg_done.toNatClampNeg) then none else (zk_let (upd chg_sorts chg_done.toNatClampNeg x1) (fun f_12 => (if (chg_done < 0 ∨ 40 ≤ chg_done.toNatClampNeg) then none else (zk_let (upd chg_numbers chg_done.toNatClampNeg x2) (fun f_14 => (if (chg_done < 0 ∨ 40 ≤ chg_done.toNatClampNeg) then none else (zk_let (upd chg_befores chg_done.toNatClampNeg x3) (fun f_16 => (if (chg_done < 0 ∨ 40 ≤ chg_done.toNatClampNeg) then none else (zk_let (upd chg_afters chg_done.toNatClampNeg x4) (fun f_18 => (zk_let (chg_done + (1 : Int32)) (fun v_19 => (zk_b3 (f_X1_set x1 x2 x4 court_shoeCount court_claimCount court_suitCount court_shoeDay court_suits v_19 v_19 S_who S_against S_kind S_won S_day S_land S_undoneFrom S_asked S_askedCount S_askedBits S_first S_foundSo S_foundNot S_fought S_needed) (fun u_20 u_21 u_22 => (some (u_20, v_19, v_19, f_12, f_14, f_16, f_18, u_21, u_22))))))))))))))))))
def B_X1_make_0    (court_shoeCount : Int32) (court_claimCount : Int32) (court_suitCount : Int32) (court_suits : Nat → Option Nat) (S_who : Nat → Int32) (S_against : Nat → Int32) (S_kind : Nat → Int32) (S_day : Nat → Int32) (S_land : Nat → Int32) (S_asked : Nat → Nat → Int32) (S_askedCount : Nat → Int32) (S_askedBits : Nat → Int32) (S_first : Nat → Int32) (S_foundSo : Nat → Int32) (S_foundNot : Nat → Int32) (S_fought : Nat → Int32) (S_needed : Nat → Int32) (x1 : Int32) (x2 : Int32) (x3 : Int32) (x4 : Int32) (court_shoeDay : Nat → Int32) (chg_done : Int32) (chg_size : Int32) (chg_sorts : Nat → Int32) (chg_numbers : Nat → Int32) (chg_befores : Nat → Int32) (chg_afters : Nat → Int32) (S_won : Nat → Int32) (S_undoneFrom : Nat → Int32) : Option ((Nat → Int32) × Int32 × Int32 × (Nat → Int32) × (Nat → Int32) × (Nat → Int32) × (Nat → Int32) × (Nat → Int32) × (Nat → Int32)) :=
  (if x3 = x4 then (some (court_shoeDay, chg_done, chg_size, chg_sorts, chg_numbers, chg_befores, chg_afters, S_won, S_undoneFrom)) else (if chg_done < (40 : Int32) then (B_X1_make_50 court_shoeCount court_claimCount court_suitCount court_suits S_who S_against S_kind S_day S_land S_asked S_askedCount S_askedBits S_first S_foundSo S_foundNot S_fought S_needed x1 x2 x3 x4 court_shoeDay chg_done chg_size chg_sorts chg_numbers chg_befores chg_afters S_won S_undoneFrom) else (zk_b1 (f_X1_dropOldest chg_sorts 40) (fun u_3 => (zk_b1 (f_X1_dropOldest chg_numbers 40) (fun u_5 => (zk_b1 (f_X1_dropOldest chg_befores 40) (fun u_7 => (zk_b1 (f_X1_dropOldest chg_afters 40) (fun u_9 => (B_X1_make_50 court_shoeCount court_claimCount court_suitCount court_suits S_who S_against S_kind S_day S_land S_asked S_askedCount S_askedBits S_first S_foundSo S_foundNot S_fought S_needed x1 x2 x3 x4 court_shoeDay (39 : Int32) chg_size u_3 u_5 u_7 u_9 S_won S_undoneFrom)))))))))))
def f_X1_make   (x1 : Int32) (x2 : Int32) (x3 : Int32) (x4 : Int32) (court_shoeCount : Int32) (court_claimCount : Int32) (court_suitCount : Int32) (court_shoeDay : Nat → Int32) (court_suits : Nat → Option Nat) (chg_done : Int32) (chg_size : Int32) (chg_sorts : Nat → Int32) (chg_numbers : Nat → Int32) (chg_befores : Nat → Int32) (chg_afters : Nat → Int32) (S_who : Nat → Int32) (S_against : Nat → Int32) (S_kind : Nat → Int32) (S_won : Nat → Int32) (S_day : Nat → Int32) (S_land : Nat → Int32) (S_undoneFrom : Nat → Int32) (S_asked : Nat → Nat → Int32) (S_askedCount : Nat → Int32) (S_askedBits : Nat → Int32) (S_first : Nat → Int32) (S_foundSo : Nat → Int32) (S_foundNot : Nat → Int32) (S_fought : Nat → Int32) (S_needed : Nat → Int32) : Option ((Nat → Int32) × Int32 × Int32 × (Nat → Int32) × (Nat → Int32) × (Nat → Int32) × (Nat → Int32) × (Nat → Int32) × (Nat → Int32)) := B_X1_make_0   court_shoeCount court_claimCount court_suitCount court_suits S_who S_against S_kind S_day S_land S_asked S_askedCount S_askedBits S_first S_foundSo S_foundNot S_fought S_needed x1 x2 x3 x4 court_shoeDay chg_done chg_size chg_sorts chg_numbers chg_befores chg_afters S_won S_undoneFrom
set_option maxHeartbeats 4000000 in
set_option maxRecDepth 100000 in
theorem L_X1_make_50 {p : Program} {l : Launch} {e : Env} {s : State} {m : MethodId} {args : Array Value} {below : List Frame} {meth : Method} {c : Code} {A : Nat → Prop} {D : va_G} {cs : Nat → ClassId} {ad : Nat → Nat} {LP : va_W} {S_a : Nat → Nat} {S_b : Nat → Nat} {court_shoeCount : Int32} {court_claimCount : Int32} {court_suitCount : Int32} {court_suits : Nat → Option Nat} {S_who : Nat → Int32} {S_against : Nat → Int32} {S_kind : Nat → Int32} {S_day : Nat → Int32} {S_land : Nat → Int32} {S_asked : Nat → Nat → Int32} {S_askedCount : Nat → Int32} {S_askedBits : Nat → Int32} {S_first : Nat → Int32} {S_foundSo : Nat → Int32} {S_foundNot : Nat → Int32} {S_fought : Nat → Int32} {S_needed : Nat → Int32} {R : (Nat → Int32) × Int32 × Int32 × (Nat → Int32) × (Nat → Int32) × (Nat → Int32) × (Nat → Int32) × (Nat → Int32) × (Nat → Int32)} (C0 : zC p s m args meth c cX1_make 5 none RX1 zW) (hK : va_K D classes (zT cs) s) (hA : ∀ q : Nat, s.heap.size ≤ q → A q) (hSA : ∀ i, i < court_suitCount.toInt.toNat → court_suits i = some (S_a i)) (x1 : Int32) (x2 : Int32) (x3 : Int32) (x4 : Int32) (court_shoeDay : Nat → Int32) (chg_done : Int32) (chg_size : Int32) (chg_sorts : Nat → Int32) (chg_numbers : Nat → Int32) (chg_befores : Nat → Int32) (chg_afters : Nat → Int32) (S_won : Nat → Int32) (S_undoneFrom : Nat → Int32) (h : B_X1_make_50 court_shoeCount court_claimCount court_suitCount court_suits S_who S_against S_kind S_day S_land S_asked S_askedCount S_askedBits S_first S_foundSo S_foundNot S_fought S_needed x1 x2 x3 x4 court_shoeDay chg_done chg_size chg_sorts chg_numbers chg_befores chg_afters S_won S_undoneFrom = some R) (H : Heap) (locs : List Loc) (ls : Array Slot) (hP : va_P D classes (wl_X1_make ad cs LP S_a S_b court_shoeCount court_claimCount court_suitCount court_shoeDay court_suits chg_done chg_size chg_sorts chg_numbers chg_befores chg_afters S_who S_against S_kind S_won S_day S_land S_undoneFrom S_asked S_askedCount S_askedBits S_first S_foundSo S_foundNot S_fought S_needed) H) (hD : va_D A (wl_X1_make ad cs LP S_a S_b court_shoeCount court_claimCount court_suitCount court_shoeDay court_suits chg_done chg_size chg_sorts chg_numbers chg_befores chg_afters S_who S_against S_kind S_won S_day S_land S_undoneFrom S_asked S_askedCount S_askedBits S_first S_foundSo S_foundNot S_fought S_needed)) (hS : va_S A s.heap H locs) (hl : lv_has ls 5 [(0, .ref (ad 34)), (1, .int x1), (2, .int x2), (3, .int x3), (4, .int x4)]) : W p l e rm_X1_make s m args below meth c H locs 0 0 (MQ below (Q_X1_make D cs ad LP S_a S_b court_shoeCount court_claimCount court_suitCount court_suits S_who S_against S_kind S_day S_land S_asked S_askedCount S_askedBits S_first S_foundSo S_foundNot S_fought S_needed A R) args s 0 0 A) (F0 m 50 ls []) := by
  obtain ⟨hx, hb, hr, hml, hown, ht, hlocks⟩ := id C0
  refine lv_aload_n hx hb dX1_make_50 rfl (lv_at hl 0 rfl) ?_
  refine va_get (D := D) (ci := 1) (v := .ref (ad 35)) (C := RX1) (T := TX1) (N := 7) hx hb ht iX1 hown hK hP 3 rfl rfl 1 (by decide) (ht _ kw_425) (fun _ h9 => h9) rfl dX1_make_51 ?_
  refine lv_aload_n hx hb dX1_make_54 rfl (lv_at hl 0 rfl) ?_
  refine va_get (D := D) (ci := 1) (v := .int chg_done) (C := RX1) (T := TX1) (N := 7) hx hb ht iX1 hown hK hP 3 rfl rfl 5 (by decide) (ht _ kw_429) (fun _ h9 => h9) rfl dX1_make_55 ?_
  refine lv_iload_n hx hb dX1_make_58 rfl (lv_at hl 1 rfl) ?_
  obtain ⟨g_11, h⟩ := zk_gd h
  obtain ⟨f_12, ef_12, h⟩ := zk_lt h
  refine va_iast hx hb hK hP hD hS 4 0 rfl rfl g_11 dX1_make_59 (fun H locs hP hD hS => ?_)
  have hP : va_P D classes (wl_X1_make ad cs LP S_a S_b court_shoeCount court_claimCount court_suitCount court_shoeDay court_suits chg_done chg_size f_12 chg_numbers chg_befores chg_afters S_who S_against S_kind S_won S_day S_land S_undoneFrom S_asked S_askedCount S_askedBits S_first S_foundSo S_foundNot S_fought S_needed) H := by rw [ef_12]; exact hP
  have hD : va_D A (wl_X1_make ad cs LP S_a S_b court_shoeCount court_claimCount court_suitCount court_shoeDay court_suits chg_done chg_size f_12 chg_numbers chg_befores chg_afters S_who S_against S_kind S_won S_day S_land S_undoneFrom S_asked S_askedCount S_askedBits S_first S_foundSo S_foundNot S_fought S_needed) := by rw [ef_12]; exact hD
  refine lv_aload_n hx hb dX1_make_60 rfl (lv_at hl 0 rfl) ?_
  refine va_get (D := D) (ci := 1) (v := .ref (ad 36)) (C := RX1) (T := TX1) (N := 7) hx hb ht iX1 hown hK hP 3 rfl rfl 2 (by decide) (ht _ kw_426) (fun _ h9 => h9) rfl dX1_make_61 ?_
  refine lv_aload_n hx hb dX1_make_64 rfl (lv_at hl 0 rfl) ?_
  refine va_get (D := D) (ci := 1) (v := .int chg_done) (C := RX1) (T := TX1) (N := 7) hx hb ht iX1 hown hK hP 3 rfl rfl 5 (by decide) (ht _ kw_429) (fun _ h9 => h9) rfl dX1_make_65 ?_
  refine lv_iload_n hx hb dX1_make_68 rfl (lv_at hl 2 rfl) ?_
  obtain ⟨g_13, h⟩ := zk_gd h
  obtain ⟨f_14, ef_14, h⟩ := zk_lt h
  refine va_iast hx hb hK hP hD hS 5 0 rfl rfl g_13 dX1_make_69 (fun H locs hP hD hS => ?_)
  have hP : va_P D classes (wl_X1_make ad cs LP S_a S_b court_shoeCount court_claimCount court_suitCount court_shoeDay court_suits chg_done chg_size f_12 f_14 chg_befores chg_afters S_who S_against S_kind S_won S_day S_land S_undoneFrom S_asked S_askedCount S_askedBits S_first S_foundSo S_foundNot S_fought S_needed) H := by rw [ef_14]; exact hP
  have hD : va_D A (wl_X1_make ad cs LP S_a S_b court_shoeCount court_claimCount court_suitCount court_shoeDay court_suits chg_done chg_size f_12 f_14 chg_befores chg_afters S_who S_against S_kind S_won S_day S_land S_undoneFrom S_asked S_askedCount S_askedBits S_first S_foundSo S_foundNot S_fought S_needed) := by rw [ef_14]; exact hD
  refine lv_aload_n hx hb dX1_make_70 rfl (lv_at hl 0 rfl) ?_
  refine va_get (D := D) (ci := 1) (v := .ref (ad 37)) (C := RX1) (T := TX1) (N := 7) hx hb ht iX1 hown hK hP 3 rfl rfl 3 (by decide) (ht _ kw_427) (fun _ h9 => h9) rfl dX1_make_71 ?_
  refine lv_aload_n hx hb dX1_make_74 rfl (lv_at hl 0 rfl) ?_
  refine va_get (D := D) (ci := 1) (v := .int chg_done) (C := RX1) (T := TX1) (N := 7) hx hb ht iX1 hown hK hP 3 rfl rfl 5 (by decide) (ht _ kw_429) (fun _ h9 => h9) rfl dX1_make_75 ?_
  refine lv_iload_n hx hb dX1_make_78 rfl (lv_at hl 3 rfl) ?_
  obtain ⟨g_15, h⟩ := zk_gd h
  obtain ⟨f_16, ef_16, h⟩ := zk_lt h
  refine va_iast hx hb hK hP hD hS 6 0 rfl rfl g_15 dX1_make_79 (fun H locs hP hD hS => ?_)
  have hP : va_P D classes (wl_X1_make ad cs LP S_a S_b court_shoeCount court_claimCount court_suitCount court_shoeDay court_suits chg_done chg_size f_12 f_14 f_16 chg_afters S_who S_against S_kind S_won S_day S_land S_undoneFrom S_asked S_askedCount S_askedBits S_first S_foundSo S_foundNot S_fought S_needed) H := by rw [ef_16]; exact hP
  have hD : va_D A (wl_X1_make ad cs LP S_a S_b court_shoeCount court_claimCount court_suitCount court_shoeDay court_suits chg_done chg_size f_12 f_14 f_16 chg_afters S_who S_against S_kind S_won S_day S_land S_undoneFrom S_asked S_askedCount S_askedBits S_first S_foundSo S_foundNot S_fought S_needed) := by rw [ef_16]; exact hD
  refine lv_aload_n hx hb dX1_make_80 rfl (lv_at hl 0 rfl) ?_
  refine va_get (D := D) (ci := 1) (v := .ref (ad 38)) (C := RX1) (T := TX1) (N := 7) hx hb ht iX1 hown hK hP 3 rfl rfl 4 (by decide) (ht _ kw_428) (fun _ h9 => h9) rfl dX1_make_81 ?_
  refine lv_aload_n hx hb dX1_make_84 rfl (lv_at hl 0 rfl) ?_
  refine va_get (D := D) (ci := 1) (v := .int chg_done) (C := RX1) (T := TX1) (N := 7) hx hb ht iX1 hown hK hP 3 rfl rfl 5 (by decide) (ht _ kw_429) (fun _ h9 => h9) rfl dX1_make_85 ?_
  refine lv_iload hx hb dX1_make_88 (lv_at hl 4 rfl) ?_
  obtain ⟨g_17, h⟩ := zk_gd h
  obtain ⟨f_18, ef_18, h⟩ := zk_lt h
  refine va_iast hx hb hK hP hD hS 7 0 rfl rfl g_17 dX1_make_90 (fun H locs hP hD hS => ?_)
  have hP : va_P D classes (wl_X1_make ad cs LP S_a S_b court_shoeCount court_claimCount court_suitCount court_shoeDay court_suits chg_done chg_size f_12 f_14 f_16 f_18 S_who S_against S_kind S_won S_day S_land S_undoneFrom S_asked S_askedCount S_askedBits S_first S_foundSo S_foundNot S_fought S_needed) H := by rw [ef_18]; exact hP
  have hD : va_D A (wl_X1_make ad cs LP S_a S_b court_shoeCount court_claimCount court_suitCount court_shoeDay court_suits chg_done chg_size f_12 f_14 f_16 f_18 S_who S_against S_kind S_won S_day S_land S_undoneFrom S_asked S_askedCount S_askedBits S_first S_foundSo S_foundNot S_fought S_needed) := by rw [ef_18]; exact hD
  refine lv_aload_n hx hb dX1_make_91 rfl (lv_at hl 0 rfl) ?_
  refine lv_dup hx hb dX1_make_92 rfl ?_
  refine va_get (D := D) (ci := 1) (v := .int chg_done) (C := RX1) (T := TX1) (N := 7) hx hb ht iX1 hown hK hP 3 rfl rfl 5 (by decide) (ht _ kw_429) (fun _ h9 => h9) rfl dX1_make_93 ?_
  refine lv_iconst (v := (1 : Int32)) hx hb dX1_make_96 (by decide) ?_
  refine lv_iadd hx hb dX1_make_97 ?_
  obtain ⟨v_19, ev_19, h⟩ := zk_lt h
  refine W.eq (g2 := F0 m 98 ls [.int v_19, .ref (ad 34)]) (by rw [ev_19]) ?_
  refine va_put (D := D) (ci := 1) (v := .int v_19) (ty := .int) (C := RX1) (T := TX1) (N := 7) hx hb ht iX1 tyX1 tyX1_ok nmX1 hown hK hP hD hS 3 rfl rfl 5 (by decide) (ht _ kw_429) (fun _ h9 => h9) rfl (by decide +kernel) rfl rfl (Nat.le_of_ble_eq_true rfl) dX1_make_98 (fun H locs hP hD hS => ?_)
  have hP : va_P D classes (wl_X1_make ad cs LP S_a S_b court_shoeCount court_claimCount court_suitCount court_shoeDay court_suits v_19 chg_size f_12 f_14 f_16 f_18 S_who S_against S_kind S_won S_day S_land S_undoneFrom S_asked S_askedCount S_askedBits S_first S_foundSo S_foundNot S_fought S_needed) H := hP
  have hD : va_D A (wl_X1_make ad cs LP S_a S_b court_shoeCount court_claimCount court_suitCount court_shoeDay court_suits v_19 chg_size f_12 f_14 f_16 f_18 S_who S_against S_kind S_won S_day S_land S_undoneFrom S_asked S_askedCount S_askedBits S_first S_foundSo S_foundNot S_fought S_needed) := hD
  refine lv_aload_n hx hb dX1_make_101 rfl (lv_at hl 0 rfl) ?_
  refine lv_aload_n hx hb dX1_make_102 rfl (lv_at hl 0 rfl) ?_
  refine va_get (D := D) (ci := 1) (v := .int v_19) (C := RX1) (T := TX1) (N := 7) hx hb ht iX1 hown hK hP 3 rfl rfl 5 (by decide) (ht _ kw_429) (fun _ h9 => h9) rfl dX1_make_103 ?_
  refine va_put (D := D) (ci := 1) (v := .int v_19) (ty := .int) (C := RX1) (T := TX1) (N := 7) hx hb ht iX1 tyX1 tyX1_ok nmX1 hown hK hP hD hS 3 rfl rfl 6 (by decide) (ht _ kw_431) (fun _ h9 => h9) rfl (by decide +kernel) rfl rfl (Nat.le_of_ble_eq_true rfl) dX1_make_106 (fun H locs hP hD hS => ?_)
  have hP : va_P D classes (wl_X1_make ad cs LP S_a S_b court_shoeCount court_claimCount court_suitCount court_shoeDay court_suits v_19 v_19 f_12 f_14 f_16 f_18 S_who S_against S_kind S_won S_day S_land S_undoneFrom S_asked S_askedCount S_askedBits S_first S_foundSo S_foundNot S_fought S_needed) H := hP
  have hD : va_D A (wl_X1_make ad cs LP S_a S_b court_shoeCount court_claimCount court_suitCount court_shoeDay court_suits v_19 v_19 f_12 f_14 f_16 f_18 S_who S_against S_kind S_won S_day S_land S_undoneFrom S_asked S_askedCount S_askedBits S_first S_foundSo S_foundNot S_fought S_needed) := hD
  refine lv_aload_n hx hb dX1_make_109 rfl (lv_at hl 0 rfl) ?_
  refine lv_iload_n hx hb dX1_make_110 rfl (lv_at hl 1 rfl) ?_
  refine lv_iload_n hx hb dX1_make_111 rfl (lv_at hl 2 rfl) ?_
  refine lv_iload hx hb dX1_make_112 (lv_at hl 4 rfl) ?_
  obtain ⟨u_20, u_21, u_22, hc_23, h⟩ := zk_o3 h
  refine zk_vvP (post := (fun u => u = (u_20, u_21, u_22))) (w1 := fun u => (wx_X1_set ad cs LP S_a S_b court_shoeCount court_claimCount court_suitCount u.1 court_suits v_19 v_19 S_who S_against S_kind u.2.1 S_day S_land u.2.2 S_asked S_askedCount S_askedBits S_first S_foundSo S_foundNot S_fought S_needed)) (pl1 := fun u => (zSu cs S_a S_b court_suitCount.toInt.toNat S_who S_against S_kind u.2.1 S_day S_land u.2.2 S_asked S_askedCount S_askedBits S_first S_foundSo S_foundNot S_fought S_needed ++ LP)) (As := [.int x1, .int x2, .int x4]) (rest := []) (c_X1_set l D cs ad LP S_a S_b H.size x1 x2 x4 court_shoeCount court_claimCount court_suitCount court_shoeDay court_suits v_19 v_19 S_who S_against S_kind S_won S_day S_land S_undoneFrom S_asked S_askedCount S_askedBits S_first S_foundSo S_foundNot S_fought S_needed hSA (u_20, u_21, u_22) hc_23) ⟨hx, hb, hml, hown, ht⟩ (cwV 3 ht g_X1_39 rfl rfl rfl ⟨rfl, hd_X1_set⟩ ⟨Nat.le_of_ble_eq_true rfl, Nat.le_of_ble_eq_true rfl⟩) (va_recv hK hP (ci := 1) (q0 := 3) rfl rfl) hP hD hS hK hA [0, 1, 2, 3] [4, 5, 6, 7] rfl rfl rfl rfl (by decide) rfl hl.1 (Nat.le_of_ble_eq_true rfl) dX1_make_114 ⟨Nat.zero_le _, Nat.zero_le _⟩ (fun u H locs hq hP hD hS => ?_)
  cases hq
  have hP : va_P D classes (wl_X1_make ad cs LP S_a S_b court_shoeCount court_claimCount court_suitCount u_20 court_suits v_19 v_19 f_12 f_14 f_16 f_18 S_who S_against S_kind u_21 S_day S_land u_22 S_asked S_askedCount S_askedBits S_first S_foundSo S_foundNot S_fought S_needed) H := hP.part [4, 5, 6, 7, 0, 1, 2, 3] rfl
  have hD : va_D A (wl_X1_make ad cs LP S_a S_b court_shoeCount court_claimCount court_suitCount u_20 court_suits v_19 v_19 f_12 f_14 f_16 f_18 S_who S_against S_kind u_21 S_day S_land u_22 S_asked S_askedCount S_askedBits S_first S_foundSo S_foundNot S_fought S_needed) := hD.part [4, 5, 6, 7, 0, 1, 2, 3] rfl rfl
  exact W.vret hx hb hr (fun t ht2 hW => ⟨⟨(u_20, v_19, v_19, f_12, f_14, f_16, f_18, u_21, u_22), rfl, Option.some.inj h, by rw [ht2]; exact hP, hD⟩, hS.F ht2⟩) hS.2.2 dX1_make_117 hlocks
set_option maxHeartbeats 4000000 in
set_option maxRecDepth 100000 in
theorem L_X1_make_0 {p : Program} {l : Launch} {e : Env} {s : State} {m : MethodId} {args : Array Value} {below : List Frame} {meth : Method} {c : Code} {A : Nat → Prop} {D : va_G} {cs : Nat → ClassId} {ad : Nat → Nat} {LP : va_W} {S_a : Nat → Nat} {S_b : Nat → Nat} {court_shoeCount : Int32} {court_claimCount : Int32} {court_suitCount : Int32} {court_suits : Nat → Option Nat} {S_who : Nat → Int32} {S_against : Nat → Int32} {S_kind : Nat → Int32} {S_day : Nat → Int32} {S_land : Nat → Int32} {S_asked : Nat → Nat → Int32} {S_askedCount : Nat → Int32} {S_askedBits : Nat → Int32} {S_first : Nat → Int32} {S_foundSo : Nat → Int32} {S_foundNot : Nat → Int32} {S_fought : Nat → Int32} {S_needed : Nat → Int32} {R : (Nat → Int32) × Int32 × Int32 × (Nat → Int32) × (Nat → Int32) × (Nat → Int32) × (Nat → Int32) × (Nat → Int32) × (Nat → Int32)} (C0 : zC p s m args meth c cX1_make 5 none RX1 zW) (hK : va_K D classes (zT cs) s) (hA : ∀ q : Nat, s.heap.size ≤ q → A q) (hSA : ∀ i, i < court_suitCount.toInt.toNat → court_suits i = some (S_a i)) (x1 : Int32) (x2 : Int32) (x3 : Int32) (x4 : Int32) (court_shoeDay : Nat → Int32) (chg_done : Int32) (chg_size : Int32) (chg_sorts : Nat → Int32) (chg_numbers : Nat → Int32) (chg_befores : Nat → Int32) (chg_afters : Nat → Int32) (S_won : Nat → Int32) (S_undoneFrom : Nat → Int32) (h : B_X1_make_0 court_shoeCount court_claimCount court_suitCount court_suits S_who S_against S_kind S_day S_land S_asked S_askedCount S_askedBits S_first S_foundSo S_foundNot S_fought S_needed x1 x2 x3 x4 court_shoeDay chg_done chg_size chg_sorts chg_numbers chg_befores chg_afters S_won S_undoneFrom = some R) (H : Heap) (locs : List Loc) (ls : Array Slot) (hP : va_P D classes (wl_X1_make ad cs LP S_a S_b court_shoeCount court_claimCount court_suitCount court_shoeDay court_suits chg_done chg_size chg_sorts chg_numbers chg_befores chg_afters S_who S_against S_kind S_won S_day S_land S_undoneFrom S_asked S_askedCount S_askedBits S_first S_foundSo S_foundNot S_fought S_needed) H) (hD : va_D A (wl_X1_make ad cs LP S_a S_b court_shoeCount court_claimCount court_suitCount court_shoeDay court_suits chg_done chg_size chg_sorts chg_numbers chg_befores chg_afters S_who S_against S_kind S_won S_day S_land S_undoneFrom S_asked S_askedCount S_askedBits S_first S_foundSo S_foundNot S_fought S_needed)) (hS : va_S A s.heap H locs) (hl : lv_has ls 5 [(0, .ref (ad 34)), (1, .int x1), (2, .int x2), (3, .int x3), (4, .int x4)]) : W p l e rm_X1_make s m args below meth c H locs 0 0 (MQ below (Q_X1_make D cs ad LP S_a S_b court_shoeCount court_claimCount court_suitCount court_suits S_who S_against S_kind S_day S_land S_asked S_askedCount S_askedBits S_first S_foundSo S_foundNot S_fought S_needed A R) args s 0 0 A) (F0 m 0 ls []) := by
  obtain ⟨hx, hb, hr, hml, hown, ht, hlocks⟩ := id C0
  refine lv_iload_n hx hb dX1_make_0 rfl (lv_at hl 3 rfl) ?_
  refine lv_iload hx hb dX1_make_1 (lv_at hl 4 rfl) ?_
  refine lv_icmp_ne (tgt := 7) hx hb dX1_make_3 (by decide) (fun c_1 => ?_) (fun c_1 => ?_)
  · have h := zk_f c_1 h
    refine lv_aload_n hx hb dX1_make_7 rfl (lv_at hl 0 rfl) ?_
    refine va_get (D := D) (ci := 1) (v := .int chg_done) (C := RX1) (T := TX1) (N := 7) hx hb ht iX1 hown hK hP 3 rfl rfl 5 (by decide) (ht _ kw_429) (fun _ h9 => h9) rfl dX1_make_8 ?_
    refine lv_bipush (v := (40 : Int32)) hx hb dX1_make_11 (by decide) ?_
    refine lv_icmp_lt (tgt := 50) hx hb dX1_make_13 (by decide) (fun c_2 => ?_) (fun c_2 => ?_)
    · have h := zk_t c_2 h
      exact L_X1_make_50 C0 hK hA hSA   x1 x2 x3 x4 court_shoeDay chg_done chg_size chg_sorts chg_numbers chg_befores chg_afters S_won S_undoneFrom h H locs ls hP hD hS (lv_sub hl [0, 1, 2, 3, 4] rfl)
    · have h := zk_f c_2 h
      refine lv_aload_n hx hb dX1_make_16 rfl (lv_at hl 0 rfl) ?_
      refine va_get (D := D) (ci := 1) (v := .ref (ad 35)) (C := RX1) (T := TX1) (N := 7) hx hb ht iX1 hown hK hP 3 rfl rfl 1 (by decide) (ht _ kw_425) (fun _ h9 => h9) rfl dX1_make_17 ?_
      obtain ⟨u_3, hc_4, h⟩ := zk_o1 h
      refine zz_svQ (post := (fun u => u = u_3)) (w1 := fun u => (wl_X1_dropOldest ad cs (ad 35) u 40)) (As := [.ref (ad 35)]) (rest := []) (c_X1_dropOldest l D cs ad (ad 35) H.size chg_sorts 40 u_3 hc_4) ⟨hx, hb, hml, hown, ht⟩ (va_cwS 1 ht g_X1_32 rfl rfl rfl hd_X1_dropOldest ⟨Nat.le_of_ble_eq_true rfl, Nat.le_of_ble_eq_true rfl⟩) hP hD hS hK hA [4] rfl rfl [(ad 35)] rfl (fun _ => rfl) rfl hl.1 (Nat.le_of_ble_eq_true rfl) dX1_make_20 ⟨Nat.zero_le _, Nat.zero_le _⟩ (fun u H locs hq hP hS => ?_)
      cases hq
      have hP : va_P D classes (wl_X1_make ad cs LP S_a S_b court_shoeCount court_claimCount court_suitCount court_shoeDay court_suits chg_done chg_size u_3 chg_numbers chg_befores chg_afters S_who S_against S_kind S_won S_day S_land S_undoneFrom S_asked S_askedCount S_askedBits S_first S_foundSo S_foundNot S_fought S_needed) H := hP
      have hD : va_D A (wl_X1_make ad cs LP S_a S_b court_shoeCount court_claimCount court_suitCount court_shoeDay court_suits chg_done chg_size u_3 chg_numbers chg_befores chg_afters S_who S_against S_kind S_won S_day S_land S_undoneFrom S_asked S_askedCount S_askedBits S_first S_foundSo S_foundNot S_fought S_needed) := zDkp hD [(ad 4), (ad 8), (ad 13), (ad 34), (ad 35), (ad 36), (ad 37), (ad 38)] rfl rfl
      refine lv_aload_n hx hb dX1_make_23 rfl (lv_at hl 0 rfl) ?_
      refine va_get (D := D) (ci := 1) (v := .ref (ad 36)) (C := RX1) (T := TX1) (N := 7) hx hb ht iX1 hown hK hP 3 rfl rfl 2 (by decide) (ht _ kw_426) (fun _ h9 => h9) rfl dX1_make_24 ?_
      obtain ⟨u_5, hc_6, h⟩ := zk_o1 h
      refine zz_svQ (post := (fun u => u = u_5)) (w1 := fun u => (wl_X1_dropOldest ad cs (ad 36) u 40)) (As := [.ref (ad 36)]) (rest := []) (c_X1_dropOldest l D cs ad (ad 36) H.size chg_numbers 40 u_5 hc_6) ⟨hx, hb, hml, hown, ht⟩ (va_cwS 1 ht g_X1_32 rfl rfl rfl hd_X1_dropOldest ⟨Nat.le_of_ble_eq_true rfl, Nat.le_of_ble_eq_true rfl⟩) hP hD hS hK hA [5] rfl rfl [(ad 36)] rfl (fun _ => rfl) rfl hl.1 (Nat.le_of_ble_eq_true rfl) dX1_make_27 ⟨Nat.zero_le _, Nat.zero_le _⟩ (fun u H locs hq hP hS => ?_)
      cases hq
      have hP : va_P D classes (wl_X1_make ad cs LP S_a S_b court_shoeCount court_claimCount court_suitCount court_shoeDay court_suits chg_done chg_size u_3 u_5 chg_befores chg_afters S_who S_against S_kind S_won S_day S_land S_undoneFrom S_asked S_askedCount S_askedBits S_first S_foundSo S_foundNot S_fought S_needed) H := hP
      have hD : va_D A (wl_X1_make ad cs LP S_a S_b court_shoeCount court_claimCount court_suitCount court_shoeDay court_suits chg_done chg_size u_3 u_5 chg_befores chg_afters S_who S_against S_kind S_won S_day S_land S_undoneFrom S_asked S_askedCount S_askedBits S_first S_foundSo S_foundNot S_fought S_needed) := zDkp hD [(ad 4), (ad 8), (ad 13), (ad 34), (ad 35), (ad 36), (ad 37), (ad 38)] rfl rfl
      refine lv_aload_n hx hb dX1_make_30 rfl (lv_at hl 0 rfl) ?_
      refine va_get (D := D) (ci := 1) (v := .ref (ad 37)) (C := RX1) (T := TX1) (N := 7) hx hb ht iX1 hown hK hP 3 rfl rfl 3 (by decide) (ht _ kw_427) (fun _ h9 => h9) rfl dX1_make_31 ?_
      obtain ⟨u_7, hc_8, h⟩ := zk_o1 h
      refine zz_svQ (post := (fun u => u = u_7)) (w1 := fun u => (wl_X1_dropOldest ad cs (ad 37) u 40)) (As := [.ref (ad 37)]) (rest := []) (c_X1_dropOldest l D cs ad (ad 37) H.size chg_befores 40 u_7 hc_8) ⟨hx, hb, hml, hown, ht⟩ (va_cwS 1 ht g_X1_32 rfl rfl rfl hd_X1_dropOldest ⟨Nat.le_of_ble_eq_true rfl, Nat.le_of_ble_eq_true rfl⟩) hP hD hS hK hA [6] rfl rfl [(ad 37)] rfl (fun _ => rfl) rfl hl.1 (Nat.le_of_ble_eq_true rfl) dX1_make_34 ⟨Nat.zero_le _, Nat.zero_le _⟩ (fun u H locs hq hP hS => ?_)
      cases hq
      have hP : va_P D classes (wl_X1_make ad cs LP S_a S_b court_shoeCount court_claimCount court_suitCount court_shoeDay court_suits chg_done chg_size u_3 u_5 u_7 chg_afters S_who S_against S_kind S_won S_day S_land S_undoneFrom S_asked S_askedCount S_askedBits S_first S_foundSo S_foundNot S_fought S_needed) H := hP
      have hD : va_D A (wl_X1_make ad cs LP S_a S_b court_shoeCount court_claimCount court_suitCount court_shoeDay court_suits chg_done chg_size u_3 u_5 u_7 chg_afters S_who S_against S_kind S_won S_day S_land S_undoneFrom S_asked S_askedCount S_askedBits S_first S_foundSo S_foundNot S_fought S_needed) := zDkp hD [(ad 4), (ad 8), (ad 13), (ad 34), (ad 35), (ad 36), (ad 37), (ad 38)] rfl rfl
      refine lv_aload_n hx hb dX1_make_37 rfl (lv_at hl 0 rfl) ?_
      refine va_get (D := D) (ci := 1) (v := .ref (ad 38)) (C := RX1) (T := TX1) (N := 7) hx hb ht iX1 hown hK hP 3 rfl rfl 4 (by decide) (ht _ kw_428) (fun _ h9 => h9) rfl dX1_make_38 ?_
      obtain ⟨u_9, hc_10, h⟩ := zk_o1 h
      refine zz_svQ (post := (fun u => u = u_9)) (w1 := fun u => (wl_X1_dropOldest ad cs (ad 38) u 40)) (As := [.ref (ad 38)]) (rest := []) (c_X1_dropOldest l D cs ad (ad 38) H.size chg_afters 40 u_9 hc_10) ⟨hx, hb, hml, hown, ht⟩ (va_cwS 1 ht g_X1_32 rfl rfl rfl hd_X1_dropOldest ⟨Nat.le_of_ble_eq_true rfl, Nat.le_of_ble_eq_true rfl⟩) hP hD hS hK hA [7] rfl rfl [(ad 38)] rfl (fun _ => rfl) rfl hl.1 (Nat.le_of_ble_eq_true rfl) dX1_make_41 ⟨Nat.zero_le _, Nat.zero_le _⟩ (fun u H locs hq hP hS => ?_)
      cases hq
      have hP : va_P D classes (wl_X1_make ad cs LP S_a S_b court_shoeCount court_claimCount court_suitCount court_shoeDay court_suits chg_done chg_size u_3 u_5 u_7 u_9 S_who S_against S_kind S_won S_day S_land S_undoneFrom S_asked S_askedCount S_askedBits S_first S_foundSo S_foundNot S_fought S_needed) H := hP
      have hD : va_D A (wl_X1_make ad cs LP S_a S_b court_shoeCount court_claimCount court_suitCount court_shoeDay court_suits chg_done chg_size u_3 u_5 u_7 u_9 S_who S_against S_kind S_won S_day S_land S_undoneFrom S_asked S_askedCount S_askedBits S_first S_foundSo S_foundNot S_fought S_needed) := zDkp hD [(ad 4), (ad 8), (ad 13), (ad 34), (ad 35), (ad 36), (ad 37), (ad 38)] rfl rfl
      refine lv_aload_n hx hb dX1_make_44 rfl (lv_at hl 0 rfl) ?_
      refine lv_bipush (v := (39 : Int32)) hx hb dX1_make_45 (by decide) ?_
      refine va_put (D := D) (ci := 1) (v := .int (39 : Int32)) (ty := .int) (C := RX1) (T := TX1) (N := 7) hx hb ht iX1 tyX1 tyX1_ok nmX1 hown hK hP hD hS 3 rfl rfl 5 (by decide) (ht _ kw_429) (fun _ h9 => h9) rfl (by decide +kernel) rfl rfl (Nat.le_of_ble_eq_true rfl) dX1_make_47 (fun H locs hP hD hS => ?_)
      have hP : va_P D classes (wl_X1_make ad cs LP S_a S_b court_shoeCount court_claimCount court_suitCount court_shoeDay court_suits (39 : Int32) chg_size u_3 u_5 u_7 u_9 S_who S_against S_kind S_won S_day S_land S_undoneFrom S_asked S_askedCount S_askedBits S_first S_foundSo S_foundNot S_fought S_needed) H := hP
      have hD : va_D A (wl_X1_make ad cs LP S_a S_b court_shoeCount court_claimCount court_suitCount court_shoeDay court_suits (39 : Int32) chg_size u_3 u_5 u_7 u_9 S_who S_against S_kind S_won S_day S_land S_undoneFrom S_asked S_askedCount S_askedBits S_first S_foundSo S_foundNot S_fought S_needed) := hD
      exact L_X1_make_50 C0 hK hA hSA   x1 x2 x3 x4 court_shoeDay (39 : Int32) chg_size u_3 u_5 u_7 u_9 S_won S_undoneFrom h H locs ls hP hD hS (lv_sub hl [0, 1, 2, 3, 4] rfl)
  · have h := zk_t c_1 h
    exact W.vret hx hb hr (fun t ht2 hW => ⟨⟨(court_shoeDay, chg_done, chg_size, chg_sorts, chg_numbers, chg_befores, chg_afters, S_won, S_undoneFrom), rfl, Option.some.inj h, by rw [ht2]; exact hP, hD⟩, hS.F ht2⟩) hS.2.2 dX1_make_6 hlocks
set_option maxHeartbeats 4000000 in
set_option maxRecDepth 100000 in
theorem c_X1_make (l : Launch) (D : va_G) (cs : Nat → ClassId) (ad : Nat → Nat) (LP : va_W) (S_a : Nat → Nat) (S_b : Nat → Nat) (sz : Nat) (x1 : Int32) (x2 : Int32) (x3 : Int32) (x4 : Int32) (court_shoeCount : Int32) (court_claimCount : Int32) (court_suitCount : Int32) (court_shoeDay : Nat → Int32) (court_suits : Nat → Option Nat) (chg_done : Int32) (chg_size : Int32) (chg_sorts : Nat → Int32) (chg_numbers : Nat → Int32) (chg_befores : Nat → Int32) (chg_afters : Nat → Int32) (S_who : Nat → Int32) (S_against : Nat → Int32) (S_kind : Nat → Int32) (S_won : Nat → Int32) (S_day : Nat → Int32) (S_land : Nat → Int32) (S_undoneFrom : Nat → Int32) (S_asked : Nat → Nat → Int32) (S_askedCount : Nat → Int32) (S_askedBits : Nat → Int32) (S_first : Nat → Int32) (S_foundSo : Nat → Int32) (S_foundNot : Nat → Int32) (S_fought : Nat → Int32) (S_needed : Nat → Int32) (hSA : ∀ i, i < court_suitCount.toInt.toNat → court_suits i = some (S_a i)) (R : (Nat → Int32) × Int32 × Int32 × (Nat → Int32) × (Nat → Int32) × (Nat → Int32) × (Nat → Int32) × (Nat → Int32) × (Nat → Int32)) (h : f_X1_make   x1 x2 x3 x4 court_shoeCount court_claimCount court_suitCount court_shoeDay court_suits chg_done chg_size chg_sorts chg_numbers chg_befores chg_afters S_who S_against S_kind S_won S_day S_land S_undoneFrom S_asked S_askedCount S_askedBits S_first S_foundSo S_foundNot S_fought S_needed = some R) : Met l yX1_make (z_X1_make) rm_X1_make (va_Pc [.ref (ad 34), .int x1, .int x2, .int x3, .int x4] (zPre D cs (wl_X1_make ad cs LP S_a S_b court_shoeCount court_claimCount court_suitCount court_shoeDay court_suits chg_done chg_size chg_sorts chg_numbers chg_befores chg_afters S_who S_against S_kind S_won S_day S_land S_undoneFrom S_asked S_askedCount S_askedBits S_first S_foundSo S_foundNot S_fought S_needed) sz)) (Q_X1_make D cs ad LP S_a S_b court_shoeCount court_claimCount court_suitCount court_suits S_who S_against S_kind S_day S_land S_asked S_askedCount S_askedBits S_first S_foundSo S_foundNot S_fought S_needed (va_A (wl_X1_make ad cs LP S_a S_b court_shoeCount court_claimCount court_suitCount court_shoeDay court_suits chg_done chg_size chg_sorts chg_numbers chg_befores chg_afters S_who S_against S_kind S_won S_day S_land S_undoneFrom S_asked S_askedCount S_askedBits S_first S_foundSo S_foundNot S_fought S_needed) sz) R) 0 0 (va_A (wl_X1_make ad cs LP S_a S_b court_shoeCount court_claimCount court_suitCount court_shoeDay court_suits chg_done chg_size chg_sorts chg_numbers chg_befores chg_afters S_who S_against S_kind S_won S_day S_land S_undoneFrom S_asked S_askedCount S_askedBits S_first S_foundSo S_foundNot S_fought S_needed) sz) := by
  refine Met.ofW (cc := cX1_make) (maxL := 5) (ret := none) (by decide) rfl ?_
  intro p e s m args below meth c s₁ B hml hv
  obtain ⟨rfl, hsz, hP, hK, hD0⟩ := hv
  subst hsz
  have hD := hD0.self (sz := s.heap.size)
  have C0 : zC p s m _ meth c cX1_make 5 none RX1 zW := ⟨B.exec, B.bytes, B.returns, hml, findClass_of_methodNamed B.named, fun w hw => atoms_spec (ws := z_X1_make) B.pre w (List.mem_cons_of_mem _ hw), B.notSynchronized⟩
  have hA : ∀ q : Nat, s.heap.size ≤ q → va_A (wl_X1_make ad cs LP S_a S_b court_shoeCount court_claimCount court_suitCount court_shoeDay court_suits chg_done chg_size chg_sorts chg_numbers chg_befores chg_afters S_who S_against S_kind S_won S_day S_land S_undoneFrom S_asked S_askedCount S_askedBits S_first S_foundSo S_foundNot S_fought S_needed) s.heap.size q := fun q h => Or.inr h
  have hl := lv_entry ([.ref (ad 34), .int x1, .int x2, .int x3, .int x4]) (n := 5) (Nat.le_of_ble_eq_true rfl)
  rw [lg_entry_eq]
  generalize (lg_sl ([.ref (ad 34), .int x1, .int x2, .int x3, .int x4]) ++ List.replicate (5 - (lg_sl ([.ref (ad 34), .int x1, .int x2, .int x3, .int x4])).length) Slot.unset).toArray = ls at hl ⊢
  exact L_X1_make_0 C0 hK hA hSA   x1 x2 x3 x4 court_shoeDay chg_done chg_size chg_sorts chg_numbers chg_befores chg_afters S_won S_undoneFrom h s.heap [] ls hP hD va_S.rf hl
theorem zh_cX1_back_0 : zck [42, 180, 0, 28, 157, 0, 6, 16, 251, 172, 42, 89, 180, 0, 28, 4, 100, 181, 0, 28, 42, 42] (zdu 0 cX1_back.data.toList) = true := by decide +kernel
theorem dX1_back_0 : decode cX1_back 0 = .ok (.aload_n 0, 1) := zo_42 zh_cX1_back_0 0 rfl
theorem dX1_back_1 : decode cX1_back 1 = .ok (.getfield 28, 3) := zo_180 zh_cX1_back_0 1 rfl
theorem zo_p157 {c : ByteArray} {s : Nat} {K : List Nat} (h : zck K (zdu s c.data.toList) = true) (k : Nat) (v : Nat) (hk : zt3 K k 157 v = true) (hv : Nat.ble v 32767 = true) : decode c (s + k) = .ok (.ifCond .gt (Int.ofNat v), 3) := by
  rw [← zsg16 hv]
  exact zde ((zbd (zu1 (zh3 h hk).1)).trans ((zbd (f := fun x => pure (Instr.ifCond .gt x)) (zdmp (zh3 h hk).2)).trans rfl))
theorem dX1_back_4 : decode cX1_back 4 = .ok (.ifCond .gt 6, 3) := zo_p157 zh_cX1_back_0 4 6 rfl rfl
theorem dX1_back_7 : decode cX1_back 7 = .ok (.bipush (-5), 2) := zo_n16 zh_cX1_back_0 7 4 rfl rfl
theorem dX1_back_9 : decode cX1_back 9 = .ok (.ireturn, 1) := zo_172 zh_cX1_back_0 9 rfl
theorem dX1_back_10 : decode cX1_back 10 = .ok (.aload_n 0, 1) := zo_42 zh_cX1_back_0 10 rfl
theorem dX1_back_11 : decode cX1_back 11 = .ok (.dup, 1) := zo_89 zh_cX1_back_0 11 rfl
theorem dX1_back_12 : decode cX1_back 12 = .ok (.getfield 28, 3) := zo_180 zh_cX1_back_0 12 rfl
theorem dX1_back_15 : decode cX1_back 15 = .ok (.iconst 1, 1) := zo_4 zh_cX1_back_0 15 rfl
theorem dX1_back_16 : decode cX1_back 16 = .ok (.isub, 1) := zo_100 zh_cX1_back_0 16 rfl
theorem dX1_back_17 : decode cX1_back 17 = .ok (.putfield 28, 3) := zo_181 zh_cX1_back_0 17 rfl
theorem zh_cX1_back_1 : zck [42, 42, 180, 0, 9, 42, 180, 0, 28, 46, 42, 180, 0, 15, 42, 180, 0, 28, 46, 42, 180, 0] (zdu 20 cX1_back.data.toList) = true := by decide +kernel
theorem dX1_back_20 : decode cX1_back 20 = .ok (.aload_n 0, 1) := zo_42 zh_cX1_back_1 0 rfl
theorem dX1_back_21 : decode cX1_back 21 = .ok (.aload_n 0, 1) := zo_42 zh_cX1_back_1 1 rfl
theorem dX1_back_22 : decode cX1_back 22 = .ok (.getfield 9, 3) := zo_180 zh_cX1_back_1 2 rfl
theorem dX1_back_25 : decode cX1_back 25 = .ok (.aload_n 0, 1) := zo_42 zh_cX1_back_1 5 rfl
theorem dX1_back_26 : decode cX1_back 26 = .ok (.getfield 28, 3) := zo_180 zh_cX1_back_1 6 rfl
theorem dX1_back_29 : decode cX1_back 29 = .ok (.iaload, 1) := zo_46 zh_cX1_back_1 9 rfl
theorem dX1_back_30 : decode cX1_back 30 = .ok (.aload_n 0, 1) := zo_42 zh_cX1_back_1 10 rfl
theorem dX1_back_31 : decode cX1_back 31 = .ok (.getfield 15, 3) := zo_180 zh_cX1_back_1 11 rfl
theorem dX1_back_34 : decode cX1_back 34 = .ok (.aload_n 0, 1) := zo_42 zh_cX1_back_1 14 rfl
theorem dX1_back_35 : decode cX1_back 35 = .ok (.getfield 28, 3) := zo_180 zh_cX1_back_1 15 rfl
theorem dX1_back_38 : decode cX1_back 38 = .ok (.iaload, 1) := zo_46 zh_cX1_back_1 18 rfl
theorem dX1_back_39 : decode cX1_back 39 = .ok (.aload_n 0, 1) := zo_42 zh_cX1_back_1 19 rfl
theorem zh_cX1_back_2 : zck [180, 0, 18, 42, 180, 0, 28, 46, 182, 0, 39, 42, 180, 0, 28, 172] (zdu 40 cX1_back.data.toList) = true := by decide +kernel
theorem dX1_back_40 : decode cX1_back 40 = .ok (.getfield 18, 3) := zo_180 zh_cX1_back_2 0 rfl
theorem dX1_back_43 : decode cX1_back 43 = .ok (.aload_n 0, 1) := zo_42 zh_cX1_back_2 3 rfl
theorem dX1_back_44 : decode cX1_back 44 = .ok (.getfield 28, 3) := zo_180 zh_cX1_back_2 4 rfl
theorem dX1_back_47 : decode cX1_back 47 = .ok (.iaload, 1) := zo_46 zh_cX1_back_2 7 rfl
theorem dX1_back_48 : decode cX1_back 48 = .ok (.invokevirtual 39, 3) := zo_182 zh_cX1_back_2 8 rfl
theorem dX1_back_51 : decode cX1_back 51 = .ok (.aload_n 0, 1) := zo_42 zh_cX1_back_2 11 rfl
theorem dX1_back_52 : decode cX1_back 52 = .ok (.getfield 28, 3) := zo_180 zh_cX1_back_2 12 rfl
theorem dX1_back_55 : decode cX1_back 55 = .ok (.ireturn, 1) := zo_172 zh_cX1_back_2 15 rfl
abbrev z_X1_back : List Cond := .code yX1_back cX1_back 1 (some .int) :: zW
abbrev wx_X1_back (ad : Nat → Nat) (cs : Nat → ClassId) (LP : va_W) (S_a : Nat → Nat) (S_b : Nat → Nat) (court_shoeCount : Int32) (court_claimCount : Int32) (court_suitCount : Int32) (court_shoeDay : Nat → Int32) (court_suits : Nat → Option Nat) (chg_done : Int32) (chg_size : Int32) (chg_sorts : Nat → Int32) (chg_numbers : Nat → Int32) (chg_befores : Nat → Int32) (S_who : Nat → Int32) (S_against : Nat → Int32) (S_kind : Nat → Int32) (S_won : Nat → Int32) (S_day : Nat → Int32) (S_land : Nat → Int32) (S_undoneFrom : Nat → Int32) (S_asked : Nat → Nat → Int32) (S_askedCount : Nat → Int32) (S_askedBits : Nat → Int32) (S_first : Nat → Int32) (S_foundSo : Nat → Int32) (S_foundNot : Nat → Int32) (S_fought : Nat → Int32) (S_needed : Nat → Int32) : va_W := [((ad 4), .inr (2, [.ref (ad 5), .ref (ad 6), .ref (ad 7), .ref (ad 8), .ref (ad 9), .ref (ad 10), .ref (ad 11), .ref (ad 12), .ref (ad 13), .ref (ad 14), .int court_shoeCount, .int court_claimCount, .int court_suitCount])), ((ad 8), .inl (cs 0, 40, .inl court_shoeDay)), ((ad 13), .inl (cs 5, 40, .inr (.inr (.inr (.inr court_suits))))), ((ad 34), .inr (1, [.ref (ad 4), .ref (ad 35), .ref (ad 36), .ref (ad 37), .ref (ad 38), .int chg_done, .int chg_size])), ((ad 35), .inl (cs 0, 40, .inl chg_sorts)), ((ad 36), .inl (cs 0, 40, .inl chg_numbers)), ((ad 37), .inl (cs 0, 40, .inl chg_befores))]
abbrev wl_X1_back (ad : Nat → Nat) (cs : Nat → ClassId) (LP : va_W) (S_a : Nat → Nat) (S_b : Nat → Nat) (court_shoeCount : Int32) (court_claimCount : Int32) (court_suitCount : Int32) (court_shoeDay : Nat → Int32) (court_suits : Nat → Option Nat) (chg_done : Int32) (chg_size : Int32) (chg_sorts : Nat → Int32) (chg_numbers : Nat → Int32) (chg_befores : Nat → Int32) (S_who : Nat → Int32) (S_against : Nat → Int32) (S_kind : Nat → Int32) (S_won : Nat → Int32) (S_day : Nat → Int32) (S_land : Nat → Int32) (S_undoneFrom : Nat → Int32) (S_asked : Nat → Nat → Int32) (S_askedCount : Nat → Int32) (S_askedBits : Nat → Int32) (S_first : Nat → Int32) (S_foundSo : Nat → Int32) (S_foundNot : Nat → Int32) (S_fought : Nat → Int32) (S_needed : Nat → Int32) : va_W := wx_X1_back ad cs LP S_a S_b court_shoeCount court_claimCount court_suitCount court_shoeDay court_suits chg_done chg_size chg_sorts chg_numbers chg_befores S_who S_against S_kind S_won S_day S_land S_undoneFrom S_asked S_askedCount S_askedBits S_first S_foundSo S_foundNot S_fought S_needed ++ (zSu cs S_a S_b court_suitCount.toInt.toNat S_who S_against S_kind S_won S_day S_land S_undoneFrom S_asked S_askedCount S_askedBits S_first S_foundSo S_foundNot S_fought S_needed ++ LP)
def Q_X1_back (D : va_G) (cs : Nat → ClassId) (ad : Nat → Nat) (LP : va_W) (S_a : Nat → Nat) (S_b : Nat → Nat) (court_shoeCount : Int32) (court_claimCount : Int32) (court_suitCount : Int32) (court_suits : Nat → Option Nat) (chg_size : Int32) (chg_sorts : Nat → Int32) (chg_numbers : Nat → Int32) (chg_befores : Nat → Int32) (S_who : Nat → Int32) (S_against : Nat → Int32) (S_kind : Nat → Int32) (S_day : Nat → Int32) (S_land : Nat → Int32) (S_asked : Nat → Nat → Int32) (S_askedCount : Nat → Int32) (S_askedBits : Nat → Int32) (S_first : Nat → Int32) (S_foundSo : Nat → Int32) (S_foundNot : Nat → Int32) (S_fought : Nat → Int32) (S_needed : Nat → Int32) (A : Nat → Prop) (R : Int32 × (Nat → Int32) × Int32 × (Nat → Int32) × (Nat → Int32)) : Array Value → State → Outcome → State → Prop :=
  va_Qi (fun (r : Int32) (u : (Nat → Int32) × Int32 × (Nat → Int32) × (Nat → Int32)) => (r, u) = R) (fun (u : (Nat → Int32) × Int32 × (Nat → Int32) × (Nat → Int32)) (t : State) => va_P D classes (wl_X1_back ad cs LP S_a S_b court_shoeCount court_claimCount court_suitCount u.1 court_suits u.2.1 chg_size chg_sorts chg_numbers chg_befores S_who S_against S_kind u.2.2.1 S_day S_land u.2.2.2 S_asked S_askedCount S_askedBits S_first S_foundSo S_foundNot S_fought S_needed) t.heap ∧ va_D A (wl_X1_back ad cs LP S_a S_b court_shoeCount court_claimCount court_suitCount u.1 court_suits u.2.1 chg_size chg_sorts chg_numbers chg_befores S_who S_against S_kind u.2.2.1 S_day S_land u.2.2.2 S_asked S_askedCount S_askedBits S_first S_foundSo S_foundNot S_fought S_needed)) A
abbrev rm_X1_back : Room := { frames := 2, cells := 0, slots := 0, locals := 45 }
def B_X1_back_0    (court_shoeCount : Int32) (court_claimCount : Int32) (court_suitCount : Int32) (court_suits : Nat → Option Nat) (chg_size : Int32) (chg_sorts : Nat → Int32) (chg_numbers : Nat → Int32) (chg_befores : Nat → Int32) (S_who : Nat → Int32) (S_against : Nat → Int32) (S_kind : Nat → Int32) (S_day : Nat → Int32) (S_land : Nat → Int32) (S_asked : Nat → Nat → Int32) (S_askedCount : Nat → Int32) (S_askedBits : Nat → Int32) (S_first : Nat → Int32) (S_foundSo : Nat → Int32) (S_foundNot : Nat → Int32) (S_fought : Nat → Int32) (S_needed : Nat → Int32) (court_shoeDay : Nat → Int32) (chg_done : Int32) (S_won : Nat → Int32) (S_undoneFrom : Nat → Int32) : Option (Int32 × (Nat → Int32) × Int32 × (Nat → Int32) × (Nat → Int32)) :=
  (if 0 < chg_done then (zk_let (chg_done - (1 : Int32)) (fun v_2 => (if (v_2 < 0 ∨ 40 ≤ v_2.toNatClampNeg) then none else (if (v_2 < 0 ∨ 40 ≤ v_2.toNatClampNeg) then none else (if (v_2 < 0 ∨ 40 ≤ v_2.toNatClampNeg) then none else (zk_b3 (f_X1_set (chg_sorts v_2.toNatClampNeg) (chg_numbers v_2.toNatClampNeg) (chg_befores v_2.toNatClampNeg) court_shoeCount court_claimCount court_suitCount court_shoeDay court_suits v_2 chg_size S_who S_against S_kind S_won S_day S_land S_undoneFrom S_asked S_askedCount S_askedBits S_first S_foundSo S_foundNot S_fought S_needed) (fun u_6 u_7 u_8 => (some (v_2, u_6, v_2, u_7, u_8))))))))) else (some ((-5 : Int32), court_shoeDay, chg_done, S_won, S_undoneFrom)))
def f_X1_back    (court_shoeCount : Int32) (court_claimCount : Int32) (court_suitCount : Int32) (court_shoeDay : Nat → Int32) (court_suits : Nat → Option Nat) (chg_done : Int32) (chg_size : Int32) (chg_sorts : Nat → Int32) (chg_numbers : Nat → Int32) (chg_befores : Nat → Int32) (S_who : Nat → Int32) (S_against : Nat → Int32) (S_kind : Nat → Int32) (S_won : Nat → Int32) (S_day : Nat → Int32) (S_land : Nat → Int32) (S_undoneFrom : Nat → Int32) (S_asked : Nat → Nat → Int32) (S_askedCount : Nat → Int32) (S_askedBits : Nat → Int32) (S_first : Nat → Int32) (S_foundSo : Nat → Int32) (S_foundNot : Nat → Int32) (S_fought : Nat → Int32) (S_needed : Nat → Int32) : Option (Int32 × (Nat → Int32) × Int32 × (Nat → Int32) × (Nat → Int32)) := B_X1_back_0   court_shoeCount court_claimCount court_suitCount court_suits chg_size chg_sorts chg_numbers chg_befores S_who S_against S_kind S_day S_land S_asked S_askedCount S_askedBits S_first S_foundSo S_foundNot S_fought S_needed  court_shoeDay chg_done S_won S_undoneFrom
set_option maxHeartbeats 4000000 in
set_option maxRecDepth 100000 in
theorem L_X1_back_0 {p : Program} {l : Launch} {e : Env} {s : State} {m : MethodId} {args : Array Value} {below : List Frame} {meth : Method} {c : Code} {A : Nat → Prop} {D : va_G} {cs : Nat → ClassId} {ad : Nat → Nat} {LP : va_W} {S_a : Nat → Nat} {S_b : Nat → Nat} {court_shoeCount : Int32} {court_claimCount : Int32} {court_suitCount : Int32} {court_suits : Nat → Option Nat} {chg_size : Int32} {chg_sorts : Nat → Int32} {chg_numbers : Nat → Int32} {chg_befores : Nat → Int32} {S_who : Nat → Int32} {S_against : Nat → Int32} {S_kind : Nat → Int32} {S_day : Nat → Int32} {S_land : Nat → Int32} {S_asked : Nat → Nat → Int32} {S_askedCount : Nat → Int32} {S_askedBits : Nat → Int32} {S_first : Nat → Int32} {S_foundSo : Nat → Int32} {S_foundNot : Nat → Int32} {S_fought : Nat → Int32} {S_needed : Nat → Int32} {R : Int32 × (Nat → Int32) × Int32 × (Nat → Int32) × (Nat → Int32)} (C0 : zC p s m args meth c cX1_back 1 (some .int) RX1 zW) (hK : va_K D classes (zT cs) s) (hA : ∀ q : Nat, s.heap.size ≤ q → A q) (hSA : ∀ i, i < court_suitCount.toInt.toNat → court_suits i = some (S_a i)) (court_shoeDay : Nat → Int32) (chg_done : Int32) (S_won : Nat → Int32) (S_undoneFrom : Nat → Int32) (h : B_X1_back_0 court_shoeCount court_claimCount court_suitCount court_suits chg_size chg_sorts chg_numbers chg_befores S_who S_against S_kind S_day S_land S_asked S_askedCount S_askedBits S_first S_foundSo S_foundNot S_fought S_needed court_shoeDay chg_done S_won S_undoneFrom = some R) (H : Heap) (locs : List Loc) (ls : Array Slot) (hP : va_P D classes (wl_X1_back ad cs LP S_a S_b court_shoeCount court_claimCount court_suitCount court_shoeDay court_suits chg_done chg_size chg_sorts chg_numbers chg_befores S_who S_against S_kind S_won S_day S_land S_undoneFrom S_asked S_askedCount S_askedBits S_first S_foundSo S_foundNot S_fought S_needed) H) (hD : va_D A (wl_X1_back ad cs LP S_a S_b court_shoeCount court_claimCount court_suitCount court_shoeDay court_suits chg_done chg_size chg_sorts chg_numbers chg_befores S_who S_against S_kind S_won S_day S_land S_undoneFrom S_asked S_askedCount S_askedBits S_first S_foundSo S_foundNot S_fought S_needed)) (hS : va_S A s.heap H locs) (hl : lv_has ls 1 [(0, .ref (ad 34))]) : W p l e rm_X1_back s m args below meth c H locs 0 0 (MQ below (Q_X1_back D cs ad LP S_a S_b court_shoeCount court_claimCount court_suitCount court_suits chg_size chg_sorts chg_numbers chg_befores S_who S_against S_kind S_day S_land S_asked S_askedCount S_askedBits S_first S_foundSo S_foundNot S_fought S_needed A R) args s 0 0 A) (F0 m 0 ls []) := by
  obtain ⟨hx, hb, hr, hml, hown, ht, hlocks⟩ := id C0
  refine lv_aload_n hx hb dX1_back_0 rfl (lv_at hl 0 rfl) ?_
  refine va_get (D := D) (ci := 1) (v := .int chg_done) (C := RX1) (T := TX1) (N := 7) hx hb ht iX1 hown hK hP 3 rfl rfl 5 (by decide) (ht _ kw_429) (fun _ h9 => h9) rfl dX1_back_1 ?_
  refine lv_if_gt (tgt := 10) hx hb dX1_back_4 (by decide) (fun c_1 => ?_) (fun c_1 => ?_)
  · have h := zk_t c_1 h
    refine lv_aload_n hx hb dX1_back_10 rfl (lv_at hl 0 rfl) ?_
    refine lv_dup hx hb dX1_back_11 rfl ?_
    refine va_get (D := D) (ci := 1) (v := .int chg_done) (C := RX1) (T := TX1) (N := 7) hx hb ht iX1 hown hK hP 3 rfl rfl 5 (by decide) (ht _ kw_429) (fun _ h9 => h9) rfl dX1_back_12 ?_
    refine lv_iconst (v := (1 : Int32)) hx hb dX1_back_15 (by decide) ?_
    refine lv_isub hx hb dX1_back_16 ?_
    obtain ⟨v_2, ev_2, h⟩ := zk_lt h
    refine W.eq (g2 := F0 m 17 ls [.int v_2, .ref (ad 34)]) (by rw [ev_2]) ?_
    refine va_put (D := D) (ci := 1) (v := .int v_2) (ty := .int) (C := RX1) (T := TX1) (N := 7) hx hb ht iX1 tyX1 tyX1_ok nmX1 hown hK hP hD hS 3 rfl rfl 5 (by decide) (ht _ kw_429) (fun _ h9 => h9) rfl (by decide +kernel) rfl rfl (Nat.le_of_ble_eq_true rfl) dX1_back_17 (fun H locs hP hD hS => ?_)
    have hP : va_P D classes (wl_X1_back ad cs LP S_a S_b court_shoeCount court_claimCount court_suitCount court_shoeDay court_suits v_2 chg_size chg_sorts chg_numbers chg_befores S_who S_against S_kind S_won S_day S_land S_undoneFrom S_asked S_askedCount S_askedBits S_first S_foundSo S_foundNot S_fought S_needed) H := hP
    have hD : va_D A (wl_X1_back ad cs LP S_a S_b court_shoeCount court_claimCount court_suitCount court_shoeDay court_suits v_2 chg_size chg_sorts chg_numbers chg_befores S_who S_against S_kind S_won S_day S_land S_undoneFrom S_asked S_askedCount S_askedBits S_first S_foundSo S_foundNot S_fought S_needed) := hD
    refine lv_aload_n hx hb dX1_back_20 rfl (lv_at hl 0 rfl) ?_
    refine lv_aload_n hx hb dX1_back_21 rfl (lv_at hl 0 rfl) ?_
    refine va_get (D := D) (ci := 1) (v := .ref (ad 35)) (C := RX1) (T := TX1) (N := 7) hx hb ht iX1 hown hK hP 3 rfl rfl 1 (by decide) (ht _ kw_425) (fun _ h9 => h9) rfl dX1_back_22 ?_
    refine lv_aload_n hx hb dX1_back_25 rfl (lv_at hl 0 rfl) ?_
    refine va_get (D := D) (ci := 1) (v := .int v_2) (C := RX1) (T := TX1) (N := 7) hx hb ht iX1 hown hK hP 3 rfl rfl 5 (by decide) (ht _ kw_429) (fun _ h9 => h9) rfl dX1_back_26 ?_
    obtain ⟨g_3, h⟩ := zk_gd h
    refine va_iald hx hb hK hP 4 0 rfl rfl g_3 dX1_back_29 ?_
    refine lv_aload_n hx hb dX1_back_30 rfl (lv_at hl 0 rfl) ?_
    refine va_get (D := D) (ci := 1) (v := .ref (ad 36)) (C := RX1) (T := TX1) (N := 7) hx hb ht iX1 hown hK hP 3 rfl rfl 2 (by decide) (ht _ kw_426) (fun _ h9 => h9) rfl dX1_back_31 ?_
    refine lv_aload_n hx hb dX1_back_34 rfl (lv_at hl 0 rfl) ?_
    refine va_get (D := D) (ci := 1) (v := .int v_2) (C := RX1) (T := TX1) (N := 7) hx hb ht iX1 hown hK hP 3 rfl rfl 5 (by decide) (ht _ kw_429) (fun _ h9 => h9) rfl dX1_back_35 ?_
    obtain ⟨g_4, h⟩ := zk_gd h
    refine va_iald hx hb hK hP 5 0 rfl rfl g_4 dX1_back_38 ?_
    refine lv_aload_n hx hb dX1_back_39 rfl (lv_at hl 0 rfl) ?_
    refine va_get (D := D) (ci := 1) (v := .ref (ad 37)) (C := RX1) (T := TX1) (N := 7) hx hb ht iX1 hown hK hP 3 rfl rfl 3 (by decide) (ht _ kw_427) (fun _ h9 => h9) rfl dX1_back_40 ?_
    refine lv_aload_n hx hb dX1_back_43 rfl (lv_at hl 0 rfl) ?_
    refine va_get (D := D) (ci := 1) (v := .int v_2) (C := RX1) (T := TX1) (N := 7) hx hb ht iX1 hown hK hP 3 rfl rfl 5 (by decide) (ht _ kw_429) (fun _ h9 => h9) rfl dX1_back_44 ?_
    obtain ⟨g_5, h⟩ := zk_gd h
    refine va_iald hx hb hK hP 6 0 rfl rfl g_5 dX1_back_47 ?_
    obtain ⟨u_6, u_7, u_8, hc_9, h⟩ := zk_o3 h
    refine zk_vvP (post := (fun u => u = (u_6, u_7, u_8))) (w1 := fun u => (wx_X1_set ad cs LP S_a S_b court_shoeCount court_claimCount court_suitCount u.1 court_suits v_2 chg_size S_who S_against S_kind u.2.1 S_day S_land u.2.2 S_asked S_askedCount S_askedBits S_first S_foundSo S_foundNot S_fought S_needed)) (pl1 := fun u => (zSu cs S_a S_b court_suitCount.toInt.toNat S_who S_against S_kind u.2.1 S_day S_land u.2.2 S_asked S_askedCount S_askedBits S_first S_foundSo S_foundNot S_fought S_needed ++ LP)) (As := [.int (chg_sorts v_2.toNatClampNeg), .int (chg_numbers v_2.toNatClampNeg), .int (chg_befores v_2.toNatClampNeg)]) (rest := []) (c_X1_set l D cs ad LP S_a S_b H.size (chg_sorts v_2.toNatClampNeg) (chg_numbers v_2.toNatClampNeg) (chg_befores v_2.toNatClampNeg) court_shoeCount court_claimCount court_suitCount court_shoeDay court_suits v_2 chg_size S_who S_against S_kind S_won S_day S_land S_undoneFrom S_asked S_askedCount S_askedBits S_first S_foundSo S_foundNot S_fought S_needed hSA (u_6, u_7, u_8) hc_9) ⟨hx, hb, hml, hown, ht⟩ (cwV 3 ht g_X1_39 rfl rfl rfl ⟨rfl, hd_X1_set⟩ ⟨Nat.le_of_ble_eq_true rfl, Nat.le_of_ble_eq_true rfl⟩) (va_recv hK hP (ci := 1) (q0 := 3) rfl rfl) hP hD hS hK hA [0, 1, 2, 3] [4, 5, 6] rfl rfl rfl rfl (by decide) rfl hl.1 (Nat.le_of_ble_eq_true rfl) dX1_back_48 ⟨Nat.zero_le _, Nat.zero_le _⟩ (fun u H locs hq hP hD hS => ?_)
    cases hq
    have hP : va_P D classes (wl_X1_back ad cs LP S_a S_b court_shoeCount court_claimCount court_suitCount u_6 court_suits v_2 chg_size chg_sorts chg_numbers chg_befores S_who S_against S_kind u_7 S_day S_land u_8 S_asked S_askedCount S_askedBits S_first S_foundSo S_foundNot S_fought S_needed) H := hP.part [3, 4, 5, 6, 0, 1, 2] rfl
    have hD : va_D A (wl_X1_back ad cs LP S_a S_b court_shoeCount court_claimCount court_suitCount u_6 court_suits v_2 chg_size chg_sorts chg_numbers chg_befores S_who S_against S_kind u_7 S_day S_land u_8 S_asked S_askedCount S_askedBits S_first S_foundSo S_foundNot S_fought S_needed) := hD.part [3, 4, 5, 6, 0, 1, 2] rfl rfl
    refine lv_aload_n hx hb dX1_back_51 rfl (lv_at hl 0 rfl) ?_
    refine va_get (D := D) (ci := 1) (v := .int v_2) (C := RX1) (T := TX1) (N := 7) hx hb ht iX1 hown hK hP 3 rfl rfl 5 (by decide) (ht _ kw_429) (fun _ h9 => h9) rfl dX1_back_52 ?_
    exact W.iret (v := v_2) hx hb hr (fun t ht2 hW => ⟨⟨v_2, (u_6, v_2, u_7, u_8), rfl, Option.some.inj h, by rw [ht2]; exact hP, hD⟩, hS.F ht2⟩) hS.2.2 dX1_back_55 hlocks
  · have h := zk_f c_1 h
    refine lv_bipush (v := (-5 : Int32)) hx hb dX1_back_7 (by decide) ?_
    exact W.iret (v := (-5 : Int32)) hx hb hr (fun t ht2 hW => ⟨⟨(-5 : Int32), (court_shoeDay, chg_done, S_won, S_undoneFrom), rfl, Option.some.inj h, by rw [ht2]; exact hP, hD⟩, hS.F ht2⟩) hS.2.2 dX1_back_9 hlocks
set_option maxHeartbeats 4000000 in
set_option maxRecDepth 100000 in
theorem c_X1_back (l : Launch) (D : va_G) (cs : Nat → ClassId) (ad : Nat → Nat) (LP : va_W) (S_a : Nat → Nat) (S_b : Nat → Nat) (sz : Nat)  (court_shoeCount : Int32) (court_claimCount : Int32) (court_suitCount : Int32) (court_shoeDay : Nat → Int32) (court_suits : Nat → Option Nat) (chg_done : Int32) (chg_size : Int32) (chg_sorts : Nat → Int32) (chg_numbers : Nat → Int32) (chg_befores : Nat → Int32) (S_who : Nat → Int32) (S_against : Nat → Int32) (S_kind : Nat → Int32) (S_won : Nat → Int32) (S_day : Nat → Int32) (S_land : Nat → Int32) (S_undoneFrom : Nat → Int32) (S_asked : Nat → Nat → Int32) (S_askedCount : Nat → Int32) (S_askedBits : Nat → Int32) (S_first : Nat → Int32) (S_foundSo : Nat → Int32) (S_foundNot : Nat → Int32) (S_fought : Nat → Int32) (S_needed : Nat → Int32) (hSA : ∀ i, i < court_suitCount.toInt.toNat → court_suits i = some (S_a i)) (R : Int32 × (Nat → Int32) × Int32 × (Nat → Int32) × (Nat → Int32)) (h : f_X1_back    court_shoeCount court_claimCount court_suitCount court_shoeDay court_suits chg_done chg_size chg_sorts chg_numbers chg_befores S_who S_against S_kind S_won S_day S_land S_undoneFrom S_asked S_askedCount S_askedBits S_first S_foundSo S_foundNot S_fought S_needed = some R) : Met l yX1_back (z_X1_back) rm_X1_back (va_Pc [.ref (ad 34)] (zPre D cs (wl_X1_back ad cs LP S_a S_b court_shoeCount court_claimCount court_suitCount court_shoeDay court_suits chg_done chg_size chg_sorts chg_numbers chg_befores S_who S_against S_kind S_won S_day S_land S_undoneFrom S_asked S_askedCount S_askedBits S_first S_foundSo S_foundNot S_fought S_needed) sz)) (Q_X1_back D cs ad LP S_a S_b court_shoeCount court_claimCount court_suitCount court_suits chg_size chg_sorts chg_numbers chg_befores S_who S_against S_kind S_day S_land S_asked S_askedCount S_askedBits S_first S_foundSo S_foundNot S_fought S_needed (va_A (wl_X1_back ad cs LP S_a S_b court_shoeCount court_claimCount court_suitCount court_shoeDay court_suits chg_done chg_size chg_sorts chg_numbers chg_befores S_who S_against S_kind S_won S_day S_land S_undoneFrom S_asked S_askedCount S_askedBits S_first S_foundSo S_foundNot S_fought S_needed) sz) R) 0 0 (va_A (wl_X1_back ad cs LP S_a S_b court_shoeCount court_claimCount court_suitCount court_shoeDay court_suits chg_done chg_size chg_sorts chg_numbers chg_befores S_who S_against S_kind S_won S_day S_land S_undoneFrom S_asked S_askedCount S_askedBits S_first S_foundSo S_foundNot S_fought S_needed) sz) := by
  refine Met.ofW (cc := cX1_back) (maxL := 1) (ret := (some .int)) (by decide) rfl ?_
  intro p e s m args below meth c s₁ B hml hv
  obtain ⟨rfl, hsz, hP, hK, hD0⟩ := hv
  subst hsz
  have hD := hD0.self (sz := s.heap.size)
  have C0 : zC p s m _ meth c cX1_back 1 (some .int) RX1 zW := ⟨B.exec, B.bytes, B.returns, hml, findClass_of_methodNamed B.named, fun w hw => atoms_spec (ws := z_X1_back) B.pre w (List.mem_cons_of_mem _ hw), B.notSynchronized⟩
  have hA : ∀ q : Nat, s.heap.size ≤ q → va_A (wl_X1_back ad cs LP S_a S_b court_shoeCount court_claimCount court_suitCount court_shoeDay court_suits chg_done chg_size chg_sorts chg_numbers chg_befores S_who S_against S_kind S_won S_day S_land S_undoneFrom S_asked S_askedCount S_askedBits S_first S_foundSo S_foundNot S_fought S_needed) s.heap.size q := fun q h => Or.inr h
  have hl := lv_entry ([.ref (ad 34)]) (n := 1) (Nat.le_of_ble_eq_true rfl)
  rw [lg_entry_eq]
  generalize (lg_sl ([.ref (ad 34)]) ++ List.replicate (1 - (lg_sl ([.ref (ad 34)])).length) Slot.unset).toArray = ls at hl ⊢
  exact L_X1_back_0 C0 hK hA hSA    court_shoeDay chg_done S_won S_undoneFrom h s.heap [] ls hP hD va_S.rf hl
theorem zh_cX1_again_0 : zck [42, 180, 0, 28, 42, 180, 0, 36, 161, 0, 6, 16, 251, 172, 42, 42, 180, 0, 9, 42, 180, 0] (zdu 0 cX1_again.data.toList) = true := by decide +kernel
theorem dX1_again_0 : decode cX1_again 0 = .ok (.aload_n 0, 1) := zo_42 zh_cX1_again_0 0 rfl
theorem dX1_again_1 : decode cX1_again 1 = .ok (.getfield 28, 3) := zo_180 zh_cX1_again_0 1 rfl
theorem dX1_again_4 : decode cX1_again 4 = .ok (.aload_n 0, 1) := zo_42 zh_cX1_again_0 4 rfl
theorem dX1_again_5 : decode cX1_again 5 = .ok (.getfield 36, 3) := zo_180 zh_cX1_again_0 5 rfl
theorem dX1_again_8 : decode cX1_again 8 = .ok (.if_icmp .lt 6, 3) := zo_p161 zh_cX1_again_0 8 6 rfl rfl
theorem dX1_again_11 : decode cX1_again 11 = .ok (.bipush (-5), 2) := zo_n16 zh_cX1_again_0 11 4 rfl rfl
theorem dX1_again_13 : decode cX1_again 13 = .ok (.ireturn, 1) := zo_172 zh_cX1_again_0 13 rfl
theorem dX1_again_14 : decode cX1_again 14 = .ok (.aload_n 0, 1) := zo_42 zh_cX1_again_0 14 rfl
theorem dX1_again_15 : decode cX1_again 15 = .ok (.aload_n 0, 1) := zo_42 zh_cX1_again_0 15 rfl
theorem dX1_again_16 : decode cX1_again 16 = .ok (.getfield 9, 3) := zo_180 zh_cX1_again_0 16 rfl
theorem dX1_again_19 : decode cX1_again 19 = .ok (.aload_n 0, 1) := zo_42 zh_cX1_again_0 19 rfl
theorem zh_cX1_again_1 : zck [180, 0, 28, 46, 42, 180, 0, 15, 42, 180, 0, 28, 46, 42, 180, 0, 21, 42, 180, 0, 28, 46] (zdu 20 cX1_again.data.toList) = true := by decide +kernel
theorem dX1_again_20 : decode cX1_again 20 = .ok (.getfield 28, 3) := zo_180 zh_cX1_again_1 0 rfl
theorem dX1_again_23 : decode cX1_again 23 = .ok (.iaload, 1) := zo_46 zh_cX1_again_1 3 rfl
theorem dX1_again_24 : decode cX1_again 24 = .ok (.aload_n 0, 1) := zo_42 zh_cX1_again_1 4 rfl
theorem dX1_again_25 : decode cX1_again 25 = .ok (.getfield 15, 3) := zo_180 zh_cX1_again_1 5 rfl
theorem dX1_again_28 : decode cX1_again 28 = .ok (.aload_n 0, 1) := zo_42 zh_cX1_again_1 8 rfl
theorem dX1_again_29 : decode cX1_again 29 = .ok (.getfield 28, 3) := zo_180 zh_cX1_again_1 9 rfl
theorem dX1_again_32 : decode cX1_again 32 = .ok (.iaload, 1) := zo_46 zh_cX1_again_1 12 rfl
theorem dX1_again_33 : decode cX1_again 33 = .ok (.aload_n 0, 1) := zo_42 zh_cX1_again_1 13 rfl
theorem dX1_again_34 : decode cX1_again 34 = .ok (.getfield 21, 3) := zo_180 zh_cX1_again_1 14 rfl
theorem dX1_again_37 : decode cX1_again 37 = .ok (.aload_n 0, 1) := zo_42 zh_cX1_again_1 17 rfl
theorem dX1_again_38 : decode cX1_again 38 = .ok (.getfield 28, 3) := zo_180 zh_cX1_again_1 18 rfl
theorem zh_cX1_again_2 : zck [28, 46, 182, 0, 39, 42, 89, 180, 0, 28, 4, 96, 181, 0, 28, 42, 180, 0, 36, 42, 180, 0] (zdu 40 cX1_again.data.toList) = true := by decide +kernel
theorem dX1_again_41 : decode cX1_again 41 = .ok (.iaload, 1) := zo_46 zh_cX1_again_2 1 rfl
theorem dX1_again_42 : decode cX1_again 42 = .ok (.invokevirtual 39, 3) := zo_182 zh_cX1_again_2 2 rfl
theorem dX1_again_45 : decode cX1_again 45 = .ok (.aload_n 0, 1) := zo_42 zh_cX1_again_2 5 rfl
theorem dX1_again_46 : decode cX1_again 46 = .ok (.dup, 1) := zo_89 zh_cX1_again_2 6 rfl
theorem dX1_again_47 : decode cX1_again 47 = .ok (.getfield 28, 3) := zo_180 zh_cX1_again_2 7 rfl
theorem dX1_again_50 : decode cX1_again 50 = .ok (.iconst 1, 1) := zo_4 zh_cX1_again_2 10 rfl
theorem dX1_again_51 : decode cX1_again 51 = .ok (.iadd, 1) := zo_96 zh_cX1_again_2 11 rfl
theorem dX1_again_52 : decode cX1_again 52 = .ok (.putfield 28, 3) := zo_181 zh_cX1_again_2 12 rfl
theorem dX1_again_55 : decode cX1_again 55 = .ok (.aload_n 0, 1) := zo_42 zh_cX1_again_2 15 rfl
theorem dX1_again_56 : decode cX1_again 56 = .ok (.getfield 36, 3) := zo_180 zh_cX1_again_2 16 rfl
theorem dX1_again_59 : decode cX1_again 59 = .ok (.aload_n 0, 1) := zo_42 zh_cX1_again_2 19 rfl
theorem zh_cX1_again_3 : zck [180, 0, 28, 100, 172] (zdu 60 cX1_again.data.toList) = true := by decide +kernel
theorem dX1_again_60 : decode cX1_again 60 = .ok (.getfield 28, 3) := zo_180 zh_cX1_again_3 0 rfl
theorem dX1_again_63 : decode cX1_again 63 = .ok (.isub, 1) := zo_100 zh_cX1_again_3 3 rfl
theorem dX1_again_64 : decode cX1_again 64 = .ok (.ireturn, 1) := zo_172 zh_cX1_again_3 4 rfl
abbrev z_X1_again : List Cond := .code yX1_again cX1_again 1 (some .int) :: zW
abbrev wx_X1_again (ad : Nat → Nat) (cs : Nat → ClassId) (LP : va_W) (S_a : Nat → Nat) (S_b : Nat → Nat) (court_shoeCount : Int32) (court_claimCount : Int32) (court_suitCount : Int32) (court_shoeDay : Nat → Int32) (court_suits : Nat → Option Nat) (chg_done : Int32) (chg_size : Int32) (chg_sorts : Nat → Int32) (chg_numbers : Nat → Int32) (chg_afters : Nat → Int32) (S_who : Nat → Int32) (S_against : Nat → Int32) (S_kind : Nat → Int32) (S_won : Nat → Int32) (S_day : Nat → Int32) (S_land : Nat → Int32) (S_undoneFrom : Nat → Int32) (S_asked : Nat → Nat → Int32) (S_askedCount : Nat → Int32) (S_askedBits : Nat → Int32) (S_first : Nat → Int32) (S_foundSo : Nat → Int32) (S_foundNot : Nat → Int32) (S_fought : Nat → Int32) (S_needed : Nat → Int32) : va_W := [((ad 4), .inr (2, [.ref (ad 5), .ref (ad 6), .ref (ad 7), .ref (ad 8), .ref (ad 9), .ref (ad 10), .ref (ad 11), .ref (ad 12), .ref (ad 13), .ref (ad 14), .int court_shoeCount, .int court_claimCount, .int court_suitCount])), ((ad 8), .inl (cs 0, 40, .inl court_shoeDay)), ((ad 13), .inl (cs 5, 40, .inr (.inr (.inr (.inr court_suits))))), ((ad 34), .inr (1, [.ref (ad 4), .ref (ad 35), .ref (ad 36), .ref (ad 37), .ref (ad 38), .int chg_done, .int chg_size])), ((ad 35), .inl (cs 0, 40, .inl chg_sorts)), ((ad 36), .inl (cs 0, 40, .inl chg_numbers)), ((ad 38), .inl (cs 0, 40, .inl chg_afters))]
abbrev wl_X1_again (ad : Nat → Nat) (cs : Nat → ClassId) (LP : va_W) (S_a : Nat → Nat) (S_b : Nat → Nat) (court_shoeCount : Int32) (court_claimCount : Int32) (court_suitCount : Int32) (court_shoeDay : Nat → Int32) (court_suits : Nat → Option Nat) (chg_done : Int32) (chg_size : Int32) (chg_sorts : Nat → Int32) (chg_numbers : Nat → Int32) (chg_afters : Nat → Int32) (S_who : Nat → Int32) (S_against : Nat → Int32) (S_kind : Nat → Int32) (S_won : Nat → Int32) (S_day : Nat → Int32) (S_land : Nat → Int32) (S_undoneFrom : Nat → Int32) (S_asked : Nat → Nat → Int32) (S_askedCount : Nat → Int32) (S_askedBits : Nat → Int32) (S_first : Nat → Int32) (S_foundSo : Nat → Int32) (S_foundNot : Nat → Int32) (S_fought : Nat → Int32) (S_needed : Nat → Int32) : va_W := wx_X1_again ad cs LP S_a S_b court_shoeCount court_claimCount court_suitCount court_shoeDay court_suits chg_done chg_size chg_sorts chg_numbers chg_afters S_who S_against S_kind S_won S_day S_land S_undoneFrom S_asked S_askedCount S_askedBits S_first S_foundSo S_foundNot S_fought S_needed ++ (zSu cs S_a S_b court_suitCount.toInt.toNat S_who S_against S_kind S_won S_day S_land S_undoneFrom S_asked S_askedCount S_askedBits S_first S_foundSo S_foundNot S_fought S_needed ++ LP)
def Q_X1_again (D : va_G) (cs : Nat → ClassId) (ad : Nat → Nat) (LP : va_W) (S_a : Nat → Nat) (S_b : Nat → Nat) (court_shoeCount : Int32) (court_claimCount : Int32) (court_suitCount : Int32) (court_suits : Nat → Option Nat) (chg_size : Int32) (chg_sorts : Nat → Int32) (chg_numbers : Nat → Int32) (chg_afters : Nat → Int32) (S_who : Nat → Int32) (S_against : Nat → Int32) (S_kind : Nat → Int32) (S_day : Nat → Int32) (S_land : Nat → Int32) (S_asked : Nat → Nat → Int32) (S_askedCount : Nat → Int32) (S_askedBits : Nat → Int32) (S_first : Nat → Int32) (S_foundSo : Nat → Int32) (S_foundNot : Nat → Int32) (S_fought : Nat → Int32) (S_needed : Nat → Int32) (A : Nat → Prop) (R : Int32 × (Nat → Int32) × Int32 × (Nat → Int32) × (Nat → Int32)) : Array Value → State → Outcome → State → Prop :=
  va_Qi (fun (r : Int32) (u : (Nat → Int32) × Int32 × (Nat → Int32) × (Nat → Int32)) => (r, u) = R) (fun (u : (Nat → Int32) × Int32 × (Nat → Int32) × (Nat → Int32)) (t : State) => va_P D classes (wl_X1_again ad cs LP S_a S_b court_shoeCount court_claimCount court_suitCount u.1 court_suits u.2.1 chg_size chg_sorts chg_numbers chg_afters S_who S_against S_kind u.2.2.1 S_day S_land u.2.2.2 S_asked S_askedCount S_askedBits S_first S_foundSo S_foundNot S_fought S_needed) t.heap ∧ va_D A (wl_X1_again ad cs LP S_a S_b court_shoeCount court_claimCount court_suitCount u.1 court_suits u.2.1 chg_size chg_sorts chg_numbers chg_afters S_who S_against S_kind u.2.2.1 S_day S_land u.2.2.2 S_asked S_askedCount S_askedBits S_first S_foundSo S_foundNot S_fought S_needed)) A
abbrev rm_X1_again : Room := { frames := 2, cells := 0, slots := 0, locals := 45 }
def B_X1_again_0    (court_shoeCount : Int32) (court_claimCount : Int32) (court_suitCount : Int32) (court_suits : Nat → Option Nat) (chg_size : Int32) (chg_sorts : Nat → Int32) (chg_numbers : Nat → Int32) (chg_afters : Nat → Int32) (S_who : Nat → Int32) (S_against : Nat → Int32) (S_kind : Nat → Int32) (S_day : Nat → Int32) (S_land : Nat → Int32) (S_asked : Nat → Nat → Int32) (S_askedCount : Nat → Int32) (S_askedBits : Nat → Int32) (S_first : Nat → Int32) (S_foundSo : Nat → Int32) (S_foundNot : Nat → Int32) (S_fought : Nat → Int32) (S_needed : Nat → Int32) (court_shoeDay : Nat → Int32) (chg_done : Int32) (S_won : Nat → Int32) (S_undoneFrom : Nat → Int32) : Option (Int32 × (Nat → Int32) × Int32 × (Nat → Int32) × (Nat → Int32)) :=
  (if chg_done < chg_size then (if (chg_done < 0 ∨ 40 ≤ chg_done.toNatClampNeg) then none else (if (chg_done < 0 ∨ 40 ≤ chg_done.toNatClampNeg) then none else (if (chg_done < 0 ∨ 40 ≤ chg_done.toNatClampNeg) then none else (zk_b3 (f_X1_set (chg_sorts chg_done.toNatClampNeg) (chg_numbers chg_done.toNatClampNeg) (chg_afters chg_done.toNatClampNeg) court_shoeCount court_claimCount court_suitCount court_shoeDay court_suits chg_done chg_size S_who S_against S_kind S_won S_day S_land S_undoneFrom S_asked S_askedCount S_askedBits S_first S_foundSo S_foundNot S_fought S_needed) (fun u_5 u_6 u_7 => (zk_let (chg_done + (1 : Int32)) (fun v_9 => (some (chg_size - v_9, u_5, v_9, u_6, u_7))))))))) else (some ((-5 : Int32), court_shoeDay, chg_done, S_won, S_undoneFrom)))
def f_X1_again    (court_shoeCount : Int32) (court_claimCount : Int32) (court_suitCount : Int32) (court_shoeDay : Nat → Int32) (court_suits : Nat → Option Nat) (chg_done : Int32) (chg_size : Int32) (chg_sorts : Nat → Int32) (chg_numbers : Nat → Int32) (chg_afters : Nat → Int32) (S_who : Nat → Int32) (S_against : Nat → Int32) (S_kind : Nat → Int32) (S_won : Nat → Int32) (S_day : Nat → Int32) (S_land : Nat → Int32) (S_undoneFrom : Nat → Int32) (S_asked : Nat → Nat → Int32) (S_askedCount : Nat → Int32) (S_askedBits : Nat → Int32) (S_first : Nat → Int32) (S_foundSo : Nat → Int32) (S_foundNot : Nat → Int32) (S_fought : Nat → Int32) (S_needed : Nat → Int32) : Option (Int32 × (Nat → Int32) × Int32 × (Nat → Int32) × (Nat → Int32)) := B_X1_again_0   court_shoeCount court_claimCount court_suitCount court_suits chg_size chg_sorts chg_numbers chg_afters S_who S_against S_kind S_day S_land S_asked S_askedCount S_askedBits S_first S_foundSo S_foundNot S_fought S_needed  court_shoeDay chg_done S_won S_undoneFrom
set_option maxHeartbeats 4000000 in
set_option maxRecDepth 100000 in
theorem L_X1_again_0 {p : Program} {l : Launch} {e : Env} {s : State} {m : MethodId} {args : Array Value} {below : List Frame} {meth : Method} {c : Code} {A : Nat → Prop} {D : va_G} {cs : Nat → ClassId} {ad : Nat → Nat} {LP : va_W} {S_a : Nat → Nat} {S_b : Nat → Nat} {court_shoeCount : Int32} {court_claimCount : Int32} {court_suitCount : Int32} {court_suits : Nat → Option Nat} {chg_size : Int32} {chg_sorts : Nat → Int32} {chg_numbers : Nat → Int32} {chg_afters : Nat → Int32} {S_who : Nat → Int32} {S_against : Nat → Int32} {S_kind : Nat → Int32} {S_day : Nat → Int32} {S_land : Nat → Int32} {S_asked : Nat → Nat → Int32} {S_askedCount : Nat → Int32} {S_askedBits : Nat → Int32} {S_first : Nat → Int32} {S_foundSo : Nat → Int32} {S_foundNot : Nat → Int32} {S_fought : Nat → Int32} {S_needed : Nat → Int32} {R : Int32 × (Nat → Int32) × Int32 × (Nat → Int32) × (Nat → Int32)} (C0 : zC p s m args meth c cX1_again 1 (some .int) RX1 zW) (hK : va_K D classes (zT cs) s) (hA : ∀ q : Nat, s.heap.size ≤ q → A q) (hSA : ∀ i, i < court_suitCount.toInt.toNat → court_suits i = some (S_a i)) (court_shoeDay : Nat → Int32) (chg_done : Int32) (S_won : Nat → Int32) (S_undoneFrom : Nat → Int32) (h : B_X1_again_0 court_shoeCount court_claimCount court_suitCount court_suits chg_size chg_sorts chg_numbers chg_afters S_who S_against S_kind S_day S_land S_asked S_askedCount S_askedBits S_first S_foundSo S_foundNot S_fought S_needed court_shoeDay chg_done S_won S_undoneFrom = some R) (H : Heap) (locs : List Loc) (ls : Array Slot) (hP : va_P D classes (wl_X1_again ad cs LP S_a S_b court_shoeCount court_claimCount court_suitCount court_shoeDay court_suits chg_done chg_size chg_sorts chg_numbers chg_afters S_who S_against S_kind S_won S_day S_land S_undoneFrom S_asked S_askedCount S_askedBits S_first S_foundSo S_foundNot S_fought S_needed) H) (hD : va_D A (wl_X1_again ad cs LP S_a S_b court_shoeCount court_claimCount court_suitCount court_shoeDay court_suits chg_done chg_size chg_sorts chg_numbers chg_afters S_who S_against S_kind S_won S_day S_land S_undoneFrom S_asked S_askedCount S_askedBits S_first S_foundSo S_foundNot S_fought S_needed)) (hS : va_S A s.heap H locs) (hl : lv_has ls 1 [(0, .ref (ad 34))]) : W p l e rm_X1_again s m args below meth c H locs 0 0 (MQ below (Q_X1_again D cs ad LP S_a S_b court_shoeCount court_claimCount court_suitCount court_suits chg_size chg_sorts chg_numbers chg_afters S_who S_against S_kind S_day S_land S_asked S_askedCount S_askedBits S_first S_foundSo S_foundNot S_fought S_needed A R) args s 0 0 A) (F0 m 0 ls []) := by
  obtain ⟨hx, hb, hr, hml, hown, ht, hlocks⟩ := id C0
  refine lv_aload_n hx hb dX1_again_0 rfl (lv_at hl 0 rfl) ?_
  refine va_get (D := D) (ci := 1) (v := .int chg_done) (C := RX1) (T := TX1) (N := 7) hx hb ht iX1 hown hK hP 3 rfl rfl 5 (by decide) (ht _ kw_429) (fun _ h9 => h9) rfl dX1_again_1 ?_
  refine lv_aload_n hx hb dX1_again_4 rfl (lv_at hl 0 rfl) ?_
  refine va_get (D := D) (ci := 1) (v := .int chg_size) (C := RX1) (T := TX1) (N := 7) hx hb ht iX1 hown hK hP 3 rfl rfl 6 (by decide) (ht _ kw_431) (fun _ h9 => h9) rfl dX1_again_5 ?_
  refine lv_icmp_lt (tgt := 14) hx hb dX1_again_8 (by decide) (fun c_1 => ?_) (fun c_1 => ?_)
  · have h := zk_t c_1 h
    refine lv_aload_n hx hb dX1_again_14 rfl (lv_at hl 0 rfl) ?_
    refine lv_aload_n hx hb dX1_again_15 rfl (lv_at hl 0 rfl) ?_
    refine va_get (D := D) (ci := 1) (v := .ref (ad 35)) (C := RX1) (T := TX1) (N := 7) hx hb ht iX1 hown hK hP 3 rfl rfl 1 (by decide) (ht _ kw_425) (fun _ h9 => h9) rfl dX1_again_16 ?_
    refine lv_aload_n hx hb dX1_again_19 rfl (lv_at hl 0 rfl) ?_
    refine va_get (D := D) (ci := 1) (v := .int chg_done) (C := RX1) (T := TX1) (N := 7) hx hb ht iX1 hown hK hP 3 rfl rfl 5 (by decide) (ht _ kw_429) (fun _ h9 => h9) rfl dX1_again_20 ?_
    obtain ⟨g_2, h⟩ := zk_gd h
    refine va_iald hx hb hK hP 4 0 rfl rfl g_2 dX1_again_23 ?_
    refine lv_aload_n hx hb dX1_again_24 rfl (lv_at hl 0 rfl) ?_
    refine va_get (D := D) (ci := 1) (v := .ref (ad 36)) (C := RX1) (T := TX1) (N := 7) hx hb ht iX1 hown hK hP 3 rfl rfl 2 (by decide) (ht _ kw_426) (fun _ h9 => h9) rfl dX1_again_25 ?_
    refine lv_aload_n hx hb dX1_again_28 rfl (lv_at hl 0 rfl) ?_
    refine va_get (D := D) (ci := 1) (v := .int chg_done) (C := RX1) (T := TX1) (N := 7) hx hb ht iX1 hown hK hP 3 rfl rfl 5 (by decide) (ht _ kw_429) (fun _ h9 => h9) rfl dX1_again_29 ?_
    obtain ⟨g_3, h⟩ := zk_gd h
    refine va_iald hx hb hK hP 5 0 rfl rfl g_3 dX1_again_32 ?_
    refine lv_aload_n hx hb dX1_again_33 rfl (lv_at hl 0 rfl) ?_
    refine va_get (D := D) (ci := 1) (v := .ref (ad 38)) (C := RX1) (T := TX1) (N := 7) hx hb ht iX1 hown hK hP 3 rfl rfl 4 (by decide) (ht _ kw_428) (fun _ h9 => h9) rfl dX1_again_34 ?_
    refine lv_aload_n hx hb dX1_again_37 rfl (lv_at hl 0 rfl) ?_
    refine va_get (D := D) (ci := 1) (v := .int chg_done) (C := RX1) (T := TX1) (N := 7) hx hb ht iX1 hown hK hP 3 rfl rfl 5 (by decide) (ht _ kw_429) (fun _ h9 => h9) rfl dX1_again_38 ?_
    obtain ⟨g_4, h⟩ := zk_gd h
    refine va_iald hx hb hK hP 6 0 rfl rfl g_4 dX1_again_41 ?_
    obtain ⟨u_5, u_6, u_7, hc_8, h⟩ := zk_o3 h
    refine zk_vvP (post := (fun u => u = (u_5, u_6, u_7))) (w1 := fun u => (wx_X1_set ad cs LP S_a S_b court_shoeCount court_claimCount court_suitCount u.1 court_suits chg_done chg_size S_who S_against S_kind u.2.1 S_day S_land u.2.2 S_asked S_askedCount S_askedBits S_first S_foundSo S_foundNot S_fought S_needed)) (pl1 := fun u => (zSu cs S_a S_b court_suitCount.toInt.toNat S_who S_against S_kind u.2.1 S_day S_land u.2.2 S_asked S_askedCount S_askedBits S_first S_foundSo S_foundNot S_fought S_needed ++ LP)) (As := [.int (chg_sorts chg_done.toNatClampNeg), .int (chg_numbers chg_done.toNatClampNeg), .int (chg_afters chg_done.toNatClampNeg)]) (rest := []) (c_X1_set l D cs ad LP S_a S_b H.size (chg_sorts chg_done.toNatClampNeg) (chg_numbers chg_done.toNatClampNeg) (chg_afters chg_done.toNatClampNeg) court_shoeCount court_claimCount court_suitCount court_shoeDay court_suits chg_done chg_size S_who S_against S_kind S_won S_day S_land S_undoneFrom S_asked S_askedCount S_askedBits S_first S_foundSo S_foundNot S_fought S_needed hSA (u_5, u_6, u_7) hc_8) ⟨hx, hb, hml, hown, ht⟩ (cwV 3 ht g_X1_39 rfl rfl rfl ⟨rfl, hd_X1_set⟩ ⟨Nat.le_of_ble_eq_true rfl, Nat.le_of_ble_eq_true rfl⟩) (va_recv hK hP (ci := 1) (q0 := 3) rfl rfl) hP hD hS hK hA [0, 1, 2, 3] [4, 5, 6] rfl rfl rfl rfl (by decide) rfl hl.1 (Nat.le_of_ble_eq_true rfl) dX1_again_42 ⟨Nat.zero_le _, Nat.zero_le _⟩ (fun u H locs hq hP hD hS => ?_)
    cases hq
    have hP : va_P D classes (wl_X1_again ad cs LP S_a S_b court_shoeCount court_claimCount court_suitCount u_5 court_suits chg_done chg_size chg_sorts chg_numbers chg_afters S_who S_against S_kind u_6 S_day S_land u_7 S_asked S_askedCount S_askedBits S_first S_foundSo S_foundNot S_fought S_needed) H := hP.part [3, 4, 5, 6, 0, 1, 2] rfl
    have hD : va_D A (wl_X1_again ad cs LP S_a S_b court_shoeCount court_claimCount court_suitCount u_5 court_suits chg_done chg_size chg_sorts chg_numbers chg_afters S_who S_against S_kind u_6 S_day S_land u_7 S_asked S_askedCount S_askedBits S_first S_foundSo S_foundNot S_fought S_needed) := hD.part [3, 4, 5, 6, 0, 1, 2] rfl rfl
    refine lv_aload_n hx hb dX1_again_45 rfl (lv_at hl 0 rfl) ?_
    refine lv_dup hx hb dX1_again_46 rfl ?_
    refine va_get (D := D) (ci := 1) (v := .int chg_done) (C := RX1) (T := TX1) (N := 7) hx hb ht iX1 hown hK hP 3 rfl rfl 5 (by decide) (ht _ kw_429) (fun _ h9 => h9) rfl dX1_again_47 ?_
    refine lv_iconst (v := (1 : Int32)) hx hb dX1_again_50 (by decide) ?_
    refine lv_iadd hx hb dX1_again_51 ?_
    obtain ⟨v_9, ev_9, h⟩ := zk_lt h
    refine W.eq (g2 := F0 m 52 ls [.int v_9, .ref (ad 34)]) (by rw [ev_9]) ?_
    refine va_put (D := D) (ci := 1) (v := .int v_9) (ty := .int) (C := RX1) (T := TX1) (N := 7) hx hb ht iX1 tyX1 tyX1_ok nmX1 hown hK hP hD hS 3 rfl rfl 5 (by decide) (ht _ kw_429) (fun _ h9 => h9) rfl (by decide +kernel) rfl rfl (Nat.le_of_ble_eq_true rfl) dX1_again_52 (fun H locs hP hD hS => ?_)
    have hP : va_P D classes (wl_X1_again ad cs LP S_a S_b court_shoeCount court_claimCount court_suitCount u_5 court_suits v_9 chg_size chg_sorts chg_numbers chg_afters S_who S_against S_kind u_6 S_day S_land u_7 S_asked S_askedCount S_askedBits S_first S_foundSo S_foundNot S_fought S_needed) H := hP
    have hD : va_D A (wl_X1_again ad cs LP S_a S_b court_shoeCount court_claimCount court_suitCount u_5 court_suits v_9 chg_size chg_sorts chg_numbers chg_afters S_who S_against S_kind u_6 S_day S_land u_7 S_asked S_askedCount S_askedBits S_first S_foundSo S_foundNot S_fought S_needed) := hD
    refine lv_aload_n hx hb dX1_again_55 rfl (lv_at hl 0 rfl) ?_
    refine va_get (D := D) (ci := 1) (v := .int chg_size) (C := RX1) (T := TX1) (N := 7) hx hb ht iX1 hown hK hP 3 rfl rfl 6 (by decide) (ht _ kw_431) (fun _ h9 => h9) rfl dX1_again_56 ?_
    refine lv_aload_n hx hb dX1_again_59 rfl (lv_at hl 0 rfl) ?_
    refine va_get (D := D) (ci := 1) (v := .int v_9) (C := RX1) (T := TX1) (N := 7) hx hb ht iX1 hown hK hP 3 rfl rfl 5 (by decide) (ht _ kw_429) (fun _ h9 => h9) rfl dX1_again_60 ?_
    refine lv_isub hx hb dX1_again_63 ?_
    exact W.iret (v := chg_size - v_9) hx hb hr (fun t ht2 hW => ⟨⟨chg_size - v_9, (u_5, v_9, u_6, u_7), rfl, Option.some.inj h, by rw [ht2]; exact hP, hD⟩, hS.F ht2⟩) hS.2.2 dX1_again_64 hlocks
  · have h := zk_f c_1 h
    refine lv_bipush (v := (-5 : Int32)) hx hb dX1_again_11 (by decide) ?_
    exact W.iret (v := (-5 : Int32)) hx hb hr (fun t ht2 hW => ⟨⟨(-5 : Int32), (court_shoeDay, chg_done, S_won, S_undoneFrom), rfl, Option.some.inj h, by rw [ht2]; exact hP, hD⟩, hS.F ht2⟩) hS.2.2 dX1_again_13 hlocks
set_option maxHeartbeats 4000000 in
set_option maxRecDepth 100000 in
theorem c_X1_again (l : Launch) (D : va_G) (cs : Nat → ClassId) (ad : Nat → Nat) (LP : va_W) (S_a : Nat → Nat) (S_b : Nat → Nat) (sz : Nat)  (court_shoeCount : Int32) (court_claimCount : Int32) (court_suitCount : Int32) (court_shoeDay : Nat → Int32) (court_suits : Nat → Option Nat) (chg_done : Int32) (chg_size : Int32) (chg_sorts : Nat → Int32) (chg_numbers : Nat → Int32) (chg_afters : Nat → Int32) (S_who : Nat → Int32) (S_against : Nat → Int32) (S_kind : Nat → Int32) (S_won : Nat → Int32) (S_day : Nat → Int32) (S_land : Nat → Int32) (S_undoneFrom : Nat → Int32) (S_asked : Nat → Nat → Int32) (S_askedCount : Nat → Int32) (S_askedBits : Nat → Int32) (S_first : Nat → Int32) (S_foundSo : Nat → Int32) (S_foundNot : Nat → Int32) (S_fought : Nat → Int32) (S_needed : Nat → Int32) (hSA : ∀ i, i < court_suitCount.toInt.toNat → court_suits i = some (S_a i)) (R : Int32 × (Nat → Int32) × Int32 × (Nat → Int32) × (Nat → Int32)) (h : f_X1_again    court_shoeCount court_claimCount court_suitCount court_shoeDay court_suits chg_done chg_size chg_sorts chg_numbers chg_afters S_who S_against S_kind S_won S_day S_land S_undoneFrom S_asked S_askedCount S_askedBits S_first S_foundSo S_foundNot S_fought S_needed = some R) : Met l yX1_again (z_X1_again) rm_X1_again (va_Pc [.ref (ad 34)] (zPre D cs (wl_X1_again ad cs LP S_a S_b court_shoeCount court_claimCount court_suitCount court_shoeDay court_suits chg_done chg_size chg_sorts chg_numbers chg_afters S_who S_against S_kind S_won S_day S_land S_undoneFrom S_asked S_askedCount S_askedBits S_first S_foundSo S_foundNot S_fought S_needed) sz)) (Q_X1_again D cs ad LP S_a S_b court_shoeCount court_claimCount court_suitCount court_suits chg_size chg_sorts chg_numbers chg_afters S_who S_against S_kind S_day S_land S_asked S_askedCount S_askedBits S_first S_foundSo S_foundNot S_fought S_needed (va_A (wl_X1_again ad cs LP S_a S_b court_shoeCount court_claimCount court_suitCount court_shoeDay court_suits chg_done chg_size chg_sorts chg_numbers chg_afters S_who S_against S_kind S_won S_day S_land S_undoneFrom S_asked S_askedCount S_askedBits S_first S_foundSo S_foundNot S_fought S_needed) sz) R) 0 0 (va_A (wl_X1_again ad cs LP S_a S_b court_shoeCount court_claimCount court_suitCount court_shoeDay court_suits chg_done chg_size chg_sorts chg_numbers chg_afters S_who S_against S_kind S_won S_day S_land S_undoneFrom S_asked S_askedCount S_askedBits S_first S_foundSo S_foundNot S_fought S_needed) sz) := by
  refine Met.ofW (cc := cX1_again) (maxL := 1) (ret := (some .int)) (by decide) rfl ?_
  intro p e s m args below meth c s₁ B hml hv
  obtain ⟨rfl, hsz, hP, hK, hD0⟩ := hv
  subst hsz
  have hD := hD0.self (sz := s.heap.size)
  have C0 : zC p s m _ meth c cX1_again 1 (some .int) RX1 zW := ⟨B.exec, B.bytes, B.returns, hml, findClass_of_methodNamed B.named, fun w hw => atoms_spec (ws := z_X1_again) B.pre w (List.mem_cons_of_mem _ hw), B.notSynchronized⟩
  have hA : ∀ q : Nat, s.heap.size ≤ q → va_A (wl_X1_again ad cs LP S_a S_b court_shoeCount court_claimCount court_suitCount court_shoeDay court_suits chg_done chg_size chg_sorts chg_numbers chg_afters S_who S_against S_kind S_won S_day S_land S_undoneFrom S_asked S_askedCount S_askedBits S_first S_foundSo S_foundNot S_fought S_needed) s.heap.size q := fun q h => Or.inr h
  have hl := lv_entry ([.ref (ad 34)]) (n := 1) (Nat.le_of_ble_eq_true rfl)
  rw [lg_entry_eq]
  generalize (lg_sl ([.ref (ad 34)]) ++ List.replicate (1 - (lg_sl ([.ref (ad 34)])).length) Slot.unset).toArray = ls at hl ⊢
  exact L_X1_again_0 C0 hK hA hSA    court_shoeDay chg_done S_won S_undoneFrom h s.heap [] ls hP hD va_S.rf hl
theorem kw_255 : Cond.fieldLink RX8 19 "AlreadyJudged$SuitReader" "fault" "I" ∈ zW := zwC (i := 181) zc_1 rfl rfl
theorem zh_cX8_judge_0 : zck [27, 154, 0, 15, 42, 180, 0, 19, 156, 0, 8, 42, 28, 181, 0, 19, 177] (zdu 0 cX8_judge.data.toList) = true := by decide +kernel
theorem dX8_judge_0 : decode cX8_judge 0 = .ok (.iload_n 1, 1) := zo_27 zh_cX8_judge_0 0 rfl
theorem dX8_judge_1 : decode cX8_judge 1 = .ok (.ifCond .ne 15, 3) := zo_p154 zh_cX8_judge_0 1 15 rfl rfl
theorem dX8_judge_4 : decode cX8_judge 4 = .ok (.aload_n 0, 1) := zo_42 zh_cX8_judge_0 4 rfl
theorem dX8_judge_5 : decode cX8_judge 5 = .ok (.getfield 19, 3) := zo_180 zh_cX8_judge_0 5 rfl
theorem dX8_judge_8 : decode cX8_judge 8 = .ok (.ifCond .ge 8, 3) := zo_p156 zh_cX8_judge_0 8 8 rfl rfl
theorem dX8_judge_11 : decode cX8_judge 11 = .ok (.aload_n 0, 1) := zo_42 zh_cX8_judge_0 11 rfl
theorem dX8_judge_12 : decode cX8_judge 12 = .ok (.iload_n 2, 1) := zo_28 zh_cX8_judge_0 12 rfl
theorem dX8_judge_13 : decode cX8_judge 13 = .ok (.putfield 19, 3) := zo_181 zh_cX8_judge_0 13 rfl
theorem dX8_judge_16 : decode cX8_judge 16 = .ok (.return_, 1) := zo_177 zh_cX8_judge_0 16 rfl
abbrev z_X8_judge : List Cond := .code yX8_judge cX8_judge 3 none :: zW
abbrev wl_X8_judge (ad : Nat → Nat) (cs : Nat → ClassId)  (sr_spare : Value) (sr_at : Int32) (sr_numberAt : Int32) (sr_fault : Int32) : va_W := [((ad 25), .inr (8, [.ref (ad 23), sr_spare, .int sr_at, .int sr_numberAt, .int sr_fault]))]
def Q_X8_judge (D : va_G) (cs : Nat → ClassId) (ad : Nat → Nat)  (sr_spare : Value) (sr_at : Int32) (sr_numberAt : Int32) (A : Nat → Prop) (R : Int32) : Array Value → State → Outcome → State → Prop :=
  va_Qv (fun u : Int32 => u = R) (fun (u : Int32) (t : State) => va_P D classes (wl_X8_judge ad cs sr_spare sr_at sr_numberAt u) t.heap ∧ va_D A (wl_X8_judge ad cs sr_spare sr_at sr_numberAt u)) A
abbrev rm_X8_judge : Room := { frames := 0, cells := 0, slots := 0, locals := 0 }
def B_X8_judge_0    (sr_spare : Value) (sr_at : Int32) (sr_numberAt : Int32) (x1 : Int32) (x2 : Int32) (sr_fault : Int32) : Option (Int32) :=
  (if x1 = 0 then (if 0 ≤ sr_fault then (some sr_fault) else (some x2)) else (some sr_fault))
def f_X8_judge   (x1 : Int32) (x2 : Int32) (sr_spare : Value) (sr_at : Int32) (sr_numberAt : Int32) (sr_fault : Int32) : Option (Int32) := B_X8_judge_0   sr_spare sr_at sr_numberAt x1 x2 sr_fault
set_option maxHeartbeats 4000000 in
set_option maxRecDepth 100000 in
theorem L_X8_judge_0 {p : Program} {l : Launch} {e : Env} {s : State} {m : MethodId} {args : Array Value} {below : List Frame} {meth : Method} {c : Code} {A : Nat → Prop} {D : va_G} {cs : Nat → ClassId} {ad : Nat → Nat} {sr_spare : Value} {sr_at : Int32} {sr_numberAt : Int32} {R : Int32} (C0 : zC p s m args meth c cX8_judge 3 none RX8 zW) (hK : va_K D classes (zT cs) s) (hA : ∀ q : Nat, s.heap.size ≤ q → A q) (x1 : Int32) (x2 : Int32) (sr_fault : Int32) (h : B_X8_judge_0 sr_spare sr_at sr_numberAt x1 x2 sr_fault = some R) (H : Heap) (locs : List Loc) (ls : Array Slot) (hP : va_P D classes (wl_X8_judge ad cs sr_spare sr_at sr_numberAt sr_fault) H) (hD : va_D A (wl_X8_judge ad cs sr_spare sr_at sr_numberAt sr_fault)) (hS : va_S A s.heap H locs) (hl : lv_has ls 3 [(0, .ref (ad 25)), (1, .int x1), (2, .int x2)]) : W p l e rm_X8_judge s m args below meth c H locs 0 0 (MQ below (Q_X8_judge D cs ad sr_spare sr_at sr_numberAt A R) args s 0 0 A) (F0 m 0 ls []) := by
  obtain ⟨hx, hb, hr, hml, hown, ht, hlocks⟩ := id C0
  refine lv_iload_n hx hb dX8_judge_0 rfl (lv_at hl 1 rfl) ?_
  refine lv_if_ne (tgt := 16) hx hb dX8_judge_1 (by decide) (fun c_1 => ?_) (fun c_1 => ?_)
  · have h := zk_f c_1 h
    exact W.vret hx hb hr (fun t ht2 hW => ⟨⟨sr_fault, rfl, Option.some.inj h, by rw [ht2]; exact hP, hD⟩, hS.F ht2⟩) hS.2.2 dX8_judge_16 hlocks
  · have h := zk_t c_1 h
    refine lv_aload_n hx hb dX8_judge_4 rfl (lv_at hl 0 rfl) ?_
    refine va_get (D := D) (ci := 8) (v := .int sr_fault) (C := RX8) (T := TX8) (N := 5) hx hb ht iX8 hown hK hP 0 rfl rfl 4 (by decide) (ht _ kw_255) (fun _ h9 => h9) rfl dX8_judge_5 ?_
    refine lv_if_ge (tgt := 16) hx hb dX8_judge_8 (by decide) (fun c_2 => ?_) (fun c_2 => ?_)
    · have h := zk_t c_2 h
      exact W.vret hx hb hr (fun t ht2 hW => ⟨⟨sr_fault, rfl, Option.some.inj h, by rw [ht2]; exact hP, hD⟩, hS.F ht2⟩) hS.2.2 dX8_judge_16 hlocks
    · have h := zk_f c_2 h
      refine lv_aload_n hx hb dX8_judge_11 rfl (lv_at hl 0 rfl) ?_
      refine lv_iload_n hx hb dX8_judge_12 rfl (lv_at hl 2 rfl) ?_
      refine va_put (D := D) (ci := 8) (v := .int x2) (ty := .int) (C := RX8) (T := TX8) (N := 5) hx hb ht iX8 tyX8 tyX8_ok nmX8 hown hK hP hD hS 0 rfl rfl 4 (by decide) (ht _ kw_255) (fun _ h9 => h9) rfl (by decide +kernel) rfl rfl (Nat.le_of_ble_eq_true rfl) dX8_judge_13 (fun H locs hP hD hS => ?_)
      have hP : va_P D classes (wl_X8_judge ad cs sr_spare sr_at sr_numberAt x2) H := hP
      have hD : va_D A (wl_X8_judge ad cs sr_spare sr_at sr_numberAt x2) := hD
      exact W.vret hx hb hr (fun t ht2 hW => ⟨⟨x2, rfl, Option.some.inj h, by rw [ht2]; exact hP, hD⟩, hS.F ht2⟩) hS.2.2 dX8_judge_16 hlocks
set_option maxHeartbeats 4000000 in
set_option maxRecDepth 100000 in
theorem c_X8_judge (l : Launch) (D : va_G) (cs : Nat → ClassId) (ad : Nat → Nat) (sz : Nat) (x1 : Int32) (x2 : Int32) (sr_spare : Value) (sr_at : Int32) (sr_numberAt : Int32) (sr_fault : Int32) (R : Int32) (h : f_X8_judge   x1 x2 sr_spare sr_at sr_numberAt sr_fault = some R) : Met l yX8_judge (z_X8_judge) rm_X8_judge (va_Pc [.ref (ad 25), .int x1, .int x2] (zPre D cs (wl_X8_judge ad cs sr_spare sr_at sr_numberAt sr_fault) sz)) (Q_X8_judge D cs ad sr_spare sr_at sr_numberAt (va_A (wl_X8_judge ad cs sr_spare sr_at sr_numberAt sr_fault) sz) R) 0 0 (va_A (wl_X8_judge ad cs sr_spare sr_at sr_numberAt sr_fault) sz) := by
  refine Met.ofW (cc := cX8_judge) (maxL := 3) (ret := none) (by decide) rfl ?_
  intro p e s m args below meth c s₁ B hml hv
  obtain ⟨rfl, hsz, hP, hK, hD0⟩ := hv
  subst hsz
  have hD := hD0.self (sz := s.heap.size)
  have C0 : zC p s m _ meth c cX8_judge 3 none RX8 zW := ⟨B.exec, B.bytes, B.returns, hml, findClass_of_methodNamed B.named, fun w hw => atoms_spec (ws := z_X8_judge) B.pre w (List.mem_cons_of_mem _ hw), B.notSynchronized⟩
  have hA : ∀ q : Nat, s.heap.size ≤ q → va_A (wl_X8_judge ad cs sr_spare sr_at sr_numberAt sr_fault) s.heap.size q := fun q h => Or.inr h
  have hl := lv_entry ([.ref (ad 25), .int x1, .int x2]) (n := 3) (Nat.le_of_ble_eq_true rfl)
  rw [lg_entry_eq]
  generalize (lg_sl ([.ref (ad 25), .int x1, .int x2]) ++ List.replicate (3 - (lg_sl ([.ref (ad 25), .int x1, .int x2])).length) Slot.unset).toArray = ls at hl ⊢
  exact L_X8_judge_0 C0 hK hA   x1 x2 sr_fault h s.heap [] ls hP hD va_S.rf hl
theorem kw_79 : Cond.initialized RX8 ∈ zW := zwC (i := 5) zc_1 rfl rfl
theorem kw_251 : Cond.fieldLink RX8 9 "AlreadyJudged$SuitReader" "tape" "LAlreadyJudged$Tape;" ∈ zW := zwC (i := 177) zc_1 rfl rfl
theorem kw_253 : Cond.fieldLink RX8 15 "AlreadyJudged$SuitReader" "at" "I" ∈ zW := zwC (i := 179) zc_1 rfl rfl
theorem kw_254 : Cond.fieldLink RX8 69 "AlreadyJudged$SuitReader" "numberAt" "I" ∈ zW := zwC (i := 180) zc_1 rfl rfl
theorem kw_558 : Cond.instanceMethod yX9_isDigitAt ∈ zW := zwC (i := 4) zc_3 rfl rfl
theorem kw_559 : Cond.selects RX9 yX9_isDigitAt yX9_isDigitAt ∈ zW := zwC (i := 5) zc_3 rfl rfl
theorem kw_560 : Cond.code yX9_isDigitAt cX9_isDigitAt 3 (some .boolean) ∈ zW := zwC (i := 6) zc_3 rfl rfl
theorem kw_889 : Cond.methodLink RX8 122 yX9_isDigitAt ∈ zW := zwC (i := 95) zc_4 rfl rfl
theorem kw_890 : Cond.methodLink RX8 48 yX8_judge ∈ zW := zwC (i := 96) zc_4 rfl rfl
theorem kw_891 : Cond.instanceMethod yX8_judge ∈ zW := zwC (i := 97) zc_4 rfl rfl
theorem kw_892 : Cond.selects RX8 yX8_judge yX8_judge ∈ zW := zwC (i := 98) zc_4 rfl rfl
theorem kw_893 : Cond.code yX8_judge cX8_judge 3 none ∈ zW := zwC (i := 99) zc_4 rfl rfl
theorem kw_894 : Cond.methodLink RX8 125 yX9_byteAt ∈ zW := zwC (i := 100) zc_4 rfl rfl
theorem zh_cX8_number_0 : zck [42, 42, 180, 0, 15, 181, 0, 69, 42, 42, 180, 0, 9, 42, 180, 0, 15, 182, 0, 122, 42, 180] (zdu 0 cX8_number.data.toList) = true := by decide +kernel
theorem dX8_number_0 : decode cX8_number 0 = .ok (.aload_n 0, 1) := zo_42 zh_cX8_number_0 0 rfl
theorem dX8_number_1 : decode cX8_number 1 = .ok (.aload_n 0, 1) := zo_42 zh_cX8_number_0 1 rfl
theorem dX8_number_2 : decode cX8_number 2 = .ok (.getfield 15, 3) := zo_180 zh_cX8_number_0 2 rfl
theorem dX8_number_5 : decode cX8_number 5 = .ok (.putfield 69, 3) := zo_181 zh_cX8_number_0 5 rfl
theorem dX8_number_8 : decode cX8_number 8 = .ok (.aload_n 0, 1) := zo_42 zh_cX8_number_0 8 rfl
theorem dX8_number_9 : decode cX8_number 9 = .ok (.aload_n 0, 1) := zo_42 zh_cX8_number_0 9 rfl
theorem dX8_number_10 : decode cX8_number 10 = .ok (.getfield 9, 3) := zo_180 zh_cX8_number_0 10 rfl
theorem dX8_number_13 : decode cX8_number 13 = .ok (.aload_n 0, 1) := zo_42 zh_cX8_number_0 13 rfl
theorem dX8_number_14 : decode cX8_number 14 = .ok (.getfield 15, 3) := zo_180 zh_cX8_number_0 14 rfl
theorem dX8_number_17 : decode cX8_number 17 = .ok (.invokevirtual 122, 3) := zo_182 zh_cX8_number_0 17 rfl
theorem zh_cX8_number_1 : zck [42, 180, 0, 15, 182, 0, 48, 3, 61, 3, 62, 29, 27, 162, 0, 60, 42, 180, 0, 19, 156, 0] (zdu 20 cX8_number.data.toList) = true := by decide +kernel
theorem dX8_number_20 : decode cX8_number 20 = .ok (.aload_n 0, 1) := zo_42 zh_cX8_number_1 0 rfl
theorem dX8_number_21 : decode cX8_number 21 = .ok (.getfield 15, 3) := zo_180 zh_cX8_number_1 1 rfl
theorem dX8_number_24 : decode cX8_number 24 = .ok (.invokevirtual 48, 3) := zo_182 zh_cX8_number_1 4 rfl
theorem dX8_number_27 : decode cX8_number 27 = .ok (.iconst 0, 1) := zo_3 zh_cX8_number_1 7 rfl
theorem dX8_number_28 : decode cX8_number 28 = .ok (.istore_n 2, 1) := zo_61 zh_cX8_number_1 8 rfl
theorem dX8_number_29 : decode cX8_number 29 = .ok (.iconst 0, 1) := zo_3 zh_cX8_number_1 9 rfl
theorem dX8_number_30 : decode cX8_number 30 = .ok (.istore_n 3, 1) := zo_62 zh_cX8_number_1 10 rfl
theorem dX8_number_31 : decode cX8_number 31 = .ok (.iload_n 3, 1) := zo_29 zh_cX8_number_1 11 rfl
theorem dX8_number_32 : decode cX8_number 32 = .ok (.iload_n 1, 1) := zo_27 zh_cX8_number_1 12 rfl
theorem dX8_number_33 : decode cX8_number 33 = .ok (.if_icmp .ge 60, 3) := zo_p162 zh_cX8_number_1 13 60 rfl rfl
theorem dX8_number_36 : decode cX8_number 36 = .ok (.aload_n 0, 1) := zo_42 zh_cX8_number_1 16 rfl
theorem dX8_number_37 : decode cX8_number 37 = .ok (.getfield 19, 3) := zo_180 zh_cX8_number_1 17 rfl
theorem zh_cX8_number_2 : zck [156, 0, 53, 42, 180, 0, 9, 42, 180, 0, 15, 182, 0, 122, 153, 0, 39, 28, 16, 10, 104, 42] (zdu 40 cX8_number.data.toList) = true := by decide +kernel
theorem dX8_number_40 : decode cX8_number 40 = .ok (.ifCond .ge 53, 3) := zo_p156 zh_cX8_number_2 0 53 rfl rfl
theorem dX8_number_43 : decode cX8_number 43 = .ok (.aload_n 0, 1) := zo_42 zh_cX8_number_2 3 rfl
theorem dX8_number_44 : decode cX8_number 44 = .ok (.getfield 9, 3) := zo_180 zh_cX8_number_2 4 rfl
theorem dX8_number_47 : decode cX8_number 47 = .ok (.aload_n 0, 1) := zo_42 zh_cX8_number_2 7 rfl
theorem dX8_number_48 : decode cX8_number 48 = .ok (.getfield 15, 3) := zo_180 zh_cX8_number_2 8 rfl
theorem dX8_number_51 : decode cX8_number 51 = .ok (.invokevirtual 122, 3) := zo_182 zh_cX8_number_2 11 rfl
theorem dX8_number_54 : decode cX8_number 54 = .ok (.ifCond .eq 39, 3) := zo_p153 zh_cX8_number_2 14 39 rfl rfl
theorem dX8_number_57 : decode cX8_number 57 = .ok (.iload_n 2, 1) := zo_28 zh_cX8_number_2 17 rfl
theorem dX8_number_58 : decode cX8_number 58 = .ok (.bipush 10, 2) := zo_p16 zh_cX8_number_2 18 10 rfl rfl
theorem zh_cX8_number_3 : zck [104, 42, 180, 0, 9, 42, 180, 0, 15, 182, 0, 125, 96, 16, 48, 100, 61, 42, 89, 180, 0, 15] (zdu 60 cX8_number.data.toList) = true := by decide +kernel
theorem dX8_number_60 : decode cX8_number 60 = .ok (.imul, 1) := zo_104 zh_cX8_number_3 0 rfl
theorem dX8_number_61 : decode cX8_number 61 = .ok (.aload_n 0, 1) := zo_42 zh_cX8_number_3 1 rfl
theorem dX8_number_62 : decode cX8_number 62 = .ok (.getfield 9, 3) := zo_180 zh_cX8_number_3 2 rfl
theorem dX8_number_65 : decode cX8_number 65 = .ok (.aload_n 0, 1) := zo_42 zh_cX8_number_3 5 rfl
theorem dX8_number_66 : decode cX8_number 66 = .ok (.getfield 15, 3) := zo_180 zh_cX8_number_3 6 rfl
theorem dX8_number_69 : decode cX8_number 69 = .ok (.invokevirtual 125, 3) := zo_182 zh_cX8_number_3 9 rfl
theorem dX8_number_72 : decode cX8_number 72 = .ok (.iadd, 1) := zo_96 zh_cX8_number_3 12 rfl
theorem dX8_number_73 : decode cX8_number 73 = .ok (.bipush 48, 2) := zo_p16 zh_cX8_number_3 13 48 rfl rfl
theorem dX8_number_75 : decode cX8_number 75 = .ok (.isub, 1) := zo_100 zh_cX8_number_3 15 rfl
theorem dX8_number_76 : decode cX8_number 76 = .ok (.istore_n 2, 1) := zo_61 zh_cX8_number_3 16 rfl
theorem dX8_number_77 : decode cX8_number 77 = .ok (.aload_n 0, 1) := zo_42 zh_cX8_number_3 17 rfl
theorem dX8_number_78 : decode cX8_number 78 = .ok (.dup, 1) := zo_89 zh_cX8_number_3 18 rfl
theorem dX8_number_79 : decode cX8_number 79 = .ok (.getfield 15, 3) := zo_180 zh_cX8_number_3 19 rfl
theorem zh_cX8_number_4 : zck [0, 15, 4, 96, 181, 0, 15, 132, 3, 1, 167, 255, 197, 28, 172] (zdu 80 cX8_number.data.toList) = true := by decide +kernel
theorem dX8_number_82 : decode cX8_number 82 = .ok (.iconst 1, 1) := zo_4 zh_cX8_number_4 2 rfl
theorem dX8_number_83 : decode cX8_number 83 = .ok (.iadd, 1) := zo_96 zh_cX8_number_4 3 rfl
theorem dX8_number_84 : decode cX8_number 84 = .ok (.putfield 15, 3) := zo_181 zh_cX8_number_4 4 rfl
theorem dX8_number_87 : decode cX8_number 87 = .ok (.iinc 3 1, 3) := zo_p132 zh_cX8_number_4 7 1 rfl rfl
theorem dX8_number_90 : decode cX8_number 90 = .ok (.goto (-59), 3) := zo_n167 zh_cX8_number_4 10 58 rfl rfl
theorem dX8_number_93 : decode cX8_number 93 = .ok (.iload_n 2, 1) := zo_28 zh_cX8_number_4 13 rfl
theorem dX8_number_94 : decode cX8_number 94 = .ok (.ireturn, 1) := zo_172 zh_cX8_number_4 14 rfl
abbrev z_X8_number : List Cond := .code yX8_number cX8_number 4 (some .int) :: zW
abbrev wl_X8_number (ad : Nat → Nat) (cs : Nat → ClassId)  (tape_size : Int32) (tape_bytes : Nat → Int32) (sr_spare : Value) (sr_at : Int32) (sr_numberAt : Int32) (sr_fault : Int32) : va_W := [((ad 23), .inr (9, [.ref (ad 24), .int tape_size])), ((ad 24), .inl (cs 0, 120, .inl tape_bytes)), ((ad 25), .inr (8, [.ref (ad 23), sr_spare, .int sr_at, .int sr_numberAt, .int sr_fault]))]
def Q_X8_number (D : va_G) (cs : Nat → ClassId) (ad : Nat → Nat)  (tape_size : Int32) (tape_bytes : Nat → Int32) (sr_spare : Value) (A : Nat → Prop) (R : Int32 × Int32 × Int32 × Int32) : Array Value → State → Outcome → State → Prop :=
  va_Qi (fun (r : Int32) (u : Int32 × Int32 × Int32) => (r, u) = R) (fun (u : Int32 × Int32 × Int32) (t : State) => va_P D classes (wl_X8_number ad cs tape_size tape_bytes sr_spare u.1 u.2.1 u.2.2) t.heap ∧ va_D A (wl_X8_number ad cs tape_size tape_bytes sr_spare u.1 u.2.1 u.2.2)) A
abbrev rm_X8_number : Room := { frames := 2, cells := 0, slots := 0, locals := 43 }
theorem g_X8_122 : GoodIn zW (wsV RX8 122 RX9 yX9_isDigitAt z_X9_isDigitAt) := zGV kw_889 kw_558 kw_559 kw_78 kw_560
theorem g_X8_125 : GoodIn zW (wsV RX8 125 RX9 yX9_byteAt z_X9_byteAt) := zGV kw_894 kw_554 kw_555 kw_78 kw_556
theorem g_X8_48 : GoodIn zW (wsV RX8 48 RX8 yX8_judge z_X8_judge) := zGV kw_890 kw_891 kw_892 kw_79 kw_893
theorem hd_X8_judge : yX8_judge.cls ≠ "java/lang/invoke/MethodHandle" ∧ yX8_judge.cls ≠ "java/lang/invoke/VarHandle" ∧ (parseMethodDescriptor yX8_judge.desc).map (fun d => d.parameters.length) = some 2 := by decide +kernel
theorem hd_X9_isDigitAt : yX9_isDigitAt.cls ≠ "java/lang/invoke/MethodHandle" ∧ yX9_isDigitAt.cls ≠ "java/lang/invoke/VarHandle" ∧ (parseMethodDescriptor yX9_isDigitAt.desc).map (fun d => d.parameters.length) = some 1 := by decide +kernel
def B_X8_number_31   (g31 : Int32 → Int32 → Int32 → Int32 → Int32 → Int32 → (Option (Int32 × Int32 × Int32 × Int32))) (tape_size : Int32) (tape_bytes : Nat → Int32) (sr_spare : Value) (x1 : Int32) (x2 : Int32) (x3 : Int32) (sr_at : Int32) (sr_numberAt : Int32) (sr_fault : Int32) : Option (Int32 × Int32 × Int32 × Int32) :=
  (if x1 ≤ x3 then (some (x2, sr_at, sr_numberAt, sr_fault)) else (if 0 ≤ sr_fault then (some (x2, sr_at, sr_numberAt, sr_fault)) else (zk_b2 (f_X9_isDigitAt sr_at tape_size tape_bytes) (fun r_8 u_9 => (if r_8 = 0 then (some (x2, sr_at, sr_numberAt, sr_fault)) else (zk_b2 (f_X9_byteAt sr_at tape_size tape_bytes) (fun r_12 u_13 => (zk_let (((x2 * (10 : Int32)) + r_12) - (48 : Int32)) (fun v_15 => (zk_let (sr_at + (1 : Int32)) (fun v_16 => (zk_let (x3 + (1 : Int32)) (fun v_17 => (g31 x1 v_15 v_17 v_16 sr_numberAt sr_fault))))))))))))))
def B_X8_number_0   (g31 : Int32 → Int32 → Int32 → Int32 → Int32 → Int32 → (Option (Int32 × Int32 × Int32 × Int32))) (tape_size : Int32) (tape_bytes : Nat → Int32) (sr_spare : Value) (x1 : Int32) (sr_at : Int32) (sr_numberAt : Int32) (sr_fault : Int32) : Option (Int32 × Int32 × Int32 × Int32) :=
  (zk_b2 (f_X9_isDigitAt sr_at tape_size tape_bytes) (fun r_1 u_2 => (zk_b1 (f_X8_judge r_1 sr_at sr_spare sr_at sr_at sr_fault) (fun u_4 => (g31 x1 (0 : Int32) (0 : Int32) sr_at sr_at u_4)))))
def G_X8_number   (tape_size : Int32) (tape_bytes : Nat → Int32) (sr_spare : Value) (n : Nat) : (Int32 → Int32 → Int32 → Int32 → Int32 → Int32 → (Option (Int32 × Int32 × Int32 × Int32))) :=
  Nat.rec (motive := fun _ => (Int32 → Int32 → Int32 → Int32 → Int32 → Int32 → (Option (Int32 × Int32 × Int32 × Int32)))) ((fun _ _ _ _ _ _ => none)) (fun _ ih => (B_X8_number_31   ih tape_size tape_bytes sr_spare)) n
def f_X8_number   (n : Nat) (x1 : Int32) (tape_size : Int32) (tape_bytes : Nat → Int32) (sr_spare : Value) (sr_at : Int32) (sr_numberAt : Int32) (sr_fault : Int32) : Option (Int32 × Int32 × Int32 × Int32) := B_X8_number_0   ((G_X8_number   tape_size tape_bytes sr_spare n)) tape_size tape_bytes sr_spare x1 sr_at sr_numberAt sr_fault
set_option maxHeartbeats 4000000 in
set_option maxRecDepth 100000 in
theorem L_X8_number_31 {p : Program} {l : Launch} {e : Env} {s : State} {m : MethodId} {args : Array Value} {below : List Frame} {meth : Method} {c : Code} {A : Nat → Prop} {D : va_G} {cs : Nat → ClassId} {ad : Nat → Nat} {tape_size : Int32} {tape_bytes : Nat → Int32} {sr_spare : Value} {R : Int32 × Int32 × Int32 × Int32} {g31 : Int32 → Int32 → Int32 → Int32 → Int32 → Int32 → (Option (Int32 × Int32 × Int32 × Int32))} (C0 : zC p s m args meth c cX8_number 4 (some .int) RX8 zW) (hK : va_K D classes (zT cs) s) (hA : ∀ q : Nat, s.heap.size ≤ q → A q) (ih31 : ∀ (x1 : Int32) (x2 : Int32) (x3 : Int32) (sr_at : Int32) (sr_numberAt : Int32) (sr_fault : Int32) (h : g31 x1 x2 x3 sr_at sr_numberAt sr_fault = some R) (H : Heap) (locs : List Loc) (ls : Array Slot) (hP : va_P D classes (wl_X8_number ad cs tape_size tape_bytes sr_spare sr_at sr_numberAt sr_fault) H) (hD : va_D A (wl_X8_number ad cs tape_size tape_bytes sr_spare sr_at sr_numberAt sr_fault)) (hS : va_S A s.heap H locs) (hl : lv_has ls 4 [(0, .ref (ad 25)), (1, .int x1), (2, .int x2), (3, .int x3)]), W p l e rm_X8_number s m args below meth c H locs 0 0 (MQ below (Q_X8_number D cs ad tape_size tape_bytes sr_spare A R) args s 0 0 A) (F0 m 31 ls [])) (x1 : Int32) (x2 : Int32) (x3 : Int32) (sr_at : Int32) (sr_numberAt : Int32) (sr_fault : Int32) (h : B_X8_number_31 g31 tape_size tape_bytes sr_spare x1 x2 x3 sr_at sr_numberAt sr_fault = some R) (H : Heap) (locs : List Loc) (ls : Array Slot) (hP : va_P D classes (wl_X8_number ad cs tape_size tape_bytes sr_spare sr_at sr_numberAt sr_fault) H) (hD : va_D A (wl_X8_number ad cs tape_size tape_bytes sr_spare sr_at sr_numberAt sr_fault)) (hS : va_S A s.heap H locs) (hl : lv_has ls 4 [(0, .ref (ad 25)), (1, .int x1), (2, .int x2), (3, .int x3)]) : W p l e rm_X8_number s m args below meth c H locs 0 0 (MQ below (Q_X8_number D cs ad tape_size tape_bytes sr_spare A R) args s 0 0 A) (F0 m 31 ls []) := by
  obtain ⟨hx, hb, hr, hml, hown, ht, hlocks⟩ := id C0
  refine lv_iload_n hx hb dX8_number_31 rfl (lv_at hl 3 rfl) ?_
  refine lv_iload_n hx hb dX8_number_32 rfl (lv_at hl 1 rfl) ?_
  refine lv_icmp_ge (tgt := 93) hx hb dX8_number_33 (by decide) (fun c_6 => ?_) (fun c_6 => ?_)
  · have h := zk_t c_6 h
    refine lv_iload_n hx hb dX8_number_93 rfl (lv_at hl 2 rfl) ?_
    exact W.iret (v := x2) hx hb hr (fun t ht2 hW => ⟨⟨x2, (sr_at, sr_numberAt, sr_fault), rfl, Option.some.inj h, by rw [ht2]; exact hP, hD⟩, hS.F ht2⟩) hS.2.2 dX8_number_94 hlocks
  · have h := zk_f c_6 h
    refine lv_aload_n hx hb dX8_number_36 rfl (lv_at hl 0 rfl) ?_
    refine va_get (D := D) (ci := 8) (v := .int sr_fault) (C := RX8) (T := TX8) (N := 5) hx hb ht iX8 hown hK hP 2 rfl rfl 4 (by decide) (ht _ kw_255) (fun _ h9 => h9) rfl dX8_number_37 ?_
    refine lv_if_ge (tgt := 93) hx hb dX8_number_40 (by decide) (fun c_7 => ?_) (fun c_7 => ?_)
    · have h := zk_t c_7 h
      refine lv_iload_n hx hb dX8_number_93 rfl (lv_at hl 2 rfl) ?_
      exact W.iret (v := x2) hx hb hr (fun t ht2 hW => ⟨⟨x2, (sr_at, sr_numberAt, sr_fault), rfl, Option.some.inj h, by rw [ht2]; exact hP, hD⟩, hS.F ht2⟩) hS.2.2 dX8_number_94 hlocks
    · have h := zk_f c_7 h
      refine lv_aload_n hx hb dX8_number_43 rfl (lv_at hl 0 rfl) ?_
      refine va_get (D := D) (ci := 8) (v := .ref (ad 23)) (C := RX8) (T := TX8) (N := 5) hx hb ht iX8 hown hK hP 2 rfl rfl 0 (by decide) (ht _ kw_251) (fun _ h9 => h9) rfl dX8_number_44 ?_
      refine lv_aload_n hx hb dX8_number_47 rfl (lv_at hl 0 rfl) ?_
      refine va_get (D := D) (ci := 8) (v := .int sr_at) (C := RX8) (T := TX8) (N := 5) hx hb ht iX8 hown hK hP 2 rfl rfl 2 (by decide) (ht _ kw_253) (fun _ h9 => h9) rfl dX8_number_48 ?_
      obtain ⟨r_8, u_9, hc_10, h⟩ := zk_o2 h
      refine zz_vi (post := (fun r u => (r, u) = (r_8, u_9))) (w1 := fun u => (wl_X9_isDigitAt ad cs tape_size tape_bytes)) (As := [.int sr_at]) (rest := []) (c_X9_isDigitAt l D cs ad  H.size sr_at tape_size tape_bytes (r_8, u_9) hc_10) ⟨hx, hb, hml, hown, ht⟩ (cwV 1 ht g_X8_122 rfl rfl rfl ⟨rfl, hd_X9_isDigitAt⟩ ⟨Nat.le_of_ble_eq_true rfl, Nat.le_of_ble_eq_true rfl⟩) (va_recv hK hP (ci := 9) (q0 := 0) rfl rfl) hP hD hS hK hA [0, 1] rfl rfl [(ad 23), (ad 24)] rfl (fun _ => rfl) rfl hl.1 (Nat.le_of_ble_eq_true rfl) dX8_number_51 ⟨Nat.zero_le _, Nat.zero_le _⟩ (fun r u H locs hq hP hS => ?_)
      cases hq
      have hP : va_P D classes (wl_X8_number ad cs tape_size tape_bytes sr_spare sr_at sr_numberAt sr_fault) H := hP
      have hD : va_D A (wl_X8_number ad cs tape_size tape_bytes sr_spare sr_at sr_numberAt sr_fault) := zDk hD [(ad 23), (ad 24), (ad 25)] rfl rfl
      refine lv_if_eq (tgt := 93) hx hb dX8_number_54 (by decide) (fun c_11 => ?_) (fun c_11 => ?_)
      · have h := zk_t c_11 h
        refine lv_iload_n hx hb dX8_number_93 rfl (lv_at hl 2 rfl) ?_
        exact W.iret (v := x2) hx hb hr (fun t ht2 hW => ⟨⟨x2, (sr_at, sr_numberAt, sr_fault), rfl, Option.some.inj h, by rw [ht2]; exact hP, hD⟩, hS.F ht2⟩) hS.2.2 dX8_number_94 hlocks
      · have h := zk_f c_11 h
        refine lv_iload_n hx hb dX8_number_57 rfl (lv_at hl 2 rfl) ?_
        refine lv_bipush (v := (10 : Int32)) hx hb dX8_number_58 (by decide) ?_
        refine lv_imul hx hb dX8_number_60 ?_
        refine lv_aload_n hx hb dX8_number_61 rfl (lv_at hl 0 rfl) ?_
        refine va_get (D := D) (ci := 8) (v := .ref (ad 23)) (C := RX8) (T := TX8) (N := 5) hx hb ht iX8 hown hK hP 2 rfl rfl 0 (by decide) (ht _ kw_251) (fun _ h9 => h9) rfl dX8_number_62 ?_
        refine lv_aload_n hx hb dX8_number_65 rfl (lv_at hl 0 rfl) ?_
        refine va_get (D := D) (ci := 8) (v := .int sr_at) (C := RX8) (T := TX8) (N := 5) hx hb ht iX8 hown hK hP 2 rfl rfl 2 (by decide) (ht _ kw_253) (fun _ h9 => h9) rfl dX8_number_66 ?_
        obtain ⟨r_12, u_13, hc_14, h⟩ := zk_o2 h
        refine zz_vi (post := (fun r u => (r, u) = (r_12, u_13))) (w1 := fun u => (wl_X9_byteAt ad cs tape_size tape_bytes)) (As := [.int sr_at]) (rest := [.int (x2 * (10 : Int32))]) (c_X9_byteAt l D cs ad  H.size sr_at tape_size tape_bytes (r_12, u_13) hc_14) ⟨hx, hb, hml, hown, ht⟩ (cwV 1 ht g_X8_125 rfl rfl rfl ⟨rfl, hd_X9_byteAt⟩ ⟨Nat.le_of_ble_eq_true rfl, Nat.le_of_ble_eq_true rfl⟩) (va_recv hK hP (ci := 9) (q0 := 0) rfl rfl) hP hD hS hK hA [0, 1] rfl rfl [(ad 23), (ad 24)] rfl (fun _ => rfl) rfl hl.1 (Nat.le_of_ble_eq_true rfl) dX8_number_69 ⟨Nat.zero_le _, Nat.zero_le _⟩ (fun r u H locs hq hP hS => ?_)
        cases hq
        have hP : va_P D classes (wl_X8_number ad cs tape_size tape_bytes sr_spare sr_at sr_numberAt sr_fault) H := hP
        have hD : va_D A (wl_X8_number ad cs tape_size tape_bytes sr_spare sr_at sr_numberAt sr_fault) := zDk hD [(ad 23), (ad 24), (ad 25)] rfl rfl
        refine lv_iadd hx hb dX8_number_72 ?_
        refine lv_bipush (v := (48 : Int32)) hx hb dX8_number_73 (by decide) ?_
        refine lv_isub hx hb dX8_number_75 ?_
        obtain ⟨v_15, ev_15, h⟩ := zk_lt h
        refine W.eq (g2 := F0 m 76 ls [.int v_15]) (by rw [ev_15]) ?_
        refine lv_istore_n (lv' := [(2, .int v_15), (0, .ref (ad 25)), (1, .int x1), (3, .int x3)]) hx hb dX8_number_76 rfl hl (by decide) rfl (fun ls hl => ?_)
        refine lv_aload_n hx hb dX8_number_77 rfl (lv_at hl 1 rfl) ?_
        refine lv_dup hx hb dX8_number_78 rfl ?_
        refine va_get (D := D) (ci := 8) (v := .int sr_at) (C := RX8) (T := TX8) (N := 5) hx hb ht iX8 hown hK hP 2 rfl rfl 2 (by decide) (ht _ kw_253) (fun _ h9 => h9) rfl dX8_number_79 ?_
        refine lv_iconst (v := (1 : Int32)) hx hb dX8_number_82 (by decide) ?_
        refine lv_iadd hx hb dX8_number_83 ?_
        obtain ⟨v_16, ev_16, h⟩ := zk_lt h
        refine W.eq (g2 := F0 m 84 ls [.int v_16, .ref (ad 25)]) (by rw [ev_16]) ?_
        refine va_put (D := D) (ci := 8) (v := .int v_16) (ty := .int) (C := RX8) (T := TX8) (N := 5) hx hb ht iX8 tyX8 tyX8_ok nmX8 hown hK hP hD hS 2 rfl rfl 2 (by decide) (ht _ kw_253) (fun _ h9 => h9) rfl (by decide +kernel) rfl rfl (Nat.le_of_ble_eq_true rfl) dX8_number_84 (fun H locs hP hD hS => ?_)
        have hP : va_P D classes (wl_X8_number ad cs tape_size tape_bytes sr_spare v_16 sr_numberAt sr_fault) H := hP
        have hD : va_D A (wl_X8_number ad cs tape_size tape_bytes sr_spare v_16 sr_numberAt sr_fault) := hD
        obtain ⟨v_17, ev_17, h⟩ := zk_lt h
        refine lv_iinc (v := v_17) (lv' := [(3, .int v_17), (2, .int v_15), (0, .ref (ad 25)), (1, .int x1)]) hx hb dX8_number_87 hl (k := 3) rfl (by rw [ev_17]; rfl) (by decide) rfl (fun ls hl => ?_)
        refine lv_goto (tgt := 31) hx hb dX8_number_90 (by decide) ?_
        exact ih31 x1 v_15 v_17 v_16 sr_numberAt sr_fault h H locs ls hP hD hS (lv_sub hl [2, 3, 1, 0] rfl)
set_option maxHeartbeats 4000000 in
set_option maxRecDepth 100000 in
theorem L_X8_number_0 {p : Program} {l : Launch} {e : Env} {s : State} {m : MethodId} {args : Array Value} {below : List Frame} {meth : Method} {c : Code} {A : Nat → Prop} {D : va_G} {cs : Nat → ClassId} {ad : Nat → Nat} {tape_size : Int32} {tape_bytes : Nat → Int32} {sr_spare : Value} {R : Int32 × Int32 × Int32 × Int32} {g31 : Int32 → Int32 → Int32 → Int32 → Int32 → Int32 → (Option (Int32 × Int32 × Int32 × Int32))} (C0 : zC p s m args meth c cX8_number 4 (some .int) RX8 zW) (hK : va_K D classes (zT cs) s) (hA : ∀ q : Nat, s.heap.size ≤ q → A q) (ih31 : ∀ (x1 : Int32) (x2 : Int32) (x3 : Int32) (sr_at : Int32) (sr_numberAt : Int32) (sr_fault : Int32) (h : g31 x1 x2 x3 sr_at sr_numberAt sr_fault = some R) (H : Heap) (locs : List Loc) (ls : Array Slot) (hP : va_P D classes (wl_X8_number ad cs tape_size tape_bytes sr_spare sr_at sr_numberAt sr_fault) H) (hD : va_D A (wl_X8_number ad cs tape_size tape_bytes sr_spare sr_at sr_numberAt sr_fault)) (hS : va_S A s.heap H locs) (hl : lv_has ls 4 [(0, .ref (ad 25)), (1, .int x1), (2, .int x2), (3, .int x3)]), W p l e rm_X8_number s m args below meth c H locs 0 0 (MQ below (Q_X8_number D cs ad tape_size tape_bytes sr_spare A R) args s 0 0 A) (F0 m 31 ls [])) (x1 : Int32) (sr_at : Int32) (sr_numberAt : Int32) (sr_fault : Int32) (h : B_X8_number_0 g31 tape_size tape_bytes sr_spare x1 sr_at sr_numberAt sr_fault = some R) (H : Heap) (locs : List Loc) (ls : Array Slot) (hP : va_P D classes (wl_X8_number ad cs tape_size tape_bytes sr_spare sr_at sr_numberAt sr_fault) H) (hD : va_D A (wl_X8_number ad cs tape_size tape_bytes sr_spare sr_at sr_numberAt sr_fault)) (hS : va_S A s.heap H locs) (hl : lv_has ls 4 [(0, .ref (ad 25)), (1, .int x1)]) : W p l e rm_X8_number s m args below meth c H locs 0 0 (MQ below (Q_X8_number D cs ad tape_size tape_bytes sr_spare A R) args s 0 0 A) (F0 m 0 ls []) := by
  obtain ⟨hx, hb, hr, hml, hown, ht, hlocks⟩ := id C0
  refine lv_aload_n hx hb dX8_number_0 rfl (lv_at hl 0 rfl) ?_
  refine lv_aload_n hx hb dX8_number_1 rfl (lv_at hl 0 rfl) ?_
  refine va_get (D := D) (ci := 8) (v := .int sr_at) (C := RX8) (T := TX8) (N := 5) hx hb ht iX8 hown hK hP 2 rfl rfl 2 (by decide) (ht _ kw_253) (fun _ h9 => h9) rfl dX8_number_2 ?_
  refine va_put (D := D) (ci := 8) (v := .int sr_at) (ty := .int) (C := RX8) (T := TX8) (N := 5) hx hb ht iX8 tyX8 tyX8_ok nmX8 hown hK hP hD hS 2 rfl rfl 3 (by decide) (ht _ kw_254) (fun _ h9 => h9) rfl (by decide +kernel) rfl rfl (Nat.le_of_ble_eq_true rfl) dX8_number_5 (fun H locs hP hD hS => ?_)
  have hP : va_P D classes (wl_X8_number ad cs tape_size tape_bytes sr_spare sr_at sr_at sr_fault) H := hP
  have hD : va_D A (wl_X8_number ad cs tape_size tape_bytes sr_spare sr_at sr_at sr_fault) := hD
  refine lv_aload_n hx hb dX8_number_8 rfl (lv_at hl 0 rfl) ?_
  refine lv_aload_n hx hb dX8_number_9 rfl (lv_at hl 0 rfl) ?_
  refine va_get (D := D) (ci := 8) (v := .ref (ad 23)) (C := RX8) (T := TX8) (N := 5) hx hb ht iX8 hown hK hP 2 rfl rfl 0 (by decide) (ht _ kw_251) (fun _ h9 => h9) rfl dX8_number_10 ?_
  refine lv_aload_n hx hb dX8_number_13 rfl (lv_at hl 0 rfl) ?_
  refine va_get (D := D) (ci := 8) (v := .int sr_at) (C := RX8) (T := TX8) (N := 5) hx hb ht iX8 hown hK hP 2 rfl rfl 2 (by decide) (ht _ kw_253) (fun _ h9 => h9) rfl dX8_number_14 ?_
  obtain ⟨r_1, u_2, hc_3, h⟩ := zk_o2 h
  refine zz_vi (post := (fun r u => (r, u) = (r_1, u_2))) (w1 := fun u => (wl_X9_isDigitAt ad cs tape_size tape_bytes)) (As := [.int sr_at]) (rest := [.ref (ad 25)]) (c_X9_isDigitAt l D cs ad  H.size sr_at tape_size tape_bytes (r_1, u_2) hc_3) ⟨hx, hb, hml, hown, ht⟩ (cwV 1 ht g_X8_122 rfl rfl rfl ⟨rfl, hd_X9_isDigitAt⟩ ⟨Nat.le_of_ble_eq_true rfl, Nat.le_of_ble_eq_true rfl⟩) (va_recv hK hP (ci := 9) (q0 := 0) rfl rfl) hP hD hS hK hA [0, 1] rfl rfl [(ad 23), (ad 24)] rfl (fun _ => rfl) rfl hl.1 (Nat.le_of_ble_eq_true rfl) dX8_number_17 ⟨Nat.zero_le _, Nat.zero_le _⟩ (fun r u H locs hq hP hS => ?_)
  cases hq
  have hP : va_P D classes (wl_X8_number ad cs tape_size tape_bytes sr_spare sr_at sr_at sr_fault) H := hP
  have hD : va_D A (wl_X8_number ad cs tape_size tape_bytes sr_spare sr_at sr_at sr_fault) := zDk hD [(ad 23), (ad 24), (ad 25)] rfl rfl
  refine lv_aload_n hx hb dX8_number_20 rfl (lv_at hl 0 rfl) ?_
  refine va_get (D := D) (ci := 8) (v := .int sr_at) (C := RX8) (T := TX8) (N := 5) hx hb ht iX8 hown hK hP 2 rfl rfl 2 (by decide) (ht _ kw_253) (fun _ h9 => h9) rfl dX8_number_21 ?_
  obtain ⟨u_4, hc_5, h⟩ := zk_o1 h
  refine zz_vv (post := (fun u => u = u_4)) (w1 := fun u => (wl_X8_judge ad cs sr_spare sr_at sr_at u)) (As := [.int r_1, .int sr_at]) (rest := []) (c_X8_judge l D cs ad  H.size r_1 sr_at sr_spare sr_at sr_at sr_fault u_4 hc_5) ⟨hx, hb, hml, hown, ht⟩ (cwV 2 ht g_X8_48 rfl rfl rfl ⟨rfl, hd_X8_judge⟩ ⟨Nat.le_of_ble_eq_true rfl, Nat.le_of_ble_eq_true rfl⟩) (va_recv hK hP (ci := 8) (q0 := 2) rfl rfl) hP hD hS hK hA [2] rfl rfl [(ad 25)] rfl (fun _ => rfl) rfl hl.1 (Nat.le_of_ble_eq_true rfl) dX8_number_24 ⟨Nat.zero_le _, Nat.zero_le _⟩ (fun u H locs hq hP hS => ?_)
  cases hq
  have hP : va_P D classes (wl_X8_number ad cs tape_size tape_bytes sr_spare sr_at sr_at u_4) H := hP
  have hD : va_D A (wl_X8_number ad cs tape_size tape_bytes sr_spare sr_at sr_at u_4) := zDk hD [(ad 23), (ad 24), (ad 25)] rfl rfl
  refine lv_iconst (v := (0 : Int32)) hx hb dX8_number_27 (by decide) ?_
  refine lv_istore_n (lv' := [(2, .int (0 : Int32)), (0, .ref (ad 25)), (1, .int x1)]) hx hb dX8_number_28 rfl hl (by decide) rfl (fun ls hl => ?_)
  refine lv_iconst (v := (0 : Int32)) hx hb dX8_number_29 (by decide) ?_
  refine lv_istore_n (lv' := [(3, .int (0 : Int32)), (2, .int (0 : Int32)), (0, .ref (ad 25)), (1, .int x1)]) hx hb dX8_number_30 rfl hl (by decide) rfl (fun ls hl => ?_)
  exact ih31 x1 (0 : Int32) (0 : Int32) sr_at sr_at u_4 h H locs ls hP hD hS (lv_sub hl [2, 3, 1, 0] rfl)
theorem LG_X8_number {p : Program} {l : Launch} {e : Env} {s : State} {m : MethodId} {args : Array Value} {below : List Frame} {meth : Method} {c : Code} {A : Nat → Prop} {D : va_G} {cs : Nat → ClassId} {ad : Nat → Nat} {tape_size : Int32} {tape_bytes : Nat → Int32} {sr_spare : Value} {R : Int32 × Int32 × Int32 × Int32} (C0 : zC p s m args meth c cX8_number 4 (some .int) RX8 zW) (hK : va_K D classes (zT cs) s) (hA : ∀ q : Nat, s.heap.size ≤ q → A q) : ∀ n : Nat, (∀ (x1 : Int32) (x2 : Int32) (x3 : Int32) (sr_at : Int32) (sr_numberAt : Int32) (sr_fault : Int32) (h : (G_X8_number   tape_size tape_bytes sr_spare n) x1 x2 x3 sr_at sr_numberAt sr_fault = some R) (H : Heap) (locs : List Loc) (ls : Array Slot) (hP : va_P D classes (wl_X8_number ad cs tape_size tape_bytes sr_spare sr_at sr_numberAt sr_fault) H) (hD : va_D A (wl_X8_number ad cs tape_size tape_bytes sr_spare sr_at sr_numberAt sr_fault)) (hS : va_S A s.heap H locs) (hl : lv_has ls 4 [(0, .ref (ad 25)), (1, .int x1), (2, .int x2), (3, .int x3)]), W p l e rm_X8_number s m args below meth c H locs 0 0 (MQ below (Q_X8_number D cs ad tape_size tape_bytes sr_spare A R) args s 0 0 A) (F0 m 31 ls [])) := by
  intro n
  induction n with
  | zero =>
    refine ?_ <;> (intros; rename_i h _ _ _ _ _ _ _; cases h)
  | succ n ih =>
    exact L_X8_number_31 C0 hK hA  ih
set_option maxHeartbeats 4000000 in
set_option maxRecDepth 100000 in
theorem c_X8_number (l : Launch) (D : va_G) (cs : Nat → ClassId) (ad : Nat → Nat) (sz : Nat) (n : Nat) (x1 : Int32) (tape_size : Int32) (tape_bytes : Nat → Int32) (sr_spare : Value) (sr_at : Int32) (sr_numberAt : Int32) (sr_fault : Int32) (R : Int32 × Int32 × Int32 × Int32) (h : f_X8_number   n x1 tape_size tape_bytes sr_spare sr_at sr_numberAt sr_fault = some R) : Met l yX8_number (z_X8_number) rm_X8_number (va_Pc [.ref (ad 25), .int x1] (zPre D cs (wl_X8_number ad cs tape_size tape_bytes sr_spare sr_at sr_numberAt sr_fault) sz)) (Q_X8_number D cs ad tape_size tape_bytes sr_spare (va_A (wl_X8_number ad cs tape_size tape_bytes sr_spare sr_at sr_numberAt sr_fault) sz) R) 0 0 (va_A (wl_X8_number ad cs tape_size tape_bytes sr_spare sr_at sr_numberAt sr_fault) sz) := by
  refine Met.ofW (cc := cX8_number) (maxL := 4) (ret := (some .int)) (by decide) rfl ?_
  intro p e s m args below meth c s₁ B hml hv
  obtain ⟨rfl, hsz, hP, hK, hD0⟩ := hv
  subst hsz
  have hD := hD0.self (sz := s.heap.size)
  have C0 : zC p s m _ meth c cX8_number 4 (some .int) RX8 zW := ⟨B.exec, B.bytes, B.returns, hml, findClass_of_methodNamed B.named, fun w hw => atoms_spec (ws := z_X8_number) B.pre w (List.mem_cons_of_mem _ hw), B.notSynchronized⟩
  have hA : ∀ q : Nat, s.heap.size ≤ q → va_A (wl_X8_number ad cs tape_size tape_bytes sr_spare sr_at sr_numberAt sr_fault) s.heap.size q := fun q h => Or.inr h
  have hl := lv_entry ([.ref (ad 25), .int x1]) (n := 4) (Nat.le_of_ble_eq_true rfl)
  rw [lg_entry_eq]
  generalize (lg_sl ([.ref (ad 25), .int x1]) ++ List.replicate (4 - (lg_sl ([.ref (ad 25), .int x1])).length) Slot.unset).toArray = ls at hl ⊢
  exact L_X8_number_0 C0 hK hA  ((LG_X8_number C0 hK hA  n)) x1 sr_at sr_numberAt sr_fault h s.heap [] ls hP hD va_S.rf hl
theorem zh_cX8_accept_0 : zck [42, 180, 0, 19, 156, 0, 18, 42, 180, 0, 9, 42, 180, 0, 15, 182, 0, 125, 27, 159, 0, 5] (zdu 0 cX8_accept.data.toList) = true := by decide +kernel
theorem dX8_accept_0 : decode cX8_accept 0 = .ok (.aload_n 0, 1) := zo_42 zh_cX8_accept_0 0 rfl
theorem dX8_accept_1 : decode cX8_accept 1 = .ok (.getfield 19, 3) := zo_180 zh_cX8_accept_0 1 rfl
theorem dX8_accept_4 : decode cX8_accept 4 = .ok (.ifCond .ge 18, 3) := zo_p156 zh_cX8_accept_0 4 18 rfl rfl
theorem dX8_accept_7 : decode cX8_accept 7 = .ok (.aload_n 0, 1) := zo_42 zh_cX8_accept_0 7 rfl
theorem dX8_accept_8 : decode cX8_accept 8 = .ok (.getfield 9, 3) := zo_180 zh_cX8_accept_0 8 rfl
theorem dX8_accept_11 : decode cX8_accept 11 = .ok (.aload_n 0, 1) := zo_42 zh_cX8_accept_0 11 rfl
theorem dX8_accept_12 : decode cX8_accept 12 = .ok (.getfield 15, 3) := zo_180 zh_cX8_accept_0 12 rfl
theorem dX8_accept_15 : decode cX8_accept 15 = .ok (.invokevirtual 125, 3) := zo_182 zh_cX8_accept_0 15 rfl
theorem dX8_accept_18 : decode cX8_accept 18 = .ok (.iload_n 1, 1) := zo_27 zh_cX8_accept_0 18 rfl
theorem dX8_accept_19 : decode cX8_accept 19 = .ok (.if_icmp .eq 5, 3) := zo_p159 zh_cX8_accept_0 19 5 rfl rfl
theorem zh_cX8_accept_1 : zck [0, 5, 3, 172, 42, 89, 180, 0, 15, 4, 96, 181, 0, 15, 4, 172] (zdu 20 cX8_accept.data.toList) = true := by decide +kernel
theorem dX8_accept_22 : decode cX8_accept 22 = .ok (.iconst 0, 1) := zo_3 zh_cX8_accept_1 2 rfl
theorem dX8_accept_23 : decode cX8_accept 23 = .ok (.ireturn, 1) := zo_172 zh_cX8_accept_1 3 rfl
theorem dX8_accept_24 : decode cX8_accept 24 = .ok (.aload_n 0, 1) := zo_42 zh_cX8_accept_1 4 rfl
theorem dX8_accept_25 : decode cX8_accept 25 = .ok (.dup, 1) := zo_89 zh_cX8_accept_1 5 rfl
theorem dX8_accept_26 : decode cX8_accept 26 = .ok (.getfield 15, 3) := zo_180 zh_cX8_accept_1 6 rfl
theorem dX8_accept_29 : decode cX8_accept 29 = .ok (.iconst 1, 1) := zo_4 zh_cX8_accept_1 9 rfl
theorem dX8_accept_30 : decode cX8_accept 30 = .ok (.iadd, 1) := zo_96 zh_cX8_accept_1 10 rfl
theorem dX8_accept_31 : decode cX8_accept 31 = .ok (.putfield 15, 3) := zo_181 zh_cX8_accept_1 11 rfl
theorem dX8_accept_34 : decode cX8_accept 34 = .ok (.iconst 1, 1) := zo_4 zh_cX8_accept_1 14 rfl
theorem dX8_accept_35 : decode cX8_accept 35 = .ok (.ireturn, 1) := zo_172 zh_cX8_accept_1 15 rfl
abbrev z_X8_accept : List Cond := .code yX8_accept cX8_accept 2 (some .boolean) :: zW
abbrev wl_X8_accept (ad : Nat → Nat) (cs : Nat → ClassId)  (tape_size : Int32) (tape_bytes : Nat → Int32) (sr_spare : Value) (sr_at : Int32) (sr_numberAt : Int32) (sr_fault : Int32) : va_W := [((ad 23), .inr (9, [.ref (ad 24), .int tape_size])), ((ad 24), .inl (cs 0, 120, .inl tape_bytes)), ((ad 25), .inr (8, [.ref (ad 23), sr_spare, .int sr_at, .int sr_numberAt, .int sr_fault]))]
def Q_X8_accept (D : va_G) (cs : Nat → ClassId) (ad : Nat → Nat)  (tape_size : Int32) (tape_bytes : Nat → Int32) (sr_spare : Value) (sr_numberAt : Int32) (sr_fault : Int32) (A : Nat → Prop) (R : Int32 × Int32) : Array Value → State → Outcome → State → Prop :=
  va_Qi (fun (r : Int32) (u : Int32) => (r, u) = R) (fun (u : Int32) (t : State) => va_P D classes (wl_X8_accept ad cs tape_size tape_bytes sr_spare u sr_numberAt sr_fault) t.heap ∧ va_D A (wl_X8_accept ad cs tape_size tape_bytes sr_spare u sr_numberAt sr_fault)) A
abbrev rm_X8_accept : Room := { frames := 1, cells := 0, slots := 0, locals := 21 }
def B_X8_accept_0    (tape_size : Int32) (tape_bytes : Nat → Int32) (sr_spare : Value) (sr_numberAt : Int32) (sr_fault : Int32) (x1 : Int32) (sr_at : Int32) : Option (Int32 × Int32) :=
  (if 0 ≤ sr_fault then (some ((0 : Int32), sr_at)) else (zk_b2 (f_X9_byteAt sr_at tape_size tape_bytes) (fun r_2 u_3 => (if r_2 = x1 then (zk_let (sr_at + (1 : Int32)) (fun v_6 => (some ((1 : Int32), v_6)))) else (some ((0 : Int32), sr_at))))))
def f_X8_accept   (x1 : Int32) (tape_size : Int32) (tape_bytes : Nat → Int32) (sr_spare : Value) (sr_at : Int32) (sr_numberAt : Int32) (sr_fault : Int32) : Option (Int32 × Int32) := B_X8_accept_0   tape_size tape_bytes sr_spare sr_numberAt sr_fault x1 sr_at
set_option maxHeartbeats 4000000 in
set_option maxRecDepth 100000 in
theorem L_X8_accept_0 {p : Program} {l : Launch} {e : Env} {s : State} {m : MethodId} {args : Array Value} {below : List Frame} {meth : Method} {c : Code} {A : Nat → Prop} {D : va_G} {cs : Nat → ClassId} {ad : Nat → Nat} {tape_size : Int32} {tape_bytes : Nat → Int32} {sr_spare : Value} {sr_numberAt : Int32} {sr_fault : Int32} {R : Int32 × Int32} (C0 : zC p s m args meth c cX8_accept 2 (some .boolean) RX8 zW) (hK : va_K D classes (zT cs) s) (hA : ∀ q : Nat, s.heap.size ≤ q → A q) (x1 : Int32) (sr_at : Int32) (h : B_X8_accept_0 tape_size tape_bytes sr_spare sr_numberAt sr_fault x1 sr_at = some R) (H : Heap) (locs : List Loc) (ls : Array Slot) (hP : va_P D classes (wl_X8_accept ad cs tape_size tape_bytes sr_spare sr_at sr_numberAt sr_fault) H) (hD : va_D A (wl_X8_accept ad cs tape_size tape_bytes sr_spare sr_at sr_numberAt sr_fault)) (hS : va_S A s.heap H locs) (hl : lv_has ls 2 [(0, .ref (ad 25)), (1, .int x1)]) : W p l e rm_X8_accept s m args below meth c H locs 0 0 (MQ below (Q_X8_accept D cs ad tape_size tape_bytes sr_spare sr_numberAt sr_fault A R) args s 0 0 A) (F0 m 0 ls []) := by
  obtain ⟨hx, hb, hr, hml, hown, ht, hlocks⟩ := id C0
  refine lv_aload_n hx hb dX8_accept_0 rfl (lv_at hl 0 rfl) ?_
  refine va_get (D := D) (ci := 8) (v := .int sr_fault) (C := RX8) (T := TX8) (N := 5) hx hb ht iX8 hown hK hP 2 rfl rfl 4 (by decide) (ht _ kw_255) (fun _ h9 => h9) rfl dX8_accept_1 ?_
  refine lv_if_ge (tgt := 22) hx hb dX8_accept_4 (by decide) (fun c_1 => ?_) (fun c_1 => ?_)
  · have h := zk_t c_1 h
    refine lv_iconst (v := (0 : Int32)) hx hb dX8_accept_22 (by decide) ?_
    exact W.zret (ty := .boolean) (v := (0 : Int32)) hx hb hr rfl (fun t ht2 hW => ⟨⟨(0 : Int32), sr_at, rfl, Option.some.inj h, by rw [ht2]; exact hP, hD⟩, hS.F ht2⟩) hS.2.2 dX8_accept_23 hlocks
  · have h := zk_f c_1 h
    refine lv_aload_n hx hb dX8_accept_7 rfl (lv_at hl 0 rfl) ?_
    refine va_get (D := D) (ci := 8) (v := .ref (ad 23)) (C := RX8) (T := TX8) (N := 5) hx hb ht iX8 hown hK hP 2 rfl rfl 0 (by decide) (ht _ kw_251) (fun _ h9 => h9) rfl dX8_accept_8 ?_
    refine lv_aload_n hx hb dX8_accept_11 rfl (lv_at hl 0 rfl) ?_
    refine va_get (D := D) (ci := 8) (v := .int sr_at) (C := RX8) (T := TX8) (N := 5) hx hb ht iX8 hown hK hP 2 rfl rfl 2 (by decide) (ht _ kw_253) (fun _ h9 => h9) rfl dX8_accept_12 ?_
    obtain ⟨r_2, u_3, hc_4, h⟩ := zk_o2 h
    refine zz_vi (post := (fun r u => (r, u) = (r_2, u_3))) (w1 := fun u => (wl_X9_byteAt ad cs tape_size tape_bytes)) (As := [.int sr_at]) (rest := []) (c_X9_byteAt l D cs ad  H.size sr_at tape_size tape_bytes (r_2, u_3) hc_4) ⟨hx, hb, hml, hown, ht⟩ (cwV 1 ht g_X8_125 rfl rfl rfl ⟨rfl, hd_X9_byteAt⟩ ⟨Nat.le_of_ble_eq_true rfl, Nat.le_of_ble_eq_true rfl⟩) (va_recv hK hP (ci := 9) (q0 := 0) rfl rfl) hP hD hS hK hA [0, 1] rfl rfl [(ad 23), (ad 24)] rfl (fun _ => rfl) rfl hl.1 (Nat.le_of_ble_eq_true rfl) dX8_accept_15 ⟨Nat.zero_le _, Nat.zero_le _⟩ (fun r u H locs hq hP hS => ?_)
    cases hq
    have hP : va_P D classes (wl_X8_accept ad cs tape_size tape_bytes sr_spare sr_at sr_numberAt sr_fault) H := hP
    have hD : va_D A (wl_X8_accept ad cs tape_size tape_bytes sr_spare sr_at sr_numberAt sr_fault) := zDk hD [(ad 23), (ad 24), (ad 25)] rfl rfl
    refine lv_iload_n hx hb dX8_accept_18 rfl (lv_at hl 1 rfl) ?_
    refine lv_icmp_eq (tgt := 24) hx hb dX8_accept_19 (by decide) (fun c_5 => ?_) (fun c_5 => ?_)
    · have h := zk_t c_5 h
      refine lv_aload_n hx hb dX8_accept_24 rfl (lv_at hl 0 rfl) ?_
      refine lv_dup hx hb dX8_accept_25 rfl ?_
      refine va_get (D := D) (ci := 8) (v := .int sr_at) (C := RX8) (T := TX8) (N := 5) hx hb ht iX8 hown hK hP 2 rfl rfl 2 (by decide) (ht _ kw_253) (fun _ h9 => h9) rfl dX8_accept_26 ?_
      refine lv_iconst (v := (1 : Int32)) hx hb dX8_accept_29 (by decide) ?_
      refine lv_iadd hx hb dX8_accept_30 ?_
      obtain ⟨v_6, ev_6, h⟩ := zk_lt h
      refine W.eq (g2 := F0 m 31 ls [.int v_6, .ref (ad 25)]) (by rw [ev_6]) ?_
      refine va_put (D := D) (ci := 8) (v := .int v_6) (ty := .int) (C := RX8) (T := TX8) (N := 5) hx hb ht iX8 tyX8 tyX8_ok nmX8 hown hK hP hD hS 2 rfl rfl 2 (by decide) (ht _ kw_253) (fun _ h9 => h9) rfl (by decide +kernel) rfl rfl (Nat.le_of_ble_eq_true rfl) dX8_accept_31 (fun H locs hP hD hS => ?_)
      have hP : va_P D classes (wl_X8_accept ad cs tape_size tape_bytes sr_spare v_6 sr_numberAt sr_fault) H := hP
      have hD : va_D A (wl_X8_accept ad cs tape_size tape_bytes sr_spare v_6 sr_numberAt sr_fault) := hD
      refine lv_iconst (v := (1 : Int32)) hx hb dX8_accept_34 (by decide) ?_
      exact W.zret (ty := .boolean) (v := (1 : Int32)) hx hb hr rfl (fun t ht2 hW => ⟨⟨(1 : Int32), v_6, rfl, Option.some.inj h, by rw [ht2]; exact hP, hD⟩, hS.F ht2⟩) hS.2.2 dX8_accept_35 hlocks
    · have h := zk_f c_5 h
      refine lv_iconst (v := (0 : Int32)) hx hb dX8_accept_22 (by decide) ?_
      exact W.zret (ty := .boolean) (v := (0 : Int32)) hx hb hr rfl (fun t ht2 hW => ⟨⟨(0 : Int32), sr_at, rfl, Option.some.inj h, by rw [ht2]; exact hP, hD⟩, hS.F ht2⟩) hS.2.2 dX8_accept_23 hlocks
set_option maxHeartbeats 4000000 in
set_option maxRecDepth 100000 in
theorem c_X8_accept (l : Launch) (D : va_G) (cs : Nat → ClassId) (ad : Nat → Nat) (sz : Nat) (x1 : Int32) (tape_size : Int32) (tape_bytes : Nat → Int32) (sr_spare : Value) (sr_at : Int32) (sr_numberAt : Int32) (sr_fault : Int32) (R : Int32 × Int32) (h : f_X8_accept   x1 tape_size tape_bytes sr_spare sr_at sr_numberAt sr_fault = some R) : Met l yX8_accept (z_X8_accept) rm_X8_accept (va_Pc [.ref (ad 25), .int x1] (zPre D cs (wl_X8_accept ad cs tape_size tape_bytes sr_spare sr_at sr_numberAt sr_fault) sz)) (Q_X8_accept D cs ad tape_size tape_bytes sr_spare sr_numberAt sr_fault (va_A (wl_X8_accept ad cs tape_size tape_bytes sr_spare sr_at sr_numberAt sr_fault) sz) R) 0 0 (va_A (wl_X8_accept ad cs tape_size tape_bytes sr_spare sr_at sr_numberAt sr_fault) sz) := by
  refine Met.ofW (cc := cX8_accept) (maxL := 2) (ret := (some .boolean)) (by decide) rfl ?_
  intro p e s m args below meth c s₁ B hml hv
  obtain ⟨rfl, hsz, hP, hK, hD0⟩ := hv
  subst hsz
  have hD := hD0.self (sz := s.heap.size)
  have C0 : zC p s m _ meth c cX8_accept 2 (some .boolean) RX8 zW := ⟨B.exec, B.bytes, B.returns, hml, findClass_of_methodNamed B.named, fun w hw => atoms_spec (ws := z_X8_accept) B.pre w (List.mem_cons_of_mem _ hw), B.notSynchronized⟩
  have hA : ∀ q : Nat, s.heap.size ≤ q → va_A (wl_X8_accept ad cs tape_size tape_bytes sr_spare sr_at sr_numberAt sr_fault) s.heap.size q := fun q h => Or.inr h
  have hl := lv_entry ([.ref (ad 25), .int x1]) (n := 2) (Nat.le_of_ble_eq_true rfl)
  rw [lg_entry_eq]
  generalize (lg_sl ([.ref (ad 25), .int x1]) ++ List.replicate (2 - (lg_sl ([.ref (ad 25), .int x1])).length) Slot.unset).toArray = ls at hl ⊢
  exact L_X8_accept_0 C0 hK hA   x1 sr_at h s.heap [] ls hP hD va_S.rf hl
