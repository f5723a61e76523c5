theorem kw_697 : Cond.fieldLink RX11 21 "AlreadyJudged" "inquiry" "LAlreadyJudged$Inquiry;" ∈ zW := zwC (i := 143) zc_3 rfl rfl
theorem kw_794 : Cond.methodLink RX11 148 yX11_isPair ∈ zW := zwC (i := 0) zc_4 rfl rfl
theorem kw_795 : Cond.static yX11_isPair ∈ zW := zwC (i := 1) zc_4 rfl rfl
theorem kw_796 : Cond.code yX11_isPair cX11_isPair 1 (some .boolean) ∈ zW := zwC (i := 2) zc_4 rfl rfl
theorem kw_797 : Cond.methodLink RX11 151 yX11_isLand ∈ zW := zwC (i := 3) zc_4 rfl rfl
theorem kw_798 : Cond.static yX11_isLand ∈ zW := zwC (i := 4) zc_4 rfl rfl
theorem kw_799 : Cond.code yX11_isLand cX11_isLand 1 (some .boolean) ∈ zW := zwC (i := 5) zc_4 rfl rfl
theorem kw_800 : Cond.methodLink RX11 154 yX11_isChoice ∈ zW := zwC (i := 6) zc_4 rfl rfl
theorem kw_801 : Cond.static yX11_isChoice ∈ zW := zwC (i := 7) zc_4 rfl rfl
theorem kw_802 : Cond.code yX11_isChoice cX11_isChoice 1 (some .boolean) ∈ zW := zwC (i := 8) zc_4 rfl rfl
theorem kw_803 : Cond.methodLink RX11 157 yX3_turnTo ∈ zW := zwC (i := 9) zc_4 rfl rfl
theorem kw_810 : Cond.methodLink RX11 161 yX3_stepsTo ∈ zW := zwC (i := 16) zc_4 rfl rfl
theorem kw_811 : Cond.instanceMethod yX3_stepsTo ∈ zW := zwC (i := 17) zc_4 rfl rfl
theorem kw_812 : Cond.selects RX3 yX3_stepsTo yX3_stepsTo ∈ zW := zwC (i := 18) zc_4 rfl rfl
theorem kw_813 : Cond.code yX3_stepsTo cX3_stepsTo 5 (some .int) ∈ zW := zwC (i := 19) zc_4 rfl rfl
theorem kw_837 : Cond.methodLink RX11 165 yX3_firstSort ∈ zW := zwC (i := 43) zc_4 rfl rfl
theorem kw_838 : Cond.instanceMethod yX3_firstSort ∈ zW := zwC (i := 44) zc_4 rfl rfl
theorem kw_839 : Cond.selects RX3 yX3_firstSort yX3_firstSort ∈ zW := zwC (i := 45) zc_4 rfl rfl
theorem kw_840 : Cond.code yX3_firstSort cX3_firstSort 8 (some .int) ∈ zW := zwC (i := 46) zc_4 rfl rfl
theorem zh_cX11_bound_0 : zck [27, 184, 0, 148, 153, 0, 25, 28, 184, 0, 141, 153, 0, 18, 29, 184, 0, 151, 153, 0, 11, 21] (zdu 0 cX11_bound.data.toList) = true := by decide +kernel
theorem dX11_bound_0 : decode cX11_bound 0 = .ok (.iload_n 1, 1) := zo_27 zh_cX11_bound_0 0 rfl
theorem dX11_bound_1 : decode cX11_bound 1 = .ok (.invokestatic 148, 3) := zo_184 zh_cX11_bound_0 1 rfl
theorem dX11_bound_4 : decode cX11_bound 4 = .ok (.ifCond .eq 25, 3) := zo_p153 zh_cX11_bound_0 4 25 rfl rfl
theorem dX11_bound_7 : decode cX11_bound 7 = .ok (.iload_n 2, 1) := zo_28 zh_cX11_bound_0 7 rfl
theorem dX11_bound_8 : decode cX11_bound 8 = .ok (.invokestatic 141, 3) := zo_184 zh_cX11_bound_0 8 rfl
theorem dX11_bound_11 : decode cX11_bound 11 = .ok (.ifCond .eq 18, 3) := zo_p153 zh_cX11_bound_0 11 18 rfl rfl
theorem dX11_bound_14 : decode cX11_bound 14 = .ok (.iload_n 3, 1) := zo_29 zh_cX11_bound_0 14 rfl
theorem dX11_bound_15 : decode cX11_bound 15 = .ok (.invokestatic 151, 3) := zo_184 zh_cX11_bound_0 15 rfl
theorem dX11_bound_18 : decode cX11_bound 18 = .ok (.ifCond .eq 11, 3) := zo_p153 zh_cX11_bound_0 18 11 rfl rfl
theorem zh_cX11_bound_1 : zck [11, 21, 4, 184, 0, 154, 154, 0, 5, 2, 172, 42, 180, 0, 21, 28, 29, 182, 0, 157, 42, 180] (zdu 20 cX11_bound.data.toList) = true := by decide +kernel
theorem dX11_bound_21 : decode cX11_bound 21 = .ok (.iload 4, 2) := zo_21 zh_cX11_bound_1 1 rfl
theorem dX11_bound_23 : decode cX11_bound 23 = .ok (.invokestatic 154, 3) := zo_184 zh_cX11_bound_1 3 rfl
theorem dX11_bound_26 : decode cX11_bound 26 = .ok (.ifCond .ne 5, 3) := zo_p154 zh_cX11_bound_1 6 5 rfl rfl
theorem dX11_bound_29 : decode cX11_bound 29 = .ok (.iconst (-1), 1) := zo_2 zh_cX11_bound_1 9 rfl
theorem dX11_bound_30 : decode cX11_bound 30 = .ok (.ireturn, 1) := zo_172 zh_cX11_bound_1 10 rfl
theorem dX11_bound_31 : decode cX11_bound 31 = .ok (.aload_n 0, 1) := zo_42 zh_cX11_bound_1 11 rfl
theorem dX11_bound_32 : decode cX11_bound 32 = .ok (.getfield 21, 3) := zo_180 zh_cX11_bound_1 12 rfl
theorem dX11_bound_35 : decode cX11_bound 35 = .ok (.iload_n 2, 1) := zo_28 zh_cX11_bound_1 15 rfl
theorem dX11_bound_36 : decode cX11_bound 36 = .ok (.iload_n 3, 1) := zo_29 zh_cX11_bound_1 16 rfl
theorem dX11_bound_37 : decode cX11_bound 37 = .ok (.invokevirtual 157, 3) := zo_182 zh_cX11_bound_1 17 rfl
theorem zh_cX11_bound_2 : zck [42, 180, 0, 21, 27, 16, 100, 108, 27, 16, 100, 112, 182, 0, 161, 54, 5, 21, 5, 156, 0, 6] (zdu 40 cX11_bound.data.toList) = true := by decide +kernel
theorem dX11_bound_40 : decode cX11_bound 40 = .ok (.aload_n 0, 1) := zo_42 zh_cX11_bound_2 0 rfl
theorem dX11_bound_41 : decode cX11_bound 41 = .ok (.getfield 21, 3) := zo_180 zh_cX11_bound_2 1 rfl
theorem dX11_bound_44 : decode cX11_bound 44 = .ok (.iload_n 1, 1) := zo_27 zh_cX11_bound_2 4 rfl
theorem dX11_bound_45 : decode cX11_bound 45 = .ok (.bipush 100, 2) := zo_p16 zh_cX11_bound_2 5 100 rfl rfl
theorem dX11_bound_47 : decode cX11_bound 47 = .ok (.idiv, 1) := zo_108 zh_cX11_bound_2 7 rfl
theorem dX11_bound_48 : decode cX11_bound 48 = .ok (.iload_n 1, 1) := zo_27 zh_cX11_bound_2 8 rfl
theorem dX11_bound_49 : decode cX11_bound 49 = .ok (.bipush 100, 2) := zo_p16 zh_cX11_bound_2 9 100 rfl rfl
theorem dX11_bound_51 : decode cX11_bound 51 = .ok (.irem, 1) := zo_112 zh_cX11_bound_2 11 rfl
theorem dX11_bound_52 : decode cX11_bound 52 = .ok (.invokevirtual 161, 3) := zo_182 zh_cX11_bound_2 12 rfl
theorem dX11_bound_55 : decode cX11_bound 55 = .ok (.istore 5, 2) := zo_54 zh_cX11_bound_2 15 rfl
theorem dX11_bound_57 : decode cX11_bound 57 = .ok (.iload 5, 2) := zo_21 zh_cX11_bound_2 17 rfl
theorem dX11_bound_59 : decode cX11_bound 59 = .ok (.ifCond .ge 6, 3) := zo_p156 zh_cX11_bound_2 19 6 rfl rfl
theorem zh_cX11_bound_3 : zck [0, 6, 16, 254, 172, 21, 4, 154, 0, 8, 21, 5, 167, 0, 20, 42, 180, 0, 21, 27, 16, 100] (zdu 60 cX11_bound.data.toList) = true := by decide +kernel
theorem dX11_bound_62 : decode cX11_bound 62 = .ok (.bipush (-2), 2) := zo_n16 zh_cX11_bound_3 2 1 rfl rfl
theorem dX11_bound_64 : decode cX11_bound 64 = .ok (.ireturn, 1) := zo_172 zh_cX11_bound_3 4 rfl
theorem dX11_bound_65 : decode cX11_bound 65 = .ok (.iload 4, 2) := zo_21 zh_cX11_bound_3 5 rfl
theorem dX11_bound_67 : decode cX11_bound 67 = .ok (.ifCond .ne 8, 3) := zo_p154 zh_cX11_bound_3 7 8 rfl rfl
theorem dX11_bound_70 : decode cX11_bound 70 = .ok (.iload 5, 2) := zo_21 zh_cX11_bound_3 10 rfl
theorem dX11_bound_72 : decode cX11_bound 72 = .ok (.goto 20, 3) := zo_p167 zh_cX11_bound_3 12 20 rfl rfl
theorem dX11_bound_75 : decode cX11_bound 75 = .ok (.aload_n 0, 1) := zo_42 zh_cX11_bound_3 15 rfl
theorem dX11_bound_76 : decode cX11_bound 76 = .ok (.getfield 21, 3) := zo_180 zh_cX11_bound_3 16 rfl
theorem dX11_bound_79 : decode cX11_bound 79 = .ok (.iload_n 1, 1) := zo_27 zh_cX11_bound_3 19 rfl
theorem zh_cX11_bound_4 : zck [16, 100, 108, 27, 16, 100, 112, 21, 5, 182, 0, 165, 172] (zdu 80 cX11_bound.data.toList) = true := by decide +kernel
theorem dX11_bound_80 : decode cX11_bound 80 = .ok (.bipush 100, 2) := zo_p16 zh_cX11_bound_4 0 100 rfl rfl
theorem dX11_bound_82 : decode cX11_bound 82 = .ok (.idiv, 1) := zo_108 zh_cX11_bound_4 2 rfl
theorem dX11_bound_83 : decode cX11_bound 83 = .ok (.iload_n 1, 1) := zo_27 zh_cX11_bound_4 3 rfl
theorem dX11_bound_84 : decode cX11_bound 84 = .ok (.bipush 100, 2) := zo_p16 zh_cX11_bound_4 4 100 rfl rfl
theorem dX11_bound_86 : decode cX11_bound 86 = .ok (.irem, 1) := zo_112 zh_cX11_bound_4 6 rfl
theorem dX11_bound_87 : decode cX11_bound 87 = .ok (.iload 5, 2) := zo_21 zh_cX11_bound_4 7 rfl
theorem dX11_bound_89 : decode cX11_bound 89 = .ok (.invokevirtual 165, 3) := zo_182 zh_cX11_bound_4 9 rfl
theorem dX11_bound_92 : decode cX11_bound 92 = .ok (.ireturn, 1) := zo_172 zh_cX11_bound_4 12 rfl
abbrev z_X11_bound : List Cond := .code yX11_bound cX11_bound 6 (some .int) :: zW
abbrev wx_X11_bound (ad : Nat → Nat) (cs : Nat → ClassId) (PL : va_W) (L_a : Nat → Nat) (L_b : Nat → Nat) (court_shoeCount : Int32) (court_claimCount : Int32) (court_suitCount : Int32) (court_shoePerson : Nat → Int32) (court_shoeOther : Nat → Int32) (court_shoeSort : Nat → Int32) (court_shoeDay : Nat → Int32) (court_laws : Nat → Option Nat) (inq_day : Int32) (inq_land : Int32) (inq_shoeLeftOut : Int32) (inq_names : Nat → Int32) (inq_stack : Nat → Int32) (inq_judgedShoes : Nat → Int64) (inq_bindingShoes : Nat → Int64) (L_n : Nat → Nat) (L_code : Nat → Nat → Int32) : va_W := [((ad 0), .inr (11, [.ref (ad 4), .ref (ad 15), .ref (ad 23), .ref (ad 25), .ref (ad 26), .ref (ad 28), .ref (ad 34), .ref (ad 39), .ref (ad 1), .ref (ad 2), .ref (ad 3)])), ((ad 4), .inr (2, [.ref (ad 5), .ref (ad 6), .ref (ad 7), .ref (ad 8), .ref (ad 9), .ref (ad 10), .ref (ad 11), .ref (ad 12), .ref (ad 13), .ref (ad 14), .int court_shoeCount, .int court_claimCount, .int court_suitCount])), ((ad 5), .inl (cs 0, 40, .inl court_shoePerson)), ((ad 6), .inl (cs 0, 40, .inl court_shoeOther)), ((ad 7), .inl (cs 0, 40, .inl court_shoeSort)), ((ad 8), .inl (cs 0, 40, .inl court_shoeDay)), ((ad 14), .inl (cs 6, 32, .inr (.inr (.inr (.inr court_laws))))), ((ad 15), .inr (3, [.ref (ad 4), .ref (ad 16), .ref (ad 17), .ref (ad 18), .ref (ad 19), .ref (ad 20), .ref (ad 21), .ref (ad 22), .int inq_day, .int inq_land, .int inq_shoeLeftOut])), ((ad 16), .inl (cs 0, 11, .inl inq_names)), ((ad 17), .inl (cs 0, 36, .inl inq_stack)), ((ad 18), .inl (cs 1, 7, .inr (.inl inq_judgedShoes))), ((ad 19), .inl (cs 1, 7, .inr (.inl inq_bindingShoes)))]
abbrev wl_X11_bound (ad : Nat → Nat) (cs : Nat → ClassId) (PL : va_W) (L_a : Nat → Nat) (L_b : Nat → Nat) (court_shoeCount : Int32) (court_claimCount : Int32) (court_suitCount : Int32) (court_shoePerson : Nat → Int32) (court_shoeOther : Nat → Int32) (court_shoeSort : Nat → Int32) (court_shoeDay : Nat → Int32) (court_laws : Nat → Option Nat) (inq_day : Int32) (inq_land : Int32) (inq_shoeLeftOut : Int32) (inq_names : Nat → Int32) (inq_stack : Nat → Int32) (inq_judgedShoes : Nat → Int64) (inq_bindingShoes : Nat → Int64) (L_n : Nat → Nat) (L_code : Nat → Nat → Int32) : va_W := wx_X11_bound ad cs PL L_a L_b court_shoeCount court_claimCount court_suitCount court_shoePerson court_shoeOther court_shoeSort court_shoeDay court_laws inq_day inq_land inq_shoeLeftOut inq_names inq_stack inq_judgedShoes inq_bindingShoes L_n L_code ++ PL
def Q_X11_bound (D : va_G) (cs : Nat → ClassId) (ad : Nat → Nat) (PL : va_W) (L_a : Nat → Nat) (L_b : Nat → Nat) (court_shoeCount : Int32) (court_claimCount : Int32) (court_suitCount : Int32) (court_shoePerson : Nat → Int32) (court_shoeOther : Nat → Int32) (court_shoeSort : Nat → Int32) (court_shoeDay : Nat → Int32) (court_laws : Nat → Option Nat) (L_n : Nat → Nat) (L_code : Nat → Nat → Int32) (A : Nat → Prop) (R : Int32 × Int32 × Int32 × Int32 × (Nat → Int32) × (Nat → Int32) × (Nat → Int64) × (Nat → Int64)) : Array Value → State → Outcome → State → Prop :=
  va_Qi (fun (r : Int32) (u : Int32 × Int32 × Int32 × (Nat → Int32) × (Nat → Int32) × (Nat → Int64) × (Nat → Int64)) => (r, u) = R) (fun (u : Int32 × Int32 × Int32 × (Nat → Int32) × (Nat → Int32) × (Nat → Int64) × (Nat → Int64)) (t : State) => va_P D classes (wl_X11_bound ad cs PL L_a L_b court_shoeCount court_claimCount court_suitCount court_shoePerson court_shoeOther court_shoeSort court_shoeDay court_laws u.1 u.2.1 u.2.2.1 u.2.2.2.1 u.2.2.2.2.1 u.2.2.2.2.2.1 u.2.2.2.2.2.2 L_n L_code) t.heap ∧ va_D A (wl_X11_bound ad cs PL L_a L_b court_shoeCount court_claimCount court_suitCount court_shoePerson court_shoeOther court_shoeSort court_shoeDay court_laws u.1 u.2.1 u.2.2.1 u.2.2.2.1 u.2.2.2.2.1 u.2.2.2.2.2.1 u.2.2.2.2.2.2 L_n L_code)) A
abbrev rm_X11_bound : Room := { frames := 6, cells := 0, slots := 0, locals := 140 }
theorem g_X11_148 : GoodIn zW (va_wsS RX11 148 yX11_isPair z_X11_isPair) := zGS kw_794 kw_795 kw_75 kw_796
theorem g_X11_151 : GoodIn zW (va_wsS RX11 151 yX11_isLand z_X11_isLand) := zGS kw_797 kw_798 kw_75 kw_799
theorem g_X11_154 : GoodIn zW (va_wsS RX11 154 yX11_isChoice z_X11_isChoice) := zGS kw_800 kw_801 kw_75 kw_802
theorem g_X11_157 : GoodIn zW (wsV RX11 157 RX3 yX3_turnTo z_X3_turnTo) := zGV kw_803 kw_804 kw_805 kw_77 kw_806
theorem g_X11_161 : GoodIn zW (wsV RX11 161 RX3 yX3_stepsTo z_X3_stepsTo) := zGV kw_810 kw_811 kw_812 kw_77 kw_813
theorem g_X11_165 : GoodIn zW (wsV RX11 165 RX3 yX3_firstSort z_X3_firstSort) := zGV kw_837 kw_838 kw_839 kw_77 kw_840
theorem hd_X11_isChoice : yX11_isChoice.cls ≠ "java/lang/invoke/MethodHandle" ∧ yX11_isChoice.cls ≠ "java/lang/invoke/VarHandle" ∧ (parseMethodDescriptor yX11_isChoice.desc).map (fun d => d.parameters.length) = some 1 := by decide +kernel
theorem hd_X11_isLand : yX11_isLand.cls ≠ "java/lang/invoke/MethodHandle" ∧ yX11_isLand.cls ≠ "java/lang/invoke/VarHandle" ∧ (parseMethodDescriptor yX11_isLand.desc).map (fun d => d.parameters.length) = some 1 := by decide +kernel
theorem hd_X11_isPair : yX11_isPair.cls ≠ "java/lang/invoke/MethodHandle" ∧ yX11_isPair.cls ≠ "java/lang/invoke/VarHandle" ∧ (parseMethodDescriptor yX11_isPair.desc).map (fun d => d.parameters.length) = some 1 := by decide +kernel
theorem hd_X3_firstSort : yX3_firstSort.cls ≠ "java/lang/invoke/MethodHandle" ∧ yX3_firstSort.cls ≠ "java/lang/invoke/VarHandle" ∧ (parseMethodDescriptor yX3_firstSort.desc).map (fun d => d.parameters.length) = some 3 := by decide +kernel
theorem hd_X3_stepsTo : yX3_stepsTo.cls ≠ "java/lang/invoke/MethodHandle" ∧ yX3_stepsTo.cls ≠ "java/lang/invoke/VarHandle" ∧ (parseMethodDescriptor yX3_stepsTo.desc).map (fun d => d.parameters.length) = some 2 := by decide +kernel
def B_X11_bound_0    (court_shoeCount : Int32) (court_claimCount : Int32) (court_suitCount : Int32) (court_shoePerson : Nat → Int32) (court_shoeOther : Nat → Int32) (court_shoeSort : Nat → Int32) (court_shoeDay : Nat → Int32) (court_laws : Nat → Option Nat) (L_n : Nat → Nat) (L_code : Nat → Nat → Int32) (x1 : Int32) (x2 : Int32) (x3 : Int32) (x4 : Int32) (inq_day : Int32) (inq_land : Int32) (inq_shoeLeftOut : Int32) (inq_names : Nat → Int32) (inq_stack : Nat → Int32) (inq_judgedShoes : Nat → Int64) (inq_bindingShoes : Nat → Int64) : Option (Int32 × Int32 × Int32 × Int32 × (Nat → Int32) × (Nat → Int32) × (Nat → Int64) × (Nat → Int64)) :=
  (zk_b2 (f_X11_isPair x1) (fun r_1 u_2 => (if r_1 = 0 then (some ((-1 : Int32), inq_day, inq_land, inq_shoeLeftOut, inq_names, inq_stack, inq_judgedShoes, inq_bindingShoes)) else (zk_b2 (f_X11_isDay x2) (fun r_5 u_6 => (if r_5 = 0 then (some ((-1 : Int32), inq_day, inq_land, inq_shoeLeftOut, inq_names, inq_stack, inq_judgedShoes, inq_bindingShoes)) else (zk_b2 (f_X11_isLand x3) (fun r_9 u_10 => (if r_9 = 0 then (some ((-1 : Int32), inq_day, inq_land, inq_shoeLeftOut, inq_names, inq_stack, inq_judgedShoes, inq_bindingShoes)) else (zk_b2 (f_X11_isChoice x4) (fun r_13 u_14 => (if r_13 = 0 then (some ((-1 : Int32), inq_day, inq_land, inq_shoeLeftOut, inq_names, inq_stack, inq_judgedShoes, inq_bindingShoes)) else (zk_b5 (f_X3_turnTo x2 x3 inq_day inq_land inq_shoeLeftOut inq_judgedShoes inq_bindingShoes) (fun u_17 u_18 u_19 u_20 u_21 => (zk_b5 (f_X3_stepsTo 100000 (x1 / (100 : Int32)) (x1 - x1 / (100 : Int32) * (100 : Int32)) court_shoeCount court_claimCount court_suitCount court_shoePerson court_shoeOther court_shoeSort court_shoeDay court_laws u_17 u_18 u_19 inq_names inq_stack u_20 u_21 L_n L_code) (fun r_23 u_24 u_25 u_26 u_27 => (if 0 ≤ r_23 then (if x4 = 0 then (some (r_23, u_17, u_18, u_19, u_24, u_25, u_26, u_27)) else (zk_b5 (f_X3_firstSort 100000 (x1 / (100 : Int32)) (x1 - x1 / (100 : Int32) * (100 : Int32)) r_23 court_shoeCount court_claimCount court_suitCount court_shoePerson court_shoeOther court_shoeSort court_shoeDay court_laws u_17 u_18 u_19 u_24 u_25 u_26 u_27 L_n L_code) (fun r_31 u_32 u_33 u_34 u_35 => (some (r_31, u_17, u_18, u_19, u_32, u_33, u_34, u_35))))) else (some ((-2 : Int32), u_17, u_18, u_19, u_24, u_25, u_26, u_27)))))))))))))))))))
def f_X11_bound   (x1 : Int32) (x2 : Int32) (x3 : Int32) (x4 : Int32) (court_shoeCount : Int32) (court_claimCount : Int32) (court_suitCount : Int32) (court_shoePerson : Nat → Int32) (court_shoeOther : Nat → Int32) (court_shoeSort : Nat → Int32) (court_shoeDay : Nat → Int32) (court_laws : Nat → Option Nat) (inq_day : Int32) (inq_land : Int32) (inq_shoeLeftOut : Int32) (inq_names : Nat → Int32) (inq_stack : Nat → Int32) (inq_judgedShoes : Nat → Int64) (inq_bindingShoes : Nat → Int64) (L_n : Nat → Nat) (L_code : Nat → Nat → Int32) : Option (Int32 × Int32 × Int32 × Int32 × (Nat → Int32) × (Nat → Int32) × (Nat → Int64) × (Nat → Int64)) := B_X11_bound_0   court_shoeCount court_claimCount court_suitCount court_shoePerson court_shoeOther court_shoeSort court_shoeDay court_laws L_n L_code x1 x2 x3 x4 inq_day inq_land inq_shoeLeftOut inq_names inq_stack inq_judgedShoes inq_bindingShoes
set_option maxHeartbeats 4000000 in
set_option maxRecDepth 100000 in
theorem L_X11_bound_0 {p : Program} {l : Launch} {e : Env} {s : State} {m : MethodId} {args : Array Value} {below : List Frame} {meth : Method} {c : Code} {A : Nat → Prop} {D : va_G} {cs : Nat → ClassId} {ad : Nat → Nat} {PL : va_W} {L_a : Nat → Nat} {L_b : Nat → Nat} {court_shoeCount : Int32} {court_claimCount : Int32} {court_suitCount : Int32} {court_shoePerson : Nat → Int32} {court_shoeOther : Nat → Int32} {court_shoeSort : Nat → Int32} {court_shoeDay : Nat → Int32} {court_laws : Nat → Option Nat} {L_n : Nat → Nat} {L_code : Nat → Nat → Int32} {R : Int32 × Int32 × Int32 × Int32 × (Nat → Int32) × (Nat → Int32) × (Nat → Int64) × (Nat → Int64)} (C0 : zC p s m args meth c cX11_bound 6 (some .int) RX11 zW) (hK : va_K D classes (zT cs) s) (hA : ∀ q : Nat, s.heap.size ≤ q → A q) (hLA : PLa cs PL court_laws L_a L_b L_n L_code) (x1 : Int32) (x2 : Int32) (x3 : Int32) (x4 : Int32) (inq_day : Int32) (inq_land : Int32) (inq_shoeLeftOut : Int32) (inq_names : Nat → Int32) (inq_stack : Nat → Int32) (inq_judgedShoes : Nat → Int64) (inq_bindingShoes : Nat → Int64) (h : B_X11_bound_0 court_shoeCount court_claimCount court_suitCount court_shoePerson court_shoeOther court_shoeSort court_shoeDay court_laws L_n L_code x1 x2 x3 x4 inq_day inq_land inq_shoeLeftOut inq_names inq_stack inq_judgedShoes inq_bindingShoes = some R) (H : Heap) (locs : List Loc) (ls : Array Slot) (hP : va_P D classes (wl_X11_bound ad cs PL L_a L_b court_shoeCount court_claimCount court_suitCount court_shoePerson court_shoeOther court_shoeSort court_shoeDay court_laws inq_day inq_land inq_shoeLeftOut inq_names inq_stack inq_judgedShoes inq_bindingShoes L_n L_code) H) (hD : va_D A (wl_X11_bound ad cs PL L_a L_b court_shoeCount court_claimCount court_suitCount court_shoePerson court_shoeOther court_shoeSort court_shoeDay court_laws inq_day inq_land inq_shoeLeftOut inq_names inq_stack inq_judgedShoes inq_bindingShoes L_n L_code)) (hS : va_S A s.heap H locs) (hl : lv_has ls 6 [(0, .ref (ad 0)), (1, .int x1), (2, .int x2), (3, .int x3), (4, .int x4)]) : W p l e rm_X11_bound s m args below meth c H locs 0 0 (MQ below (Q_X11_bound D cs ad PL L_a L_b court_shoeCount court_claimCount court_suitCount court_shoePerson court_shoeOther court_shoeSort court_shoeDay court_laws L_n L_code A R) args s 0 0 A) (F0 m 0 ls []) := by
  obtain ⟨hx, hb, hr, hml, hown, ht, hlocks⟩ := id C0
  refine lv_iload_n hx hb dX11_bound_0 rfl (lv_at hl 1 rfl) ?_
  obtain ⟨r_1, u_2, hc_3, h⟩ := zk_o2 h
  refine zz_siQ (post := (fun r u => (r, u) = (r_1, u_2))) (w1 := fun u => (wl_X11_isPair ad cs )) (As := [.int x1]) (rest := []) (c_X11_isPair l D cs ad  H.size x1 (r_1, u_2) hc_3) ⟨hx, hb, hml, hown, ht⟩ (va_cwS 1 ht g_X11_148 rfl rfl rfl hd_X11_isPair ⟨Nat.le_of_ble_eq_true rfl, Nat.le_of_ble_eq_true rfl⟩) hP hD hS hK hA [] rfl rfl [] rfl (fun _ => rfl) rfl hl.1 (Nat.le_of_ble_eq_true rfl) dX11_bound_1 ⟨Nat.zero_le _, Nat.zero_le _⟩ (fun r u H locs hq hP hS => ?_)
  cases hq
  have hP : va_P D classes (wl_X11_bound ad cs PL L_a L_b court_shoeCount court_claimCount court_suitCount court_shoePerson court_shoeOther court_shoeSort court_shoeDay court_laws inq_day inq_land inq_shoeLeftOut inq_names inq_stack inq_judgedShoes inq_bindingShoes L_n L_code) H := hP
  refine lv_if_eq (tgt := 29) hx hb dX11_bound_4 (by decide) (fun c_4 => ?_) (fun c_4 => ?_)
  · have h := zk_t c_4 h
    refine lv_iconst (v := (-1 : Int32)) hx hb dX11_bound_29 (by decide) ?_
    exact W.iret (v := (-1 : Int32)) hx hb hr (fun t ht2 hW => ⟨⟨(-1 : Int32), (inq_day, inq_land, inq_shoeLeftOut, inq_names, inq_stack, inq_judgedShoes, inq_bindingShoes), rfl, Option.some.inj h, by rw [ht2]; exact hP, hD⟩, hS.F ht2⟩) hS.2.2 dX11_bound_30 hlocks
  · have h := zk_f c_4 h
    refine lv_iload_n hx hb dX11_bound_7 rfl (lv_at hl 2 rfl) ?_
    obtain ⟨r_5, u_6, hc_7, h⟩ := zk_o2 h
    refine zz_siQ (post := (fun r u => (r, u) = (r_5, u_6))) (w1 := fun u => (wl_X11_isDay ad cs )) (As := [.int x2]) (rest := []) (c_X11_isDay l D cs ad  H.size x2 (r_5, u_6) hc_7) ⟨hx, hb, hml, hown, ht⟩ (va_cwS 1 ht g_X11_141 rfl rfl rfl hd_X11_isDay ⟨Nat.le_of_ble_eq_true rfl, Nat.le_of_ble_eq_true rfl⟩) hP hD hS hK hA [] rfl rfl [] rfl (fun _ => rfl) rfl hl.1 (Nat.le_of_ble_eq_true rfl) dX11_bound_8 ⟨Nat.zero_le _, Nat.zero_le _⟩ (fun r u H locs hq hP hS => ?_)
    cases hq
    have hP : va_P D classes (wl_X11_bound ad cs PL L_a L_b court_shoeCount court_claimCount court_suitCount court_shoePerson court_shoeOther court_shoeSort court_shoeDay court_laws inq_day inq_land inq_shoeLeftOut inq_names inq_stack inq_judgedShoes inq_bindingShoes L_n L_code) H := hP
    refine lv_if_eq (tgt := 29) hx hb dX11_bound_11 (by decide) (fun c_8 => ?_) (fun c_8 => ?_)
    · have h := zk_t c_8 h
      refine lv_iconst (v := (-1 : Int32)) hx hb dX11_bound_29 (by decide) ?_
      exact W.iret (v := (-1 : Int32)) hx hb hr (fun t ht2 hW => ⟨⟨(-1 : Int32), (inq_day, inq_land, inq_shoeLeftOut, inq_names, inq_stack, inq_judgedShoes, inq_bindingShoes), rfl, Option.some.inj h, by rw [ht2]; exact hP, hD⟩, hS.F ht2⟩) hS.2.2 dX11_bound_30 hlocks
    · have h := zk_f c_8 h
      refine lv_iload_n hx hb dX11_bound_14 rfl (lv_at hl 3 rfl) ?_
      obtain ⟨r_9, u_10, hc_11, h⟩ := zk_o2 h
      refine zz_siQ (post := (fun r u => (r, u) = (r_9, u_10))) (w1 := fun u => (wl_X11_isLand ad cs )) (As := [.int x3]) (rest := []) (c_X11_isLand l D cs ad  H.size x3 (r_9, u_10) hc_11) ⟨hx, hb, hml, hown, ht⟩ (va_cwS 1 ht g_X11_151 rfl rfl rfl hd_X11_isLand ⟨Nat.le_of_ble_eq_true rfl, Nat.le_of_ble_eq_true rfl⟩) hP hD hS hK hA [] rfl rfl [] rfl (fun _ => rfl) rfl hl.1 (Nat.le_of_ble_eq_true rfl) dX11_bound_15 ⟨Nat.zero_le _, Nat.zero_le _⟩ (fun r u H locs hq hP hS => ?_)
      cases hq
      have hP : va_P D classes (wl_X11_bound ad cs PL L_a L_b court_shoeCount court_claimCount court_suitCount court_shoePerson court_shoeOther court_shoeSort court_shoeDay court_laws inq_day inq_land inq_shoeLeftOut inq_names inq_stack inq_judgedShoes inq_bindingShoes L_n L_code) H := hP
      refine lv_if_eq (tgt := 29) hx hb dX11_bound_18 (by decide) (fun c_12 => ?_) (fun c_12 => ?_)
      · have h := zk_t c_12 h
        refine lv_iconst (v := (-1 : Int32)) hx hb dX11_bound_29 (by decide) ?_
        exact W.iret (v := (-1 : Int32)) hx hb hr (fun t ht2 hW => ⟨⟨(-1 : Int32), (inq_day, inq_land, inq_shoeLeftOut, inq_names, inq_stack, inq_judgedShoes, inq_bindingShoes), rfl, Option.some.inj h, by rw [ht2]; exact hP, hD⟩, hS.F ht2⟩) hS.2.2 dX11_bound_30 hlocks
      · have h := zk_f c_12 h
        refine lv_iload hx hb dX11_bound_21 (lv_at hl 4 rfl) ?_
        obtain ⟨r_13, u_14, hc_15, h⟩ := zk_o2 h
        refine zz_siQ (post := (fun r u => (r, u) = (r_13, u_14))) (w1 := fun u => (wl_X11_isChoice ad cs )) (As := [.int x4]) (rest := []) (c_X11_isChoice l D cs ad  H.size x4 (r_13, u_14) hc_15) ⟨hx, hb, hml, hown, ht⟩ (va_cwS 1 ht g_X11_154 rfl rfl rfl hd_X11_isChoice ⟨Nat.le_of_ble_eq_true rfl, Nat.le_of_ble_eq_true rfl⟩) hP hD hS hK hA [] rfl rfl [] rfl (fun _ => rfl) rfl hl.1 (Nat.le_of_ble_eq_true rfl) dX11_bound_23 ⟨Nat.zero_le _, Nat.zero_le _⟩ (fun r u H locs hq hP hS => ?_)
        cases hq
        have hP : va_P D classes (wl_X11_bound ad cs PL L_a L_b court_shoeCount court_claimCount court_suitCount court_shoePerson court_shoeOther court_shoeSort court_shoeDay court_laws inq_day inq_land inq_shoeLeftOut inq_names inq_stack inq_judgedShoes inq_bindingShoes L_n L_code) H := hP
        refine lv_if_ne (tgt := 31) hx hb dX11_bound_26 (by decide) (fun c_16 => ?_) (fun c_16 => ?_)
        · have h := zk_f c_16 h
          refine lv_aload_n hx hb dX11_bound_31 rfl (lv_at hl 0 rfl) ?_
          refine va_get (D := D) (ci := 11) (v := .ref (ad 15)) (C := RX11) (T := TX11) (N := 11) hx hb ht iX11 hown hK hP 0 rfl rfl 1 (by decide) (ht _ kw_697) (fun _ h9 => h9) rfl dX11_bound_32 ?_
          refine lv_iload_n hx hb dX11_bound_35 rfl (lv_at hl 2 rfl) ?_
          refine lv_iload_n hx hb dX11_bound_36 rfl (lv_at hl 3 rfl) ?_
          obtain ⟨u_17, u_18, u_19, u_20, u_21, hc_22, h⟩ := zk_o5 h
          refine zz_vvQ (post := (fun u => u = (u_17, u_18, u_19, u_20, u_21))) (w1 := fun u => (wl_X3_turnTo ad cs u.1 u.2.1 u.2.2.1 u.2.2.2.1 u.2.2.2.2)) (As := [.int x2, .int x3]) (rest := []) (c_X3_turnTo l D cs ad  H.size x2 x3 inq_day inq_land inq_shoeLeftOut inq_judgedShoes inq_bindingShoes (u_17, u_18, u_19, u_20, u_21) hc_22) ⟨hx, hb, hml, hown, ht⟩ (cwV 2 ht g_X11_157 rfl rfl rfl ⟨rfl, hd_X3_turnTo⟩ ⟨Nat.le_of_ble_eq_true rfl, Nat.le_of_ble_eq_true rfl⟩) (va_recv hK hP (ci := 3) (q0 := 7) rfl rfl) hP hD hS hK hA [7, 10, 11] rfl rfl [(ad 15), (ad 18), (ad 19)] rfl (fun _ => rfl) rfl hl.1 (Nat.le_of_ble_eq_true rfl) dX11_bound_37 ⟨Nat.zero_le _, Nat.zero_le _⟩ (fun u H locs hq hP hS => ?_)
          cases hq
          have hP : va_P D classes (wl_X11_bound ad cs PL L_a L_b court_shoeCount court_claimCount court_suitCount court_shoePerson court_shoeOther court_shoeSort court_shoeDay court_laws u_17 u_18 u_19 inq_names inq_stack u_20 u_21 L_n L_code) H := hP
          have hD : va_D A (wl_X11_bound ad cs PL L_a L_b court_shoeCount court_claimCount court_suitCount court_shoePerson court_shoeOther court_shoeSort court_shoeDay court_laws u_17 u_18 u_19 inq_names inq_stack u_20 u_21 L_n L_code) := zDkp hD [(ad 0), (ad 4), (ad 5), (ad 6), (ad 7), (ad 8), (ad 14), (ad 15), (ad 16), (ad 17), (ad 18), (ad 19)] rfl rfl
          refine lv_aload_n hx hb dX11_bound_40 rfl (lv_at hl 0 rfl) ?_
          refine va_get (D := D) (ci := 11) (v := .ref (ad 15)) (C := RX11) (T := TX11) (N := 11) hx hb ht iX11 hown hK hP 0 rfl rfl 1 (by decide) (ht _ kw_697) (fun _ h9 => h9) rfl dX11_bound_41 ?_
          refine lv_iload_n hx hb dX11_bound_44 rfl (lv_at hl 1 rfl) ?_
          refine lv_bipush (v := (100 : Int32)) hx hb dX11_bound_45 (by decide) ?_
          refine lv_idiv hx hb dX11_bound_47 (by decide) ?_
          refine lv_iload_n hx hb dX11_bound_48 rfl (lv_at hl 1 rfl) ?_
          refine lv_bipush (v := (100 : Int32)) hx hb dX11_bound_49 (by decide) ?_
          refine lv_irem hx hb dX11_bound_51 (by decide) ?_
          obtain ⟨r_23, u_24, u_25, u_26, u_27, hc_28, h⟩ := zk_o5 h
          refine zz_viP (post := (fun r u => (r, u) = (r_23, u_24, u_25, u_26, u_27))) (w1 := fun u => (wx_X3_stepsTo ad cs PL L_a L_b court_shoeCount court_claimCount court_suitCount court_shoePerson court_shoeOther court_shoeSort court_shoeDay court_laws u_17 u_18 u_19 u.1 u.2.1 u.2.2.1 u.2.2.2 L_n L_code)) (PL := PL) (As := [.int (x1 / (100 : Int32)), .int (x1 - x1 / (100 : Int32) * (100 : Int32))]) (rest := []) (c_X3_stepsTo l D cs ad PL L_a L_b H.size 100000 (x1 / (100 : Int32)) (x1 - x1 / (100 : Int32) * (100 : Int32)) court_shoeCount court_claimCount court_suitCount court_shoePerson court_shoeOther court_shoeSort court_shoeDay court_laws u_17 u_18 u_19 inq_names inq_stack u_20 u_21 L_n L_code hLA (r_23, u_24, u_25, u_26, u_27) hc_28) ⟨hx, hb, hml, hown, ht⟩ (cwV 2 ht g_X11_161 rfl rfl rfl ⟨rfl, hd_X3_stepsTo⟩ ⟨Nat.le_of_ble_eq_true rfl, Nat.le_of_ble_eq_true rfl⟩) (va_recv hK hP (ci := 3) (q0 := 7) rfl rfl) hP hD hS hK hA [1, 2, 3, 4, 5, 6, 7, 8, 9, 10, 11] rfl rfl [(ad 4), (ad 5), (ad 6), (ad 7), (ad 8), (ad 14), (ad 15), (ad 16), (ad 17), (ad 18), (ad 19)] rfl (fun _ => rfl) rfl hl.1 (Nat.le_of_ble_eq_true rfl) dX11_bound_52 ⟨Nat.zero_le _, Nat.zero_le _⟩ (fun r u H locs hq hP hS => ?_)
          cases hq
          have hP : va_P D classes (wl_X11_bound ad cs PL L_a L_b court_shoeCount court_claimCount court_suitCount court_shoePerson court_shoeOther court_shoeSort court_shoeDay court_laws u_17 u_18 u_19 u_24 u_25 u_26 u_27 L_n L_code) H := hP
          have hD : va_D A (wl_X11_bound ad cs PL L_a L_b court_shoeCount court_claimCount court_suitCount court_shoePerson court_shoeOther court_shoeSort court_shoeDay court_laws u_17 u_18 u_19 u_24 u_25 u_26 u_27 L_n L_code) := zDkp hD [(ad 0), (ad 4), (ad 5), (ad 6), (ad 7), (ad 8), (ad 14), (ad 15), (ad 16), (ad 17), (ad 18), (ad 19)] rfl rfl
          refine lv_istore (lv' := [(5, .int r_23), (0, .ref (ad 0)), (1, .int x1), (2, .int x2), (3, .int x3), (4, .int x4)]) hx hb dX11_bound_55 hl (by decide) rfl (fun ls hl => ?_)
          refine lv_iload hx hb dX11_bound_57 (lv_at hl 0 rfl) ?_
          refine lv_if_ge (tgt := 65) hx hb dX11_bound_59 (by decide) (fun c_29 => ?_) (fun c_29 => ?_)
          · have h := zk_t c_29 h
            refine lv_iload hx hb dX11_bound_65 (lv_at hl 5 rfl) ?_
            refine lv_if_ne (tgt := 75) hx hb dX11_bound_67 (by decide) (fun c_30 => ?_) (fun c_30 => ?_)
            · have h := zk_f c_30 h
              refine lv_aload_n hx hb dX11_bound_75 rfl (lv_at hl 1 rfl) ?_
              refine va_get (D := D) (ci := 11) (v := .ref (ad 15)) (C := RX11) (T := TX11) (N := 11) hx hb ht iX11 hown hK hP 0 rfl rfl 1 (by decide) (ht _ kw_697) (fun _ h9 => h9) rfl dX11_bound_76 ?_
              refine lv_iload_n hx hb dX11_bound_79 rfl (lv_at hl 2 rfl) ?_
              refine lv_bipush (v := (100 : Int32)) hx hb dX11_bound_80 (by decide) ?_
              refine lv_idiv hx hb dX11_bound_82 (by decide) ?_
              refine lv_iload_n hx hb dX11_bound_83 rfl (lv_at hl 2 rfl) ?_
              refine lv_bipush (v := (100 : Int32)) hx hb dX11_bound_84 (by decide) ?_
              refine lv_irem hx hb dX11_bound_86 (by decide) ?_
              refine lv_iload hx hb dX11_bound_87 (lv_at hl 0 rfl) ?_
              obtain ⟨r_31, u_32, u_33, u_34, u_35, hc_36, h⟩ := zk_o5 h
              refine zz_viP (post := (fun r u => (r, u) = (r_31, u_32, u_33, u_34, u_35))) (w1 := fun u => (wx_X3_firstSort ad cs PL L_a L_b court_shoeCount court_claimCount court_suitCount court_shoePerson court_shoeOther court_shoeSort court_shoeDay court_laws u_17 u_18 u_19 u.1 u.2.1 u.2.2.1 u.2.2.2 L_n L_code)) (PL := PL) (As := [.int (x1 / (100 : Int32)), .int (x1 - x1 / (100 : Int32) * (100 : Int32)), .int r_23]) (rest := []) (c_X3_firstSort l D cs ad PL L_a L_b H.size 100000 (x1 / (100 : Int32)) (x1 - x1 / (100 : Int32) * (100 : Int32)) r_23 court_shoeCount court_claimCount court_suitCount court_shoePerson court_shoeOther court_shoeSort court_shoeDay court_laws u_17 u_18 u_19 u_24 u_25 u_26 u_27 L_n L_code hLA (r_31, u_32, u_33, u_34, u_35) hc_36) ⟨hx, hb, hml, hown, ht⟩ (cwV 3 ht g_X11_165 rfl rfl rfl ⟨rfl, hd_X3_firstSort⟩ ⟨Nat.le_of_ble_eq_true rfl, Nat.le_of_ble_eq_true rfl⟩) (va_recv hK hP (ci := 3) (q0 := 7) rfl rfl) hP hD hS hK hA [1, 2, 3, 4, 5, 6, 7, 8, 9, 10, 11] rfl rfl [(ad 4), (ad 5), (ad 6), (ad 7), (ad 8), (ad 14), (ad 15), (ad 16), (ad 17), (ad 18), (ad 19)] rfl (fun _ => rfl) rfl hl.1 (Nat.le_of_ble_eq_true rfl) dX11_bound_89 ⟨Nat.zero_le _, Nat.zero_le _⟩ (fun r u H locs hq hP hS => ?_)
              cases hq
              have hP : va_P D classes (wl_X11_bound ad cs PL L_a L_b court_shoeCount court_claimCount court_suitCount court_shoePerson court_shoeOther court_shoeSort court_shoeDay court_laws u_17 u_18 u_19 u_32 u_33 u_34 u_35 L_n L_code) H := hP
              have hD : va_D A (wl_X11_bound ad cs PL L_a L_b court_shoeCount court_claimCount court_suitCount court_shoePerson court_shoeOther court_shoeSort court_shoeDay court_laws u_17 u_18 u_19 u_32 u_33 u_34 u_35 L_n L_code) := zDkp hD [(ad 0), (ad 4), (ad 5), (ad 6), (ad 7), (ad 8), (ad 14), (ad 15), (ad 16), (ad 17), (ad 18), (ad 19)] rfl rfl
              exact W.iret (v := r_31) hx hb hr (fun t ht2 hW => ⟨⟨r_31, (u_17, u_18, u_19, u_32, u_33, u_34, u_35), rfl, Option.some.inj h, by rw [ht2]; exact hP, hD⟩, hS.F ht2⟩) hS.2.2 dX11_bound_92 hlocks
            · have h := zk_t c_30 h
              refine lv_iload hx hb dX11_bound_70 (lv_at hl 0 rfl) ?_
              refine lv_goto (tgt := 92) hx hb dX11_bound_72 (by decide) ?_
              exact W.iret (v := r_23) hx hb hr (fun t ht2 hW => ⟨⟨r_23, (u_17, u_18, u_19, u_24, u_25, u_26, u_27), rfl, Option.some.inj h, by rw [ht2]; exact hP, hD⟩, hS.F ht2⟩) hS.2.2 dX11_bound_92 hlocks
          · have h := zk_f c_29 h
            refine lv_bipush (v := (-2 : Int32)) hx hb dX11_bound_62 (by decide) ?_
            exact W.iret (v := (-2 : Int32)) hx hb hr (fun t ht2 hW => ⟨⟨(-2 : Int32), (u_17, u_18, u_19, u_24, u_25, u_26, u_27), rfl, Option.some.inj h, by rw [ht2]; exact hP, hD⟩, hS.F ht2⟩) hS.2.2 dX11_bound_64 hlocks
        · have h := zk_t c_16 h
          refine lv_iconst (v := (-1 : Int32)) hx hb dX11_bound_29 (by decide) ?_
          exact W.iret (v := (-1 : Int32)) hx hb hr (fun t ht2 hW => ⟨⟨(-1 : Int32), (inq_day, inq_land, inq_shoeLeftOut, inq_names, inq_stack, inq_judgedShoes, inq_bindingShoes), rfl, Option.some.inj h, by rw [ht2]; exact hP, hD⟩, hS.F ht2⟩) hS.2.2 dX11_bound_30 hlocks
set_option maxHeartbeats 4000000 in
set_option maxRecDepth 100000 in
theorem c_X11_bound (l : Launch) (D : va_G) (cs : Nat → ClassId) (ad : Nat → Nat) (PL : va_W) (L_a : Nat → Nat) (L_b : Nat → Nat) (sz : Nat) (x1 : Int32) (x2 : Int32) (x3 : Int32) (x4 : Int32) (court_shoeCount : Int32) (court_claimCount : Int32) (court_suitCount : Int32) (court_shoePerson : Nat → Int32) (court_shoeOther : Nat → Int32) (court_shoeSort : Nat → Int32) (court_shoeDay : Nat → Int32) (court_laws : Nat → Option Nat) (inq_day : Int32) (inq_land : Int32) (inq_shoeLeftOut : Int32) (inq_names : Nat → Int32) (inq_stack : Nat → Int32) (inq_judgedShoes : Nat → Int64) (inq_bindingShoes : Nat → Int64) (L_n : Nat → Nat) (L_code : Nat → Nat → Int32) (hLA : PLa cs PL court_laws L_a L_b L_n L_code) (R : Int32 × Int32 × Int32 × Int32 × (Nat → Int32) × (Nat → Int32) × (Nat → Int64) × (Nat → Int64)) (h : f_X11_bound   x1 x2 x3 x4 court_shoeCount court_claimCount court_suitCount court_shoePerson court_shoeOther court_shoeSort court_shoeDay court_laws inq_day inq_land inq_shoeLeftOut inq_names inq_stack inq_judgedShoes inq_bindingShoes L_n L_code = some R) : Met l yX11_bound (z_X11_bound) rm_X11_bound (va_Pc [.ref (ad 0), .int x1, .int x2, .int x3, .int x4] (zPre D cs (wl_X11_bound ad cs PL L_a L_b court_shoeCount court_claimCount court_suitCount court_shoePerson court_shoeOther court_shoeSort court_shoeDay court_laws inq_day inq_land inq_shoeLeftOut inq_names inq_stack inq_judgedShoes inq_bindingShoes L_n L_code) sz)) (Q_X11_bound D cs ad PL L_a L_b court_shoeCount court_claimCount court_suitCount court_shoePerson court_shoeOther court_shoeSort court_shoeDay court_laws L_n L_code (va_A (wl_X11_bound ad cs PL L_a L_b court_shoeCount court_claimCount court_suitCount court_shoePerson court_shoeOther court_shoeSort court_shoeDay court_laws inq_day inq_land inq_shoeLeftOut inq_names inq_stack inq_judgedShoes inq_bindingShoes L_n L_code) sz) R) 0 0 (va_A (wl_X11_bound ad cs PL L_a L_b court_shoeCount court_claimCount court_suitCount court_shoePerson court_shoeOther court_shoeSort court_shoeDay court_laws inq_day inq_land inq_shoeLeftOut inq_names inq_stack inq_judgedShoes inq_bindingShoes L_n L_code) sz) := by
  refine Met.ofW (cc := cX11_bound) (maxL := 6) (ret := (some .int)) (by decide) rfl ?_
  intro p e s m args below meth c s₁ B hml hv
  obtain ⟨rfl, hsz, hP, hK, hD0⟩ := hv
  subst hsz
  have hD := hD0.self (sz := s.heap.size)
  have C0 : zC p s m _ meth c cX11_bound 6 (some .int) RX11 zW := ⟨B.exec, B.bytes, B.returns, hml, findClass_of_methodNamed B.named, fun w hw => atoms_spec (ws := z_X11_bound) B.pre w (List.mem_cons_of_mem _ hw), B.notSynchronized⟩
  have hA : ∀ q : Nat, s.heap.size ≤ q → va_A (wl_X11_bound ad cs PL L_a L_b court_shoeCount court_claimCount court_suitCount court_shoePerson court_shoeOther court_shoeSort court_shoeDay court_laws inq_day inq_land inq_shoeLeftOut inq_names inq_stack inq_judgedShoes inq_bindingShoes L_n L_code) s.heap.size q := fun q h => Or.inr h
  have hl := lv_entry ([.ref (ad 0), .int x1, .int x2, .int x3, .int x4]) (n := 6) (Nat.le_of_ble_eq_true rfl)
  rw [lg_entry_eq]
  generalize (lg_sl ([.ref (ad 0), .int x1, .int x2, .int x3, .int x4]) ++ List.replicate (6 - (lg_sl ([.ref (ad 0), .int x1, .int x2, .int x3, .int x4])).length) Slot.unset).toArray = ls at hl ⊢
  exact L_X11_bound_0 C0 hK hA hLA   x1 x2 x3 x4 inq_day inq_land inq_shoeLeftOut inq_names inq_stack inq_judgedShoes inq_bindingShoes h s.heap [] ls hP hD va_S.rf hl
theorem kw_846 : Cond.methodLink RX11 169 yX2_addClaim ∈ zW := zwC (i := 52) zc_4 rfl rfl
theorem kw_847 : Cond.instanceMethod yX2_addClaim ∈ zW := zwC (i := 53) zc_4 rfl rfl
theorem kw_848 : Cond.selects RX2 yX2_addClaim yX2_addClaim ∈ zW := zwC (i := 54) zc_4 rfl rfl
theorem kw_849 : Cond.code yX2_addClaim cX2_addClaim 4 (some .int) ∈ zW := zwC (i := 55) zc_4 rfl rfl
theorem zh_cX11_claim_0 : zck [27, 184, 0, 148, 153, 0, 14, 27, 16, 100, 108, 27, 16, 100, 112, 160, 0, 5, 2, 172, 28, 155] (zdu 0 cX11_claim.data.toList) = true := by decide +kernel
theorem dX11_claim_0 : decode cX11_claim 0 = .ok (.iload_n 1, 1) := zo_27 zh_cX11_claim_0 0 rfl
theorem dX11_claim_1 : decode cX11_claim 1 = .ok (.invokestatic 148, 3) := zo_184 zh_cX11_claim_0 1 rfl
theorem dX11_claim_4 : decode cX11_claim 4 = .ok (.ifCond .eq 14, 3) := zo_p153 zh_cX11_claim_0 4 14 rfl rfl
theorem dX11_claim_7 : decode cX11_claim 7 = .ok (.iload_n 1, 1) := zo_27 zh_cX11_claim_0 7 rfl
theorem dX11_claim_8 : decode cX11_claim 8 = .ok (.bipush 100, 2) := zo_p16 zh_cX11_claim_0 8 100 rfl rfl
theorem dX11_claim_10 : decode cX11_claim 10 = .ok (.idiv, 1) := zo_108 zh_cX11_claim_0 10 rfl
theorem dX11_claim_11 : decode cX11_claim 11 = .ok (.iload_n 1, 1) := zo_27 zh_cX11_claim_0 11 rfl
theorem dX11_claim_12 : decode cX11_claim 12 = .ok (.bipush 100, 2) := zo_p16 zh_cX11_claim_0 12 100 rfl rfl
theorem dX11_claim_14 : decode cX11_claim 14 = .ok (.irem, 1) := zo_112 zh_cX11_claim_0 14 rfl
theorem dX11_claim_15 : decode cX11_claim 15 = .ok (.if_icmp .ne 5, 3) := zo_p160 zh_cX11_claim_0 15 5 rfl rfl
theorem dX11_claim_18 : decode cX11_claim 18 = .ok (.iconst (-1), 1) := zo_2 zh_cX11_claim_0 18 rfl
theorem dX11_claim_19 : decode cX11_claim 19 = .ok (.ireturn, 1) := zo_172 zh_cX11_claim_0 19 rfl
theorem zh_cX11_claim_1 : zck [28, 155, 0, 18, 28, 16, 16, 162, 0, 12, 29, 155, 0, 8, 29, 7, 161, 0, 5, 2, 172, 42] (zdu 20 cX11_claim.data.toList) = true := by decide +kernel
theorem dX11_claim_20 : decode cX11_claim 20 = .ok (.iload_n 2, 1) := zo_28 zh_cX11_claim_1 0 rfl
theorem dX11_claim_21 : decode cX11_claim 21 = .ok (.ifCond .lt 18, 3) := zo_p155 zh_cX11_claim_1 1 18 rfl rfl
theorem dX11_claim_24 : decode cX11_claim 24 = .ok (.iload_n 2, 1) := zo_28 zh_cX11_claim_1 4 rfl
theorem dX11_claim_25 : decode cX11_claim 25 = .ok (.bipush 16, 2) := zo_p16 zh_cX11_claim_1 5 16 rfl rfl
theorem dX11_claim_27 : decode cX11_claim 27 = .ok (.if_icmp .ge 12, 3) := zo_p162 zh_cX11_claim_1 7 12 rfl rfl
theorem dX11_claim_30 : decode cX11_claim 30 = .ok (.iload_n 3, 1) := zo_29 zh_cX11_claim_1 10 rfl
theorem dX11_claim_31 : decode cX11_claim 31 = .ok (.ifCond .lt 8, 3) := zo_p155 zh_cX11_claim_1 11 8 rfl rfl
theorem dX11_claim_34 : decode cX11_claim 34 = .ok (.iload_n 3, 1) := zo_29 zh_cX11_claim_1 14 rfl
theorem dX11_claim_35 : decode cX11_claim 35 = .ok (.iconst 4, 1) := zo_7 zh_cX11_claim_1 15 rfl
theorem dX11_claim_36 : decode cX11_claim 36 = .ok (.if_icmp .lt 5, 3) := zo_p161 zh_cX11_claim_1 16 5 rfl rfl
theorem dX11_claim_39 : decode cX11_claim 39 = .ok (.iconst (-1), 1) := zo_2 zh_cX11_claim_1 19 rfl
theorem zh_cX11_claim_2 : zck [172, 42, 180, 0, 10, 27, 28, 29, 182, 0, 169, 172] (zdu 40 cX11_claim.data.toList) = true := by decide +kernel
theorem dX11_claim_40 : decode cX11_claim 40 = .ok (.ireturn, 1) := zo_172 zh_cX11_claim_2 0 rfl
theorem dX11_claim_41 : decode cX11_claim 41 = .ok (.aload_n 0, 1) := zo_42 zh_cX11_claim_2 1 rfl
theorem dX11_claim_42 : decode cX11_claim 42 = .ok (.getfield 10, 3) := zo_180 zh_cX11_claim_2 2 rfl
theorem dX11_claim_45 : decode cX11_claim 45 = .ok (.iload_n 1, 1) := zo_27 zh_cX11_claim_2 5 rfl
theorem dX11_claim_46 : decode cX11_claim 46 = .ok (.iload_n 2, 1) := zo_28 zh_cX11_claim_2 6 rfl
theorem dX11_claim_47 : decode cX11_claim 47 = .ok (.iload_n 3, 1) := zo_29 zh_cX11_claim_2 7 rfl
theorem dX11_claim_48 : decode cX11_claim 48 = .ok (.invokevirtual 169, 3) := zo_182 zh_cX11_claim_2 8 rfl
theorem dX11_claim_51 : decode cX11_claim 51 = .ok (.ireturn, 1) := zo_172 zh_cX11_claim_2 11 rfl
abbrev z_X11_claim : List Cond := .code yX11_claim cX11_claim 4 (some .int) :: zW
abbrev wl_X11_claim (ad : Nat → Nat) (cs : Nat → ClassId)  (court_shoeCount : Int32) (court_claimCount : Int32) (court_suitCount : Int32) (court_claimWho : Nat → Int32) (court_claimAgainst : Nat → Int32) (court_claimFact : Nat → Int32) (court_claimPlea : Nat → Int32) : va_W := [((ad 0), .inr (11, [.ref (ad 4), .ref (ad 15), .ref (ad 23), .ref (ad 25), .ref (ad 26), .ref (ad 28), .ref (ad 34), .ref (ad 39), .ref (ad 1), .ref (ad 2), .ref (ad 3)])), ((ad 4), .inr (2, [.ref (ad 5), .ref (ad 6), .ref (ad 7), .ref (ad 8), .ref (ad 9), .ref (ad 10), .ref (ad 11), .ref (ad 12), .ref (ad 13), .ref (ad 14), .int court_shoeCount, .int court_claimCount, .int court_suitCount])), ((ad 9), .inl (cs 0, 32, .inl court_claimWho)), ((ad 10), .inl (cs 0, 32, .inl court_claimAgainst)), ((ad 11), .inl (cs 0, 32, .inl court_claimFact)), ((ad 12), .inl (cs 0, 32, .inl court_claimPlea))]
def Q_X11_claim (D : va_G) (cs : Nat → ClassId) (ad : Nat → Nat)  (court_shoeCount : Int32) (court_suitCount : Int32) (A : Nat → Prop) (R : Int32 × Int32 × (Nat → Int32) × (Nat → Int32) × (Nat → Int32) × (Nat → Int32)) : Array Value → State → Outcome → State → Prop :=
  va_Qi (fun (r : Int32) (u : Int32 × (Nat → Int32) × (Nat → Int32) × (Nat → Int32) × (Nat → Int32)) => (r, u) = R) (fun (u : Int32 × (Nat → Int32) × (Nat → Int32) × (Nat → Int32) × (Nat → Int32)) (t : State) => va_P D classes (wl_X11_claim ad cs court_shoeCount u.1 court_suitCount u.2.1 u.2.2.1 u.2.2.2.1 u.2.2.2.2) t.heap ∧ va_D A (wl_X11_claim ad cs court_shoeCount u.1 court_suitCount u.2.1 u.2.2.1 u.2.2.2.1 u.2.2.2.2)) A
abbrev rm_X11_claim : Room := { frames := 1, cells := 0, slots := 0, locals := 23 }
theorem g_X11_169 : GoodIn zW (wsV RX11 169 RX2 yX2_addClaim z_X2_addClaim) := zGV kw_846 kw_847 kw_848 kw_76 kw_849
theorem hd_X2_addClaim : yX2_addClaim.cls ≠ "java/lang/invoke/MethodHandle" ∧ yX2_addClaim.cls ≠ "java/lang/invoke/VarHandle" ∧ (parseMethodDescriptor yX2_addClaim.desc).map (fun d => d.parameters.length) = some 3 := by decide +kernel
def B_X11_claim_0    (court_shoeCount : Int32) (court_suitCount : Int32) (x1 : Int32) (x2 : Int32) (x3 : Int32) (court_claimCount : Int32) (court_claimWho : Nat → Int32) (court_claimAgainst : Nat → Int32) (court_claimFact : Nat → Int32) (court_claimPlea : Nat → Int32) : Option (Int32 × Int32 × (Nat → Int32) × (Nat → Int32) × (Nat → Int32) × (Nat → Int32)) :=
  (zk_b2 (f_X11_isPair x1) (fun r_1 u_2 => (if r_1 = 0 then (some ((-1 : Int32), court_claimCount, court_claimWho, court_claimAgainst, court_claimFact, court_claimPlea)) else (if (x1 / (100 : Int32)) = (x1 - x1 / (100 : Int32) * (100 : Int32)) then (some ((-1 : Int32), court_claimCount, court_claimWho, court_claimAgainst, court_claimFact, court_claimPlea)) else (if x2 < 0 then (some ((-1 : Int32), court_claimCount, court_claimWho, court_claimAgainst, court_claimFact, court_claimPlea)) else (if (16 : Int32) ≤ x2 then (some ((-1 : Int32), court_claimCount, court_claimWho, court_claimAgainst, court_claimFact, court_claimPlea)) else (if x3 < 0 then (some ((-1 : Int32), court_claimCount, court_claimWho, court_claimAgainst, court_claimFact, court_claimPlea)) else (if x3 < (4 : Int32) then (zk_b6 (f_X2_addClaim x1 x2 x3 court_shoeCount court_claimCount court_suitCount court_claimWho court_claimAgainst court_claimFact court_claimPlea) (fun r_10 u_11 u_12 u_13 u_14 u_15 => (some (r_10, u_11, u_12, u_13, u_14, u_15)))) else (some ((-1 : Int32), court_claimCount, court_claimWho, court_claimAgainst, court_claimFact, court_claimPlea))))))))))
def f_X11_claim   (x1 : Int32) (x2 : Int32) (x3 : Int32) (court_shoeCount : Int32) (court_claimCount : Int32) (court_suitCount : Int32) (court_claimWho : Nat → Int32) (court_claimAgainst : Nat → Int32) (court_claimFact : Nat → Int32) (court_claimPlea : Nat → Int32) : Option (Int32 × Int32 × (Nat → Int32) × (Nat → Int32) × (Nat → Int32) × (Nat → Int32)) := B_X11_claim_0   court_shoeCount court_suitCount x1 x2 x3 court_claimCount court_claimWho court_claimAgainst court_claimFact court_claimPlea
set_option maxHeartbeats 4000000 in
set_option maxRecDepth 100000 in
theorem L_X11_claim_0 {p : Program} {l : Launch} {e : Env} {s : State} {m : MethodId} {args : Array Value} {below : List Frame} {meth : Method} {c : Code} {A : Nat → Prop} {D : va_G} {cs : Nat → ClassId} {ad : Nat → Nat} {court_shoeCount : Int32} {court_suitCount : Int32} {R : Int32 × Int32 × (Nat → Int32) × (Nat → Int32) × (Nat → Int32) × (Nat → Int32)} (C0 : zC p s m args meth c cX11_claim 4 (some .int) RX11 zW) (hK : va_K D classes (zT cs) s) (hA : ∀ q : Nat, s.heap.size ≤ q → A q) (x1 : Int32) (x2 : Int32) (x3 : Int32) (court_claimCount : Int32) (court_claimWho : Nat → Int32) (court_claimAgainst : Nat → Int32) (court_claimFact : Nat → Int32) (court_claimPlea : Nat → Int32) (h : B_X11_claim_0 court_shoeCount court_suitCount x1 x2 x3 court_claimCount court_claimWho court_claimAgainst court_claimFact court_claimPlea = some R) (H : Heap) (locs : List Loc) (ls : Array Slot) (hP : va_P D classes (wl_X11_claim ad cs court_shoeCount court_claimCount court_suitCount court_claimWho court_claimAgainst court_claimFact court_claimPlea) H) (hD : va_D A (wl_X11_claim ad cs court_shoeCount court_claimCount court_suitCount court_claimWho court_claimAgainst court_claimFact court_claimPlea)) (hS : va_S A s.heap H locs) (hl : lv_has ls 4 [(0, .ref (ad 0)), (1, .int x1), (2, .int x2), (3, .int x3)]) : W p l e rm_X11_claim s m args below meth c H locs 0 0 (MQ below (Q_X11_claim D cs ad court_shoeCount court_suitCount A R) args s 0 0 A) (F0 m 0 ls []) := by
  obtain ⟨hx, hb, hr, hml, hown, ht, hlocks⟩ := id C0
  refine lv_iload_n hx hb dX11_claim_0 rfl (lv_at hl 1 rfl) ?_
  obtain ⟨r_1, u_2, hc_3, h⟩ := zk_o2 h
  refine zz_si (post := (fun r u => (r, u) = (r_1, u_2))) (w1 := fun u => (wl_X11_isPair ad cs )) (As := [.int x1]) (rest := []) (c_X11_isPair l D cs ad  H.size x1 (r_1, u_2) hc_3) ⟨hx, hb, hml, hown, ht⟩ (va_cwS 1 ht g_X11_148 rfl rfl rfl hd_X11_isPair ⟨Nat.le_of_ble_eq_true rfl, Nat.le_of_ble_eq_true rfl⟩) hP hD hS hK hA [] rfl rfl [] rfl (fun _ => rfl) rfl hl.1 (Nat.le_of_ble_eq_true rfl) dX11_claim_1 ⟨Nat.zero_le _, Nat.zero_le _⟩ (fun r u H locs hq hP hS => ?_)
  cases hq
  have hP : va_P D classes (wl_X11_claim ad cs court_shoeCount court_claimCount court_suitCount court_claimWho court_claimAgainst court_claimFact court_claimPlea) H := hP
  refine lv_if_eq (tgt := 18) hx hb dX11_claim_4 (by decide) (fun c_4 => ?_) (fun c_4 => ?_)
  · have h := zk_t c_4 h
    refine lv_iconst (v := (-1 : Int32)) hx hb dX11_claim_18 (by decide) ?_
    exact W.iret (v := (-1 : Int32)) hx hb hr (fun t ht2 hW => ⟨⟨(-1 : Int32), (court_claimCount, court_claimWho, court_claimAgainst, court_claimFact, court_claimPlea), rfl, Option.some.inj h, by rw [ht2]; exact hP, hD⟩, hS.F ht2⟩) hS.2.2 dX11_claim_19 hlocks
  · have h := zk_f c_4 h
    refine lv_iload_n hx hb dX11_claim_7 rfl (lv_at hl 1 rfl) ?_
    refine lv_bipush (v := (100 : Int32)) hx hb dX11_claim_8 (by decide) ?_
    refine lv_idiv hx hb dX11_claim_10 (by decide) ?_
    refine lv_iload_n hx hb dX11_claim_11 rfl (lv_at hl 1 rfl) ?_
    refine lv_bipush (v := (100 : Int32)) hx hb dX11_claim_12 (by decide) ?_
    refine lv_irem hx hb dX11_claim_14 (by decide) ?_
    refine lv_icmp_ne (tgt := 20) hx hb dX11_claim_15 (by decide) (fun c_5 => ?_) (fun c_5 => ?_)
    · have h := zk_f c_5 h
      refine lv_iload_n hx hb dX11_claim_20 rfl (lv_at hl 2 rfl) ?_
      refine lv_if_lt (tgt := 39) hx hb dX11_claim_21 (by decide) (fun c_6 => ?_) (fun c_6 => ?_)
      · have h := zk_t c_6 h
        refine lv_iconst (v := (-1 : Int32)) hx hb dX11_claim_39 (by decide) ?_
        exact W.iret (v := (-1 : Int32)) hx hb hr (fun t ht2 hW => ⟨⟨(-1 : Int32), (court_claimCount, court_claimWho, court_claimAgainst, court_claimFact, court_claimPlea), rfl, Option.some.inj h, by rw [ht2]; exact hP, hD⟩, hS.F ht2⟩) hS.2.2 dX11_claim_40 hlocks
      · have h := zk_f c_6 h
        refine lv_iload_n hx hb dX11_claim_24 rfl (lv_at hl 2 rfl) ?_
        refine lv_bipush (v := (16 : Int32)) hx hb dX11_claim_25 (by decide) ?_
        refine lv_icmp_ge (tgt := 39) hx hb dX11_claim_27 (by decide) (fun c_7 => ?_) (fun c_7 => ?_)
        · have h := zk_t c_7 h
          refine lv_iconst (v := (-1 : Int32)) hx hb dX11_claim_39 (by decide) ?_
          exact W.iret (v := (-1 : Int32)) hx hb hr (fun t ht2 hW => ⟨⟨(-1 : Int32), (court_claimCount, court_claimWho, court_claimAgainst, court_claimFact, court_claimPlea), rfl, Option.some.inj h, by rw [ht2]; exact hP, hD⟩, hS.F ht2⟩) hS.2.2 dX11_claim_40 hlocks
        · have h := zk_f c_7 h
          refine lv_iload_n hx hb dX11_claim_30 rfl (lv_at hl 3 rfl) ?_
          refine lv_if_lt (tgt := 39) hx hb dX11_claim_31 (by decide) (fun c_8 => ?_) (fun c_8 => ?_)
          · have h := zk_t c_8 h
            refine lv_iconst (v := (-1 : Int32)) hx hb dX11_claim_39 (by decide) ?_
            exact W.iret (v := (-1 : Int32)) hx hb hr (fun t ht2 hW => ⟨⟨(-1 : Int32), (court_claimCount, court_claimWho, court_claimAgainst, court_claimFact, court_claimPlea), rfl, Option.some.inj h, by rw [ht2]; exact hP, hD⟩, hS.F ht2⟩) hS.2.2 dX11_claim_40 hlocks
          · have h := zk_f c_8 h
            refine lv_iload_n hx hb dX11_claim_34 rfl (lv_at hl 3 rfl) ?_
            refine lv_iconst (v := (4 : Int32)) hx hb dX11_claim_35 (by decide) ?_
            refine lv_icmp_lt (tgt := 41) hx hb dX11_claim_36 (by decide) (fun c_9 => ?_) (fun c_9 => ?_)
            · have h := zk_t c_9 h
              refine lv_aload_n hx hb dX11_claim_41 rfl (lv_at hl 0 rfl) ?_
              refine va_get (D := D) (ci := 11) (v := .ref (ad 4)) (C := RX11) (T := TX11) (N := 11) hx hb ht iX11 hown hK hP 0 rfl rfl 0 (by decide) (ht _ kw_696) (fun _ h9 => h9) rfl dX11_claim_42 ?_
              refine lv_iload_n hx hb dX11_claim_45 rfl (lv_at hl 1 rfl) ?_
              refine lv_iload_n hx hb dX11_claim_46 rfl (lv_at hl 2 rfl) ?_
              refine lv_iload_n hx hb dX11_claim_47 rfl (lv_at hl 3 rfl) ?_
              obtain ⟨r_10, u_11, u_12, u_13, u_14, u_15, hc_16, h⟩ := zk_o6 h
              refine zz_vi (post := (fun r u => (r, u) = (r_10, u_11, u_12, u_13, u_14, u_15))) (w1 := fun u => (wl_X2_addClaim ad cs court_shoeCount u.1 court_suitCount u.2.1 u.2.2.1 u.2.2.2.1 u.2.2.2.2)) (As := [.int x1, .int x2, .int x3]) (rest := []) (c_X2_addClaim l D cs ad  H.size x1 x2 x3 court_shoeCount court_claimCount court_suitCount court_claimWho court_claimAgainst court_claimFact court_claimPlea (r_10, u_11, u_12, u_13, u_14, u_15) hc_16) ⟨hx, hb, hml, hown, ht⟩ (cwV 3 ht g_X11_169 rfl rfl rfl ⟨rfl, hd_X2_addClaim⟩ ⟨Nat.le_of_ble_eq_true rfl, Nat.le_of_ble_eq_true rfl⟩) (va_recv hK hP (ci := 2) (q0 := 1) rfl rfl) hP hD hS hK hA [1, 2, 3, 4, 5] rfl rfl [(ad 4), (ad 9), (ad 10), (ad 11), (ad 12)] rfl (fun _ => rfl) rfl hl.1 (Nat.le_of_ble_eq_true rfl) dX11_claim_48 ⟨Nat.zero_le _, Nat.zero_le _⟩ (fun r u H locs hq hP hS => ?_)
              cases hq
              have hP : va_P D classes (wl_X11_claim ad cs court_shoeCount u_11 court_suitCount u_12 u_13 u_14 u_15) H := hP
              have hD : va_D A (wl_X11_claim ad cs court_shoeCount u_11 court_suitCount u_12 u_13 u_14 u_15) := zDk hD [(ad 0), (ad 4), (ad 9), (ad 10), (ad 11), (ad 12)] rfl rfl
              exact W.iret (v := r_10) hx hb hr (fun t ht2 hW => ⟨⟨r_10, (u_11, u_12, u_13, u_14, u_15), rfl, Option.some.inj h, by rw [ht2]; exact hP, hD⟩, hS.F ht2⟩) hS.2.2 dX11_claim_51 hlocks
            · have h := zk_f c_9 h
              refine lv_iconst (v := (-1 : Int32)) hx hb dX11_claim_39 (by decide) ?_
              exact W.iret (v := (-1 : Int32)) hx hb hr (fun t ht2 hW => ⟨⟨(-1 : Int32), (court_claimCount, court_claimWho, court_claimAgainst, court_claimFact, court_claimPlea), rfl, Option.some.inj h, by rw [ht2]; exact hP, hD⟩, hS.F ht2⟩) hS.2.2 dX11_claim_40 hlocks
    · have h := zk_t c_5 h
      refine lv_iconst (v := (-1 : Int32)) hx hb dX11_claim_18 (by decide) ?_
      exact W.iret (v := (-1 : Int32)) hx hb hr (fun t ht2 hW => ⟨⟨(-1 : Int32), (court_claimCount, court_claimWho, court_claimAgainst, court_claimFact, court_claimPlea), rfl, Option.some.inj h, by rw [ht2]; exact hP, hD⟩, hS.F ht2⟩) hS.2.2 dX11_claim_19 hlocks
set_option maxHeartbeats 4000000 in
set_option maxRecDepth 100000 in
theorem c_X11_claim (l : Launch) (D : va_G) (cs : Nat → ClassId) (ad : Nat → Nat) (sz : Nat) (x1 : Int32) (x2 : Int32) (x3 : Int32) (court_shoeCount : Int32) (court_claimCount : Int32) (court_suitCount : Int32) (court_claimWho : Nat → Int32) (court_claimAgainst : Nat → Int32) (court_claimFact : Nat → Int32) (court_claimPlea : Nat → Int32) (R : Int32 × Int32 × (Nat → Int32) × (Nat → Int32) × (Nat → Int32) × (Nat → Int32)) (h : f_X11_claim   x1 x2 x3 court_shoeCount court_claimCount court_suitCount court_claimWho court_claimAgainst court_claimFact court_claimPlea = some R) : Met l yX11_claim (z_X11_claim) rm_X11_claim (va_Pc [.ref (ad 0), .int x1, .int x2, .int x3] (zPre D cs (wl_X11_claim ad cs court_shoeCount court_claimCount court_suitCount court_claimWho court_claimAgainst court_claimFact court_claimPlea) sz)) (Q_X11_claim D cs ad court_shoeCount court_suitCount (va_A (wl_X11_claim ad cs court_shoeCount court_claimCount court_suitCount court_claimWho court_claimAgainst court_claimFact court_claimPlea) sz) R) 0 0 (va_A (wl_X11_claim ad cs court_shoeCount court_claimCount court_suitCount court_claimWho court_claimAgainst court_claimFact court_claimPlea) sz) := by
  refine Met.ofW (cc := cX11_claim) (maxL := 4) (ret := (some .int)) (by decide) rfl ?_
  intro p e s m args below meth c s₁ B hml hv
  obtain ⟨rfl, hsz, hP, hK, hD0⟩ := hv
  subst hsz
  have hD := hD0.self (sz := s.heap.size)
  have C0 : zC p s m _ meth c cX11_claim 4 (some .int) RX11 zW := ⟨B.exec, B.bytes, B.returns, hml, findClass_of_methodNamed B.named, fun w hw => atoms_spec (ws := z_X11_claim) B.pre w (List.mem_cons_of_mem _ hw), B.notSynchronized⟩
  have hA : ∀ q : Nat, s.heap.size ≤ q → va_A (wl_X11_claim ad cs court_shoeCount court_claimCount court_suitCount court_claimWho court_claimAgainst court_claimFact court_claimPlea) s.heap.size q := fun q h => Or.inr h
  have hl := lv_entry ([.ref (ad 0), .int x1, .int x2, .int x3]) (n := 4) (Nat.le_of_ble_eq_true rfl)
  rw [lg_entry_eq]
  generalize (lg_sl ([.ref (ad 0), .int x1, .int x2, .int x3]) ++ List.replicate (4 - (lg_sl ([.ref (ad 0), .int x1, .int x2, .int x3])).length) Slot.unset).toArray = ls at hl ⊢
  exact L_X11_claim_0 C0 hK hA   x1 x2 x3 court_claimCount court_claimWho court_claimAgainst court_claimFact court_claimPlea h s.heap [] ls hP hD va_S.rf hl
theorem kw_153 : Cond.fieldLink RX11 194 "AlreadyJudged$Court" "claimCount" "I" ∈ zW := zwC (i := 79) zc_1 rfl rfl
theorem zh_cX11_isClaim_0 : zck [27, 155, 0, 18, 27, 42, 180, 0, 10, 180, 0, 194, 162, 0, 7, 4, 167, 0, 4, 3, 172] (zdu 0 cX11_isClaim.data.toList) = true := by decide +kernel
theorem dX11_isClaim_0 : decode cX11_isClaim 0 = .ok (.iload_n 1, 1) := zo_27 zh_cX11_isClaim_0 0 rfl
theorem dX11_isClaim_1 : decode cX11_isClaim 1 = .ok (.ifCond .lt 18, 3) := zo_p155 zh_cX11_isClaim_0 1 18 rfl rfl
theorem dX11_isClaim_4 : decode cX11_isClaim 4 = .ok (.iload_n 1, 1) := zo_27 zh_cX11_isClaim_0 4 rfl
theorem dX11_isClaim_5 : decode cX11_isClaim 5 = .ok (.aload_n 0, 1) := zo_42 zh_cX11_isClaim_0 5 rfl
theorem dX11_isClaim_6 : decode cX11_isClaim 6 = .ok (.getfield 10, 3) := zo_180 zh_cX11_isClaim_0 6 rfl
theorem dX11_isClaim_9 : decode cX11_isClaim 9 = .ok (.getfield 194, 3) := zo_180 zh_cX11_isClaim_0 9 rfl
theorem dX11_isClaim_12 : decode cX11_isClaim 12 = .ok (.if_icmp .ge 7, 3) := zo_p162 zh_cX11_isClaim_0 12 7 rfl rfl
theorem dX11_isClaim_15 : decode cX11_isClaim 15 = .ok (.iconst 1, 1) := zo_4 zh_cX11_isClaim_0 15 rfl
theorem dX11_isClaim_16 : decode cX11_isClaim 16 = .ok (.goto 4, 3) := zo_p167 zh_cX11_isClaim_0 16 4 rfl rfl
theorem dX11_isClaim_19 : decode cX11_isClaim 19 = .ok (.iconst 0, 1) := zo_3 zh_cX11_isClaim_0 19 rfl
theorem zh_cX11_isClaim_1 : zck [172] (zdu 20 cX11_isClaim.data.toList) = true := by decide +kernel
theorem dX11_isClaim_20 : decode cX11_isClaim 20 = .ok (.ireturn, 1) := zo_172 zh_cX11_isClaim_1 0 rfl
abbrev z_X11_isClaim : List Cond := .code yX11_isClaim cX11_isClaim 2 (some .boolean) :: zW
abbrev wl_X11_isClaim (ad : Nat → Nat) (cs : Nat → ClassId)  (court_shoeCount : Int32) (court_claimCount : Int32) (court_suitCount : Int32) : va_W := [((ad 0), .inr (11, [.ref (ad 4), .ref (ad 15), .ref (ad 23), .ref (ad 25), .ref (ad 26), .ref (ad 28), .ref (ad 34), .ref (ad 39), .ref (ad 1), .ref (ad 2), .ref (ad 3)])), ((ad 4), .inr (2, [.ref (ad 5), .ref (ad 6), .ref (ad 7), .ref (ad 8), .ref (ad 9), .ref (ad 10), .ref (ad 11), .ref (ad 12), .ref (ad 13), .ref (ad 14), .int court_shoeCount, .int court_claimCount, .int court_suitCount]))]
def Q_X11_isClaim (D : va_G) (cs : Nat → ClassId) (ad : Nat → Nat)  (court_shoeCount : Int32) (court_claimCount : Int32) (court_suitCount : Int32) (A : Nat → Prop) (R : Int32 × Unit) : Array Value → State → Outcome → State → Prop :=
  va_Qi (fun (r : Int32) (u : Unit) => (r, u) = R) (fun (u : Unit) (t : State) => va_P D classes (wl_X11_isClaim ad cs court_shoeCount court_claimCount court_suitCount) t.heap ∧ va_D A (wl_X11_isClaim ad cs court_shoeCount court_claimCount court_suitCount)) A
abbrev rm_X11_isClaim : Room := { frames := 0, cells := 0, slots := 0, locals := 0 }
def B_X11_isClaim_0    (court_shoeCount : Int32) (court_claimCount : Int32) (court_suitCount : Int32) (x1 : Int32) : Option (Int32 × Unit) :=
  (if x1 < 0 then (some ((0 : Int32), ())) else (if court_claimCount ≤ x1 then (some ((0 : Int32), ())) else (some ((1 : Int32), ()))))
def f_X11_isClaim   (x1 : Int32) (court_shoeCount : Int32) (court_claimCount : Int32) (court_suitCount : Int32) : Option (Int32 × Unit) := B_X11_isClaim_0   court_shoeCount court_claimCount court_suitCount x1 
set_option maxHeartbeats 4000000 in
set_option maxRecDepth 100000 in
theorem L_X11_isClaim_0 {p : Program} {l : Launch} {e : Env} {s : State} {m : MethodId} {args : Array Value} {below : List Frame} {meth : Method} {c : Code} {A : Nat → Prop} {D : va_G} {cs : Nat → ClassId} {ad : Nat → Nat} {court_shoeCount : Int32} {court_claimCount : Int32} {court_suitCount : Int32} {R : Int32 × Unit} (C0 : zC p s m args meth c cX11_isClaim 2 (some .boolean) RX11 zW) (hK : va_K D classes (zT cs) s) (hA : ∀ q : Nat, s.heap.size ≤ q → A q) (x1 : Int32) (h : B_X11_isClaim_0 court_shoeCount court_claimCount court_suitCount x1 = some R) (H : Heap) (locs : List Loc) (ls : Array Slot) (hP : va_P D classes (wl_X11_isClaim ad cs court_shoeCount court_claimCount court_suitCount) H) (hD : va_D A (wl_X11_isClaim ad cs court_shoeCount court_claimCount court_suitCount)) (hS : va_S A s.heap H locs) (hl : lv_has ls 2 [(0, .ref (ad 0)), (1, .int x1)]) : W p l e rm_X11_isClaim s m args below meth c H locs 0 0 (MQ below (Q_X11_isClaim D cs ad court_shoeCount court_claimCount court_suitCount A R) args s 0 0 A) (F0 m 0 ls []) := by
  obtain ⟨hx, hb, hr, hml, hown, ht, hlocks⟩ := id C0
  refine lv_iload_n hx hb dX11_isClaim_0 rfl (lv_at hl 1 rfl) ?_
  refine lv_if_lt (tgt := 19) hx hb dX11_isClaim_1 (by decide) (fun c_1 => ?_) (fun c_1 => ?_)
  · have h := zk_t c_1 h
    refine lv_iconst (v := (0 : Int32)) hx hb dX11_isClaim_19 (by decide) ?_
    exact W.zret (ty := .boolean) (v := (0 : Int32)) hx hb hr rfl (fun t ht2 hW => ⟨⟨(0 : Int32), (), rfl, Option.some.inj h, by rw [ht2]; exact hP, hD⟩, hS.F ht2⟩) hS.2.2 dX11_isClaim_20 hlocks
  · have h := zk_f c_1 h
    refine lv_iload_n hx hb dX11_isClaim_4 rfl (lv_at hl 1 rfl) ?_
    refine lv_aload_n hx hb dX11_isClaim_5 rfl (lv_at hl 0 rfl) ?_
    refine va_get (D := D) (ci := 11) (v := .ref (ad 4)) (C := RX11) (T := TX11) (N := 11) hx hb ht iX11 hown hK hP 0 rfl rfl 0 (by decide) (ht _ kw_696) (fun _ h9 => h9) rfl dX11_isClaim_6 ?_
    refine va_get (D := D) (ci := 2) (v := .int court_claimCount) (C := RX2) (T := TX2) (N := 13) hx hb ht iX2 hown hK hP 1 rfl rfl 11 (by decide) (ht _ kw_153) (fun _ h9 => h9) rfl dX11_isClaim_9 ?_
    refine lv_icmp_ge (tgt := 19) hx hb dX11_isClaim_12 (by decide) (fun c_2 => ?_) (fun c_2 => ?_)
    · have h := zk_t c_2 h
      refine lv_iconst (v := (0 : Int32)) hx hb dX11_isClaim_19 (by decide) ?_
      exact W.zret (ty := .boolean) (v := (0 : Int32)) hx hb hr rfl (fun t ht2 hW => ⟨⟨(0 : Int32), (), rfl, Option.some.inj h, by rw [ht2]; exact hP, hD⟩, hS.F ht2⟩) hS.2.2 dX11_isClaim_20 hlocks
    · have h := zk_f c_2 h
      refine lv_iconst (v := (1 : Int32)) hx hb dX11_isClaim_15 (by decide) ?_
      refine lv_goto (tgt := 20) hx hb dX11_isClaim_16 (by decide) ?_
      exact W.zret (ty := .boolean) (v := (1 : Int32)) hx hb hr rfl (fun t ht2 hW => ⟨⟨(1 : Int32), (), rfl, Option.some.inj h, by rw [ht2]; exact hP, hD⟩, hS.F ht2⟩) hS.2.2 dX11_isClaim_20 hlocks
set_option maxHeartbeats 4000000 in
set_option maxRecDepth 100000 in
theorem c_X11_isClaim (l : Launch) (D : va_G) (cs : Nat → ClassId) (ad : Nat → Nat) (sz : Nat) (x1 : Int32) (court_shoeCount : Int32) (court_claimCount : Int32) (court_suitCount : Int32) (R : Int32 × Unit) (h : f_X11_isClaim   x1 court_shoeCount court_claimCount court_suitCount = some R) : Met l yX11_isClaim (z_X11_isClaim) rm_X11_isClaim (va_Pc [.ref (ad 0), .int x1] (zPre D cs (wl_X11_isClaim ad cs court_shoeCount court_claimCount court_suitCount) sz)) (Q_X11_isClaim D cs ad court_shoeCount court_claimCount court_suitCount (va_A (wl_X11_isClaim ad cs court_shoeCount court_claimCount court_suitCount) sz) R) 0 0 (va_A (wl_X11_isClaim ad cs court_shoeCount court_claimCount court_suitCount) sz) := by
  refine Met.ofW (cc := cX11_isClaim) (maxL := 2) (ret := (some .boolean)) (by decide) rfl ?_
  intro p e s m args below meth c s₁ B hml hv
  obtain ⟨rfl, hsz, hP, hK, hD0⟩ := hv
  subst hsz
  have hD := hD0.self (sz := s.heap.size)
  have C0 : zC p s m _ meth c cX11_isClaim 2 (some .boolean) RX11 zW := ⟨B.exec, B.bytes, B.returns, hml, findClass_of_methodNamed B.named, fun w hw => atoms_spec (ws := z_X11_isClaim) B.pre w (List.mem_cons_of_mem _ hw), B.notSynchronized⟩
  have hA : ∀ q : Nat, s.heap.size ≤ q → va_A (wl_X11_isClaim ad cs court_shoeCount court_claimCount court_suitCount) s.heap.size q := fun q h => Or.inr h
  have hl := lv_entry ([.ref (ad 0), .int x1]) (n := 2) (Nat.le_of_ble_eq_true rfl)
  rw [lg_entry_eq]
  generalize (lg_sl ([.ref (ad 0), .int x1]) ++ List.replicate (2 - (lg_sl ([.ref (ad 0), .int x1])).length) Slot.unset).toArray = ls at hl ⊢
  exact L_X11_isClaim_0 C0 hK hA   x1  h s.heap [] ls hP hD va_S.rf hl
theorem kw_5 : Cond.selects RX11 yX11_isClaim yX11_isClaim ∈ zW := zwI (i := 5) (by decide +kernel) (by decide +kernel)
theorem kw_131 : Cond.fieldLink RX11 175 "AlreadyJudged$Court" "claimWho" "[I" ∈ zW := zwC (i := 57) zc_1 rfl rfl
theorem kw_135 : Cond.fieldLink RX11 178 "AlreadyJudged$Court" "claimAgainst" "[I" ∈ zW := zwC (i := 61) zc_1 rfl rfl
theorem kw_138 : Cond.fieldLink RX11 181 "AlreadyJudged$Court" "claimFact" "[I" ∈ zW := zwC (i := 64) zc_1 rfl rfl
theorem kw_141 : Cond.fieldLink RX11 184 "AlreadyJudged$Court" "claimPlea" "[I" ∈ zW := zwC (i := 67) zc_1 rfl rfl
theorem kw_854 : Cond.methodLink RX11 172 yX11_isClaim ∈ zW := zwC (i := 60) zc_4 rfl rfl
theorem kw_856 : Cond.instanceMethod yX11_isClaim ∈ zW := zwC (i := 62) zc_4 rfl rfl
theorem kw_857 : Cond.code yX11_isClaim cX11_isClaim 2 (some .boolean) ∈ zW := zwC (i := 63) zc_4 rfl rfl
theorem zh_cX11_ofClaim_0 : zck [42, 27, 182, 0, 172, 154, 0, 5, 2, 172, 28, 170, 0, 0, 0, 69, 0, 0, 0, 0, 0, 0] (zdu 0 cX11_ofClaim.data.toList) = true := by decide +kernel
theorem dX11_ofClaim_0 : decode cX11_ofClaim 0 = .ok (.aload_n 0, 1) := zo_42 zh_cX11_ofClaim_0 0 rfl
theorem dX11_ofClaim_1 : decode cX11_ofClaim 1 = .ok (.iload_n 1, 1) := zo_27 zh_cX11_ofClaim_0 1 rfl
theorem dX11_ofClaim_2 : decode cX11_ofClaim 2 = .ok (.invokevirtual 172, 3) := zo_182 zh_cX11_ofClaim_0 2 rfl
theorem dX11_ofClaim_5 : decode cX11_ofClaim 5 = .ok (.ifCond .ne 5, 3) := zo_p154 zh_cX11_ofClaim_0 5 5 rfl rfl
theorem dX11_ofClaim_8 : decode cX11_ofClaim 8 = .ok (.iconst (-1), 1) := zo_2 zh_cX11_ofClaim_0 8 rfl
theorem dX11_ofClaim_9 : decode cX11_ofClaim 9 = .ok (.ireturn, 1) := zo_172 zh_cX11_ofClaim_0 9 rfl
theorem dX11_ofClaim_10 : decode cX11_ofClaim 10 = .ok (.iload_n 2, 1) := zo_28 zh_cX11_ofClaim_0 10 rfl
theorem dX11_ofClaim_11 : decode cX11_ofClaim 11 = .ok (.tableswitch 69 0 3 #[29, 39, 49, 59], 29) := by decide +kernel
theorem zh_cX11_ofClaim_2 : zck [42, 180, 0, 10, 180, 0, 175, 27, 46, 172, 42, 180, 0, 10, 180, 0, 178, 27, 46, 172, 42, 180] (zdu 40 cX11_ofClaim.data.toList) = true := by decide +kernel
theorem dX11_ofClaim_40 : decode cX11_ofClaim 40 = .ok (.aload_n 0, 1) := zo_42 zh_cX11_ofClaim_2 0 rfl
theorem dX11_ofClaim_41 : decode cX11_ofClaim 41 = .ok (.getfield 10, 3) := zo_180 zh_cX11_ofClaim_2 1 rfl
theorem dX11_ofClaim_44 : decode cX11_ofClaim 44 = .ok (.getfield 175, 3) := zo_180 zh_cX11_ofClaim_2 4 rfl
theorem dX11_ofClaim_47 : decode cX11_ofClaim 47 = .ok (.iload_n 1, 1) := zo_27 zh_cX11_ofClaim_2 7 rfl
theorem dX11_ofClaim_48 : decode cX11_ofClaim 48 = .ok (.iaload, 1) := zo_46 zh_cX11_ofClaim_2 8 rfl
theorem dX11_ofClaim_49 : decode cX11_ofClaim 49 = .ok (.ireturn, 1) := zo_172 zh_cX11_ofClaim_2 9 rfl
theorem dX11_ofClaim_50 : decode cX11_ofClaim 50 = .ok (.aload_n 0, 1) := zo_42 zh_cX11_ofClaim_2 10 rfl
theorem dX11_ofClaim_51 : decode cX11_ofClaim 51 = .ok (.getfield 10, 3) := zo_180 zh_cX11_ofClaim_2 11 rfl
theorem dX11_ofClaim_54 : decode cX11_ofClaim 54 = .ok (.getfield 178, 3) := zo_180 zh_cX11_ofClaim_2 14 rfl
theorem dX11_ofClaim_57 : decode cX11_ofClaim 57 = .ok (.iload_n 1, 1) := zo_27 zh_cX11_ofClaim_2 17 rfl
theorem dX11_ofClaim_58 : decode cX11_ofClaim 58 = .ok (.iaload, 1) := zo_46 zh_cX11_ofClaim_2 18 rfl
theorem dX11_ofClaim_59 : decode cX11_ofClaim 59 = .ok (.ireturn, 1) := zo_172 zh_cX11_ofClaim_2 19 rfl
theorem zh_cX11_ofClaim_3 : zck [42, 180, 0, 10, 180, 0, 181, 27, 46, 172, 42, 180, 0, 10, 180, 0, 184, 27, 46, 172, 2, 172] (zdu 60 cX11_ofClaim.data.toList) = true := by decide +kernel
theorem dX11_ofClaim_60 : decode cX11_ofClaim 60 = .ok (.aload_n 0, 1) := zo_42 zh_cX11_ofClaim_3 0 rfl
theorem dX11_ofClaim_61 : decode cX11_ofClaim 61 = .ok (.getfield 10, 3) := zo_180 zh_cX11_ofClaim_3 1 rfl
theorem dX11_ofClaim_64 : decode cX11_ofClaim 64 = .ok (.getfield 181, 3) := zo_180 zh_cX11_ofClaim_3 4 rfl
theorem dX11_ofClaim_67 : decode cX11_ofClaim 67 = .ok (.iload_n 1, 1) := zo_27 zh_cX11_ofClaim_3 7 rfl
theorem dX11_ofClaim_68 : decode cX11_ofClaim 68 = .ok (.iaload, 1) := zo_46 zh_cX11_ofClaim_3 8 rfl
theorem dX11_ofClaim_69 : decode cX11_ofClaim 69 = .ok (.ireturn, 1) := zo_172 zh_cX11_ofClaim_3 9 rfl
theorem dX11_ofClaim_70 : decode cX11_ofClaim 70 = .ok (.aload_n 0, 1) := zo_42 zh_cX11_ofClaim_3 10 rfl
theorem dX11_ofClaim_71 : decode cX11_ofClaim 71 = .ok (.getfield 10, 3) := zo_180 zh_cX11_ofClaim_3 11 rfl
theorem dX11_ofClaim_74 : decode cX11_ofClaim 74 = .ok (.getfield 184, 3) := zo_180 zh_cX11_ofClaim_3 14 rfl
theorem dX11_ofClaim_77 : decode cX11_ofClaim 77 = .ok (.iload_n 1, 1) := zo_27 zh_cX11_ofClaim_3 17 rfl
theorem dX11_ofClaim_78 : decode cX11_ofClaim 78 = .ok (.iaload, 1) := zo_46 zh_cX11_ofClaim_3 18 rfl
theorem dX11_ofClaim_79 : decode cX11_ofClaim 79 = .ok (.ireturn, 1) := zo_172 zh_cX11_ofClaim_3 19 rfl
theorem zh_cX11_ofClaim_4 : zck [2, 172] (zdu 80 cX11_ofClaim.data.toList) = true := by decide +kernel
theorem dX11_ofClaim_80 : decode cX11_ofClaim 80 = .ok (.iconst (-1), 1) := zo_2 zh_cX11_ofClaim_4 0 rfl
theorem dX11_ofClaim_81 : decode cX11_ofClaim 81 = .ok (.ireturn, 1) := zo_172 zh_cX11_ofClaim_4 1 rfl
abbrev z_X11_ofClaim : List Cond := .code yX11_ofClaim cX11_ofClaim 3 (some .int) :: zW
abbrev wl_X11_ofClaim (ad : Nat → Nat) (cs : Nat → ClassId)  (court_shoeCount : Int32) (court_claimCount : Int32) (court_suitCount : Int32) (court_claimWho : Nat → Int32) (court_claimAgainst : Nat → Int32) (court_claimFact : Nat → Int32) (court_claimPlea : Nat → Int32) : va_W := [((ad 0), .inr (11, [.ref (ad 4), .ref (ad 15), .ref (ad 23), .ref (ad 25), .ref (ad 26), .ref (ad 28), .ref (ad 34), .ref (ad 39), .ref (ad 1), .ref (ad 2), .ref (ad 3)])), ((ad 4), .inr (2, [.ref (ad 5), .ref (ad 6), .ref (ad 7), .ref (ad 8), .ref (ad 9), .ref (ad 10), .ref (ad 11), .ref (ad 12), .ref (ad 13), .ref (ad 14), .int court_shoeCount, .int court_claimCount, .int court_suitCount])), ((ad 9), .inl (cs 0, 32, .inl court_claimWho)), ((ad 10), .inl (cs 0, 32, .inl court_claimAgainst)), ((ad 11), .inl (cs 0, 32, .inl court_claimFact)), ((ad 12), .inl (cs 0, 32, .inl court_claimPlea))]
def Q_X11_ofClaim (D : va_G) (cs : Nat → ClassId) (ad : Nat → Nat)  (court_shoeCount : Int32) (court_claimCount : Int32) (court_suitCount : Int32) (court_claimWho : Nat → Int32) (court_claimAgainst : Nat → Int32) (court_claimFact : Nat → Int32) (court_claimPlea : Nat → Int32) (A : Nat → Prop) (R : Int32 × Unit) : Array Value → State → Outcome → State → Prop :=
  va_Qi (fun (r : Int32) (u : Unit) => (r, u) = R) (fun (u : Unit) (t : State) => va_P D classes (wl_X11_ofClaim ad cs court_shoeCount court_claimCount court_suitCount court_claimWho court_claimAgainst court_claimFact court_claimPlea) t.heap ∧ va_D A (wl_X11_ofClaim ad cs court_shoeCount court_claimCount court_suitCount court_claimWho court_claimAgainst court_claimFact court_claimPlea)) A
abbrev rm_X11_ofClaim : Room := { frames := 1, cells := 0, slots := 0, locals := 21 }
theorem g_X11_172 : GoodIn zW (wsV RX11 172 RX11 yX11_isClaim z_X11_isClaim) := zGV kw_854 kw_856 kw_5 kw_75 kw_857
theorem hd_X11_isClaim : yX11_isClaim.cls ≠ "java/lang/invoke/MethodHandle" ∧ yX11_isClaim.cls ≠ "java/lang/invoke/VarHandle" ∧ (parseMethodDescriptor yX11_isClaim.desc).map (fun d => d.parameters.length) = some 1 := by decide +kernel
def B_X11_ofClaim_0    (court_shoeCount : Int32) (court_claimCount : Int32) (court_suitCount : Int32) (court_claimWho : Nat → Int32) (court_claimAgainst : Nat → Int32) (court_claimFact : Nat → Int32) (court_claimPlea : Nat → Int32) (x1 : Int32) (x2 : Int32) : Option (Int32 × Unit) :=
  (zk_b2 (f_X11_isClaim x1 court_shoeCount court_claimCount court_suitCount) (fun r_1 u_2 => (if r_1 = 0 then (some ((-1 : Int32), ())) else (if x2 = (0 : Int32) then (if (x1 < 0 ∨ 32 ≤ x1.toNatClampNeg) then none else (some (court_claimWho x1.toNatClampNeg, ()))) else (if x2 = (1 : Int32) then (if (x1 < 0 ∨ 32 ≤ x1.toNatClampNeg) then none else (some (court_claimAgainst x1.toNatClampNeg, ()))) else (if x2 = (2 : Int32) then (if (x1 < 0 ∨ 32 ≤ x1.toNatClampNeg) then none else (some (court_claimFact x1.toNatClampNeg, ()))) else (if x2 = (3 : Int32) then (if (x1 < 0 ∨ 32 ≤ x1.toNatClampNeg) then none else (some (court_claimPlea x1.toNatClampNeg, ()))) else (some ((-1 : Int32), ())))))))))
def f_X11_ofClaim   (x1 : Int32) (x2 : Int32) (court_shoeCount : Int32) (court_claimCount : Int32) (court_suitCount : Int32) (court_claimWho : Nat → Int32) (court_claimAgainst : Nat → Int32) (court_claimFact : Nat → Int32) (court_claimPlea : Nat → Int32) : Option (Int32 × Unit) := B_X11_ofClaim_0   court_shoeCount court_claimCount court_suitCount court_claimWho court_claimAgainst court_claimFact court_claimPlea x1 x2 
set_option maxHeartbeats 4000000 in
set_option maxRecDepth 100000 in
theorem L_X11_ofClaim_0 {p : Program} {l : Launch} {e : Env} {s : State} {m : MethodId} {args : Array Value} {below : List Frame} {meth : Method} {c : Code} {A : Nat → Prop} {D : va_G} {cs : Nat → ClassId} {ad : Nat → Nat} {court_shoeCount : Int32} {court_claimCount : Int32} {court_suitCount : Int32} {court_claimWho : Nat → Int32} {court_claimAgainst : Nat → Int32} {court_claimFact : Nat → Int32} {court_claimPlea : Nat → Int32} {R : Int32 × Unit} (C0 : zC p s m args meth c cX11_ofClaim 3 (some .int) RX11 zW) (hK : va_K D classes (zT cs) s) (hA : ∀ q : Nat, s.heap.size ≤ q → A q) (x1 : Int32) (x2 : Int32) (h : B_X11_ofClaim_0 court_shoeCount court_claimCount court_suitCount court_claimWho court_claimAgainst court_claimFact court_claimPlea x1 x2 = some R) (H : Heap) (locs : List Loc) (ls : Array Slot) (hP : va_P D classes (wl_X11_ofClaim ad cs court_shoeCount court_claimCount court_suitCount court_claimWho court_claimAgainst court_claimFact court_claimPlea) H) (hD : va_D A (wl_X11_ofClaim ad cs court_shoeCount court_claimCount court_suitCount court_claimWho court_claimAgainst court_claimFact court_claimPlea)) (hS : va_S A s.heap H locs) (hl : lv_has ls 3 [(0, .ref (ad 0)), (1, .int x1), (2, .int x2)]) : W p l e rm_X11_ofClaim s m args below meth c H locs 0 0 (MQ below (Q_X11_ofClaim D cs ad court_shoeCount court_claimCount court_suitCount court_claimWho court_claimAgainst court_claimFact court_claimPlea A R) args s 0 0 A) (F0 m 0 ls []) := by
  obtain ⟨hx, hb, hr, hml, hown, ht, hlocks⟩ := id C0
  refine lv_aload_n hx hb dX11_ofClaim_0 rfl (lv_at hl 0 rfl) ?_
  refine lv_iload_n hx hb dX11_ofClaim_1 rfl (lv_at hl 1 rfl) ?_
  obtain ⟨r_1, u_2, hc_3, h⟩ := zk_o2 h
  refine zz_vi (post := (fun r u => (r, u) = (r_1, u_2))) (w1 := fun u => (wl_X11_isClaim ad cs court_shoeCount court_claimCount court_suitCount)) (As := [.int x1]) (rest := []) (c_X11_isClaim l D cs ad  H.size x1 court_shoeCount court_claimCount court_suitCount (r_1, u_2) hc_3) ⟨hx, hb, hml, hown, ht⟩ (cwV 1 ht g_X11_172 rfl rfl rfl ⟨rfl, hd_X11_isClaim⟩ ⟨Nat.le_of_ble_eq_true rfl, Nat.le_of_ble_eq_true rfl⟩) (va_recv hK hP (ci := 11) (q0 := 0) rfl rfl) hP hD hS hK hA [0, 1] rfl rfl [(ad 0), (ad 4)] rfl (fun _ => rfl) rfl hl.1 (Nat.le_of_ble_eq_true rfl) dX11_ofClaim_2 ⟨Nat.zero_le _, Nat.zero_le _⟩ (fun r u H locs hq hP hS => ?_)
  cases hq
  have hP : va_P D classes (wl_X11_ofClaim ad cs court_shoeCount court_claimCount court_suitCount court_claimWho court_claimAgainst court_claimFact court_claimPlea) H := hP
  have hD : va_D A (wl_X11_ofClaim ad cs court_shoeCount court_claimCount court_suitCount court_claimWho court_claimAgainst court_claimFact court_claimPlea) := zDk hD [(ad 0), (ad 4), (ad 9), (ad 10), (ad 11), (ad 12)] rfl rfl
  refine lv_if_ne (tgt := 10) hx hb dX11_ofClaim_5 (by decide) (fun c_4 => ?_) (fun c_4 => ?_)
  · have h := zk_f c_4 h
    refine lv_iload_n hx hb dX11_ofClaim_10 rfl (lv_at hl 2 rfl) ?_
    by_cases c_9 : x2 = (0 : Int32)
    · have h := zk_t c_9 h
      refine lv_tableIn (tgt := 40) hx hb dX11_ofClaim_11 (by rw [c_9]; decide) (by rw [c_9]; decide) (by rw [c_9]; rfl) (by decide) ?_
      refine lv_aload_n hx hb dX11_ofClaim_40 rfl (lv_at hl 0 rfl) ?_
      refine va_get (D := D) (ci := 11) (v := .ref (ad 4)) (C := RX11) (T := TX11) (N := 11) hx hb ht iX11 hown hK hP 0 rfl rfl 0 (by decide) (ht _ kw_696) (fun _ h9 => h9) rfl dX11_ofClaim_41 ?_
      refine va_get (D := D) (ci := 2) (v := .ref (ad 9)) (C := RX2) (T := TX2) (N := 13) hx hb ht iX2 hown hK hP 1 rfl rfl 4 (by decide) (ht _ kw_131) (fun _ h9 => h9) rfl dX11_ofClaim_44 ?_
      refine lv_iload_n hx hb dX11_ofClaim_47 rfl (lv_at hl 1 rfl) ?_
      obtain ⟨g_5, h⟩ := zk_gd h
      refine va_iald hx hb hK hP 2 0 rfl rfl g_5 dX11_ofClaim_48 ?_
      exact W.iret (v := court_claimWho x1.toNatClampNeg) hx hb hr (fun t ht2 hW => ⟨⟨court_claimWho x1.toNatClampNeg, (), rfl, Option.some.inj h, by rw [ht2]; exact hP, hD⟩, hS.F ht2⟩) hS.2.2 dX11_ofClaim_49 hlocks
    · have h := zk_f c_9 h
      by_cases c_10 : x2 = (1 : Int32)
      · have h := zk_t c_10 h
        refine lv_tableIn (tgt := 50) hx hb dX11_ofClaim_11 (by rw [c_10]; decide) (by rw [c_10]; decide) (by rw [c_10]; rfl) (by decide) ?_
        refine lv_aload_n hx hb dX11_ofClaim_50 rfl (lv_at hl 0 rfl) ?_
        refine va_get (D := D) (ci := 11) (v := .ref (ad 4)) (C := RX11) (T := TX11) (N := 11) hx hb ht iX11 hown hK hP 0 rfl rfl 0 (by decide) (ht _ kw_696) (fun _ h9 => h9) rfl dX11_ofClaim_51 ?_
        refine va_get (D := D) (ci := 2) (v := .ref (ad 10)) (C := RX2) (T := TX2) (N := 13) hx hb ht iX2 hown hK hP 1 rfl rfl 5 (by decide) (ht _ kw_135) (fun _ h9 => h9) rfl dX11_ofClaim_54 ?_
        refine lv_iload_n hx hb dX11_ofClaim_57 rfl (lv_at hl 1 rfl) ?_
        obtain ⟨g_6, h⟩ := zk_gd h
        refine va_iald hx hb hK hP 3 0 rfl rfl g_6 dX11_ofClaim_58 ?_
        exact W.iret (v := court_claimAgainst x1.toNatClampNeg) hx hb hr (fun t ht2 hW => ⟨⟨court_claimAgainst x1.toNatClampNeg, (), rfl, Option.some.inj h, by rw [ht2]; exact hP, hD⟩, hS.F ht2⟩) hS.2.2 dX11_ofClaim_59 hlocks
      · have h := zk_f c_10 h
        by_cases c_11 : x2 = (2 : Int32)
        · have h := zk_t c_11 h
          refine lv_tableIn (tgt := 60) hx hb dX11_ofClaim_11 (by rw [c_11]; decide) (by rw [c_11]; decide) (by rw [c_11]; rfl) (by decide) ?_
          refine lv_aload_n hx hb dX11_ofClaim_60 rfl (lv_at hl 0 rfl) ?_
          refine va_get (D := D) (ci := 11) (v := .ref (ad 4)) (C := RX11) (T := TX11) (N := 11) hx hb ht iX11 hown hK hP 0 rfl rfl 0 (by decide) (ht _ kw_696) (fun _ h9 => h9) rfl dX11_ofClaim_61 ?_
          refine va_get (D := D) (ci := 2) (v := .ref (ad 11)) (C := RX2) (T := TX2) (N := 13) hx hb ht iX2 hown hK hP 1 rfl rfl 6 (by decide) (ht _ kw_138) (fun _ h9 => h9) rfl dX11_ofClaim_64 ?_
          refine lv_iload_n hx hb dX11_ofClaim_67 rfl (lv_at hl 1 rfl) ?_
          obtain ⟨g_7, h⟩ := zk_gd h
          refine va_iald hx hb hK hP 4 0 rfl rfl g_7 dX11_ofClaim_68 ?_
          exact W.iret (v := court_claimFact x1.toNatClampNeg) hx hb hr (fun t ht2 hW => ⟨⟨court_claimFact x1.toNatClampNeg, (), rfl, Option.some.inj h, by rw [ht2]; exact hP, hD⟩, hS.F ht2⟩) hS.2.2 dX11_ofClaim_69 hlocks
        · have h := zk_f c_11 h
          by_cases c_12 : x2 = (3 : Int32)
          · have h := zk_t c_12 h
            refine lv_tableIn (tgt := 70) hx hb dX11_ofClaim_11 (by rw [c_12]; decide) (by rw [c_12]; decide) (by rw [c_12]; rfl) (by decide) ?_
            refine lv_aload_n hx hb dX11_ofClaim_70 rfl (lv_at hl 0 rfl) ?_
            refine va_get (D := D) (ci := 11) (v := .ref (ad 4)) (C := RX11) (T := TX11) (N := 11) hx hb ht iX11 hown hK hP 0 rfl rfl 0 (by decide) (ht _ kw_696) (fun _ h9 => h9) rfl dX11_ofClaim_71 ?_
            refine va_get (D := D) (ci := 2) (v := .ref (ad 12)) (C := RX2) (T := TX2) (N := 13) hx hb ht iX2 hown hK hP 1 rfl rfl 7 (by decide) (ht _ kw_141) (fun _ h9 => h9) rfl dX11_ofClaim_74 ?_
            refine lv_iload_n hx hb dX11_ofClaim_77 rfl (lv_at hl 1 rfl) ?_
            obtain ⟨g_8, h⟩ := zk_gd h
            refine va_iald hx hb hK hP 5 0 rfl rfl g_8 dX11_ofClaim_78 ?_
            exact W.iret (v := court_claimPlea x1.toNatClampNeg) hx hb hr (fun t ht2 hW => ⟨⟨court_claimPlea x1.toNatClampNeg, (), rfl, Option.some.inj h, by rw [ht2]; exact hP, hD⟩, hS.F ht2⟩) hS.2.2 dX11_ofClaim_79 hlocks
          · have h := zk_f c_12 h
            refine lv_tableOut (tgt := 80) hx hb dX11_ofClaim_11 (zk_out (lo := 0) (hi := 3) [(0 : Int32), (1 : Int32), (2 : Int32), (3 : Int32)] (by decide +kernel) (List.forall_mem_cons.mpr ⟨c_9, List.forall_mem_cons.mpr ⟨c_10, List.forall_mem_cons.mpr ⟨c_11, List.forall_mem_cons.mpr ⟨c_12, fun _ h => absurd h List.not_mem_nil⟩⟩⟩⟩)) (by decide) ?_
            refine lv_iconst (v := (-1 : Int32)) hx hb dX11_ofClaim_80 (by decide) ?_
            exact W.iret (v := (-1 : Int32)) hx hb hr (fun t ht2 hW => ⟨⟨(-1 : Int32), (), rfl, Option.some.inj h, by rw [ht2]; exact hP, hD⟩, hS.F ht2⟩) hS.2.2 dX11_ofClaim_81 hlocks
  · have h := zk_t c_4 h
    refine lv_iconst (v := (-1 : Int32)) hx hb dX11_ofClaim_8 (by decide) ?_
    exact W.iret (v := (-1 : Int32)) hx hb hr (fun t ht2 hW => ⟨⟨(-1 : Int32), (), rfl, Option.some.inj h, by rw [ht2]; exact hP, hD⟩, hS.F ht2⟩) hS.2.2 dX11_ofClaim_9 hlocks
set_option maxHeartbeats 4000000 in
set_option maxRecDepth 100000 in
theorem c_X11_ofClaim (l : Launch) (D : va_G) (cs : Nat → ClassId) (ad : Nat → Nat) (sz : Nat) (x1 : Int32) (x2 : Int32) (court_shoeCount : Int32) (court_claimCount : Int32) (court_suitCount : Int32) (court_claimWho : Nat → Int32) (court_claimAgainst : Nat → Int32) (court_claimFact : Nat → Int32) (court_claimPlea : Nat → Int32) (R : Int32 × Unit) (h : f_X11_ofClaim   x1 x2 court_shoeCount court_claimCount court_suitCount court_claimWho court_claimAgainst court_claimFact court_claimPlea = some R) : Met l yX11_ofClaim (z_X11_ofClaim) rm_X11_ofClaim (va_Pc [.ref (ad 0), .int x1, .int x2] (zPre D cs (wl_X11_ofClaim ad cs court_shoeCount court_claimCount court_suitCount court_claimWho court_claimAgainst court_claimFact court_claimPlea) sz)) (Q_X11_ofClaim D cs ad court_shoeCount court_claimCount court_suitCount court_claimWho court_claimAgainst court_claimFact court_claimPlea (va_A (wl_X11_ofClaim ad cs court_shoeCount court_claimCount court_suitCount court_claimWho court_claimAgainst court_claimFact court_claimPlea) sz) R) 0 0 (va_A (wl_X11_ofClaim ad cs court_shoeCount court_claimCount court_suitCount court_claimWho court_claimAgainst court_claimFact court_claimPlea) sz) := by
  refine Met.ofW (cc := cX11_ofClaim) (maxL := 3) (ret := (some .int)) (by decide) rfl ?_
  intro p e s m args below meth c s₁ B hml hv
  obtain ⟨rfl, hsz, hP, hK, hD0⟩ := hv
  subst hsz
  have hD := hD0.self (sz := s.heap.size)
  have C0 : zC p s m _ meth c cX11_ofClaim 3 (some .int) RX11 zW := ⟨B.exec, B.bytes, B.returns, hml, findClass_of_methodNamed B.named, fun w hw => atoms_spec (ws := z_X11_ofClaim) B.pre w (List.mem_cons_of_mem _ hw), B.notSynchronized⟩
  have hA : ∀ q : Nat, s.heap.size ≤ q → va_A (wl_X11_ofClaim ad cs court_shoeCount court_claimCount court_suitCount court_claimWho court_claimAgainst court_claimFact court_claimPlea) s.heap.size q := fun q h => Or.inr h
  have hl := lv_entry ([.ref (ad 0), .int x1, .int x2]) (n := 3) (Nat.le_of_ble_eq_true rfl)
  rw [lg_entry_eq]
  generalize (lg_sl ([.ref (ad 0), .int x1, .int x2]) ++ List.replicate (3 - (lg_sl ([.ref (ad 0), .int x1, .int x2])).length) Slot.unset).toArray = ls at hl ⊢
  exact L_X11_ofClaim_0 C0 hK hA   x1 x2  h s.heap [] ls hP hD va_S.rf hl
theorem kw_236 : Cond.fieldLink RX11 98 "AlreadyJudged$Tape" "size" "I" ∈ zW := zwC (i := 162) zc_1 rfl rfl
theorem kw_534 : Cond.instanceMethod yX9_add ∈ zW := zwC (i := 220) zc_2 rfl rfl
theorem kw_535 : Cond.selects RX9 yX9_add yX9_add ∈ zW := zwC (i := 221) zc_2 rfl rfl
theorem kw_536 : Cond.code yX9_add cX9_add 2 none ∈ zW := zwC (i := 222) zc_2 rfl rfl
theorem kw_698 : Cond.fieldLink RX11 28 "AlreadyJudged" "tape" "LAlreadyJudged$Tape;" ∈ zW := zwC (i := 144) zc_3 rfl rfl
theorem kw_862 : Cond.methodLink RX11 187 yX9_add ∈ zW := zwC (i := 68) zc_4 rfl rfl
theorem zh_cX11_feed_0 : zck [27, 4, 161, 0, 8, 27, 7, 164, 0, 5, 2, 172, 42, 180, 0, 28, 180, 0, 98, 27, 96, 16] (zdu 0 cX11_feed.data.toList) = true := by decide +kernel
theorem dX11_feed_0 : decode cX11_feed 0 = .ok (.iload_n 1, 1) := zo_27 zh_cX11_feed_0 0 rfl
theorem dX11_feed_1 : decode cX11_feed 1 = .ok (.iconst 1, 1) := zo_4 zh_cX11_feed_0 1 rfl
theorem dX11_feed_2 : decode cX11_feed 2 = .ok (.if_icmp .lt 8, 3) := zo_p161 zh_cX11_feed_0 2 8 rfl rfl
theorem dX11_feed_5 : decode cX11_feed 5 = .ok (.iload_n 1, 1) := zo_27 zh_cX11_feed_0 5 rfl
theorem dX11_feed_6 : decode cX11_feed 6 = .ok (.iconst 4, 1) := zo_7 zh_cX11_feed_0 6 rfl
theorem dX11_feed_7 : decode cX11_feed 7 = .ok (.if_icmp .le 5, 3) := zo_p164 zh_cX11_feed_0 7 5 rfl rfl
theorem dX11_feed_10 : decode cX11_feed 10 = .ok (.iconst (-1), 1) := zo_2 zh_cX11_feed_0 10 rfl
theorem dX11_feed_11 : decode cX11_feed 11 = .ok (.ireturn, 1) := zo_172 zh_cX11_feed_0 11 rfl
theorem dX11_feed_12 : decode cX11_feed 12 = .ok (.aload_n 0, 1) := zo_42 zh_cX11_feed_0 12 rfl
theorem dX11_feed_13 : decode cX11_feed 13 = .ok (.getfield 28, 3) := zo_180 zh_cX11_feed_0 13 rfl
theorem dX11_feed_16 : decode cX11_feed 16 = .ok (.getfield 98, 3) := zo_180 zh_cX11_feed_0 16 rfl
theorem dX11_feed_19 : decode cX11_feed 19 = .ok (.iload_n 1, 1) := zo_27 zh_cX11_feed_0 19 rfl
theorem zh_cX11_feed_1 : zck [96, 16, 120, 164, 0, 6, 16, 253, 172, 3, 62, 29, 27, 162, 0, 26, 42, 180, 0, 28, 28, 16] (zdu 20 cX11_feed.data.toList) = true := by decide +kernel
theorem dX11_feed_20 : decode cX11_feed 20 = .ok (.iadd, 1) := zo_96 zh_cX11_feed_1 0 rfl
theorem dX11_feed_21 : decode cX11_feed 21 = .ok (.bipush 120, 2) := zo_p16 zh_cX11_feed_1 1 120 rfl rfl
theorem dX11_feed_23 : decode cX11_feed 23 = .ok (.if_icmp .le 6, 3) := zo_p164 zh_cX11_feed_1 3 6 rfl rfl
theorem dX11_feed_26 : decode cX11_feed 26 = .ok (.bipush (-3), 2) := zo_n16 zh_cX11_feed_1 6 2 rfl rfl
theorem dX11_feed_28 : decode cX11_feed 28 = .ok (.ireturn, 1) := zo_172 zh_cX11_feed_1 8 rfl
theorem dX11_feed_29 : decode cX11_feed 29 = .ok (.iconst 0, 1) := zo_3 zh_cX11_feed_1 9 rfl
theorem dX11_feed_30 : decode cX11_feed 30 = .ok (.istore_n 3, 1) := zo_62 zh_cX11_feed_1 10 rfl
theorem dX11_feed_31 : decode cX11_feed 31 = .ok (.iload_n 3, 1) := zo_29 zh_cX11_feed_1 11 rfl
theorem dX11_feed_32 : decode cX11_feed 32 = .ok (.iload_n 1, 1) := zo_27 zh_cX11_feed_1 12 rfl
theorem dX11_feed_33 : decode cX11_feed 33 = .ok (.if_icmp .ge 26, 3) := zo_p162 zh_cX11_feed_1 13 26 rfl rfl
theorem dX11_feed_36 : decode cX11_feed 36 = .ok (.aload_n 0, 1) := zo_42 zh_cX11_feed_1 16 rfl
theorem dX11_feed_37 : decode cX11_feed 37 = .ok (.getfield 28, 3) := zo_180 zh_cX11_feed_1 17 rfl
theorem zh_cX11_feed_2 : zck [28, 16, 8, 29, 104, 124, 17, 0, 255, 126, 182, 0, 187, 132, 3, 1, 167, 255, 231, 42, 180, 0] (zdu 40 cX11_feed.data.toList) = true := by decide +kernel
theorem dX11_feed_40 : decode cX11_feed 40 = .ok (.iload_n 2, 1) := zo_28 zh_cX11_feed_2 0 rfl
theorem dX11_feed_41 : decode cX11_feed 41 = .ok (.bipush 8, 2) := zo_p16 zh_cX11_feed_2 1 8 rfl rfl
theorem dX11_feed_43 : decode cX11_feed 43 = .ok (.iload_n 3, 1) := zo_29 zh_cX11_feed_2 3 rfl
theorem dX11_feed_44 : decode cX11_feed 44 = .ok (.imul, 1) := zo_104 zh_cX11_feed_2 4 rfl
theorem dX11_feed_45 : decode cX11_feed 45 = .ok (.iushr, 1) := zo_124 zh_cX11_feed_2 5 rfl
theorem dX11_feed_46 : decode cX11_feed 46 = .ok (.sipush 255, 3) := zo_p17 zh_cX11_feed_2 6 255 rfl rfl
theorem dX11_feed_49 : decode cX11_feed 49 = .ok (.iand, 1) := zo_126 zh_cX11_feed_2 9 rfl
theorem dX11_feed_50 : decode cX11_feed 50 = .ok (.invokevirtual 187, 3) := zo_182 zh_cX11_feed_2 10 rfl
theorem dX11_feed_53 : decode cX11_feed 53 = .ok (.iinc 3 1, 3) := zo_p132 zh_cX11_feed_2 13 1 rfl rfl
theorem dX11_feed_56 : decode cX11_feed 56 = .ok (.goto (-25), 3) := zo_n167 zh_cX11_feed_2 16 24 rfl rfl
theorem dX11_feed_59 : decode cX11_feed 59 = .ok (.aload_n 0, 1) := zo_42 zh_cX11_feed_2 19 rfl
theorem zh_cX11_feed_3 : zck [180, 0, 28, 180, 0, 98, 172] (zdu 60 cX11_feed.data.toList) = true := by decide +kernel
theorem dX11_feed_60 : decode cX11_feed 60 = .ok (.getfield 28, 3) := zo_180 zh_cX11_feed_3 0 rfl
theorem dX11_feed_63 : decode cX11_feed 63 = .ok (.getfield 98, 3) := zo_180 zh_cX11_feed_3 3 rfl
theorem dX11_feed_66 : decode cX11_feed 66 = .ok (.ireturn, 1) := zo_172 zh_cX11_feed_3 6 rfl
abbrev z_X11_feed : List Cond := .code yX11_feed cX11_feed 4 (some .int) :: zW
abbrev wl_X11_feed (ad : Nat → Nat) (cs : Nat → ClassId)  (tape_size : Int32) (tape_bytes : Nat → Int32) : va_W := [((ad 0), .inr (11, [.ref (ad 4), .ref (ad 15), .ref (ad 23), .ref (ad 25), .ref (ad 26), .ref (ad 28), .ref (ad 34), .ref (ad 39), .ref (ad 1), .ref (ad 2), .ref (ad 3)])), ((ad 23), .inr (9, [.ref (ad 24), .int tape_size])), ((ad 24), .inl (cs 0, 120, .inl tape_bytes))]
def Q_X11_feed (D : va_G) (cs : Nat → ClassId) (ad : Nat → Nat)   (A : Nat → Prop) (R : Int32 × Int32 × (Nat → Int32)) : Array Value → State → Outcome → State → Prop :=
  va_Qi (fun (r : Int32) (u : Int32 × (Nat → Int32)) => (r, u) = R) (fun (u : Int32 × (Nat → Int32)) (t : State) => va_P D classes (wl_X11_feed ad cs u.1 u.2) t.heap ∧ va_D A (wl_X11_feed ad cs u.1 u.2)) A
abbrev rm_X11_feed : Room := { frames := 1, cells := 0, slots := 0, locals := 21 }
theorem g_X11_187 : GoodIn zW (wsV RX11 187 RX9 yX9_add z_X9_add) := zGV kw_862 kw_534 kw_535 kw_78 kw_536
theorem hd_X9_add : yX9_add.cls ≠ "java/lang/invoke/MethodHandle" ∧ yX9_add.cls ≠ "java/lang/invoke/VarHandle" ∧ (parseMethodDescriptor yX9_add.desc).map (fun d => d.parameters.length) = some 1 := by decide +kernel
def B_X11_feed_31   (g31 : Int32 → Int32 → Int32 → Int32 → (Nat → Int32) → (Option (Int32 × Int32 × (Nat → Int32))))  (x1 : Int32) (x2 : Int32) (x3 : Int32) (tape_size : Int32) (tape_bytes : Nat → Int32) : Option (Int32 × Int32 × (Nat → Int32)) :=
  (if x1 ≤ x3 then (some (tape_size, tape_size, tape_bytes)) else (zk_b2 (f_X9_add (((x2.toUInt32 >>> (((8 : Int32) * x3).toUInt32 &&& Int32.toUInt32 31)).toInt32) &&& (255 : Int32)) tape_size tape_bytes) (fun u_5 u_6 => (zk_let (x3 + (1 : Int32)) (fun v_8 => (g31 x1 x2 v_8 u_5 u_6))))))
def B_X11_feed_0   (g31 : Int32 → Int32 → Int32 → Int32 → (Nat → Int32) → (Option (Int32 × Int32 × (Nat → Int32))))  (x1 : Int32) (x2 : Int32) (tape_size : Int32) (tape_bytes : Nat → Int32) : Option (Int32 × Int32 × (Nat → Int32)) :=
  (if x1 < (1 : Int32) then (some ((-1 : Int32), tape_size, tape_bytes)) else (if x1 ≤ (4 : Int32) then (if (tape_size + x1) ≤ (120 : Int32) then (g31 x1 x2 (0 : Int32) tape_size tape_bytes) else (some ((-3 : Int32), tape_size, tape_bytes))) else (some ((-1 : Int32), tape_size, tape_bytes))))
def G_X11_feed    (n : Nat) : (Int32 → Int32 → Int32 → Int32 → (Nat → Int32) → (Option (Int32 × Int32 × (Nat → Int32)))) :=
  Nat.rec (motive := fun _ => (Int32 → Int32 → Int32 → Int32 → (Nat → Int32) → (Option (Int32 × Int32 × (Nat → Int32))))) ((fun _ _ _ _ _ => none)) (fun _ ih => (B_X11_feed_31   ih )) n
def f_X11_feed   (n : Nat) (x1 : Int32) (x2 : Int32) (tape_size : Int32) (tape_bytes : Nat → Int32) : Option (Int32 × Int32 × (Nat → Int32)) := B_X11_feed_0   ((G_X11_feed    n))  x1 x2 tape_size tape_bytes
set_option maxHeartbeats 4000000 in
set_option maxRecDepth 100000 in
theorem L_X11_feed_31 {p : Program} {l : Launch} {e : Env} {s : State} {m : MethodId} {args : Array Value} {below : List Frame} {meth : Method} {c : Code} {A : Nat → Prop} {D : va_G} {cs : Nat → ClassId} {ad : Nat → Nat} {R : Int32 × Int32 × (Nat → Int32)} {g31 : Int32 → Int32 → Int32 → Int32 → (Nat → Int32) → (Option (Int32 × Int32 × (Nat → Int32)))} (C0 : zC p s m args meth c cX11_feed 4 (some .int) RX11 zW) (hK : va_K D classes (zT cs) s) (hA : ∀ q : Nat, s.heap.size ≤ q → A q) (ih31 : ∀ (x1 : Int32) (x2 : Int32) (x3 : Int32) (tape_size : Int32) (tape_bytes : Nat → Int32) (h : g31 x1 x2 x3 tape_size tape_bytes = some R) (H : Heap) (locs : List Loc) (ls : Array Slot) (hP : va_P D classes (wl_X11_feed ad cs tape_size tape_bytes) H) (hD : va_D A (wl_X11_feed ad cs tape_size tape_bytes)) (hS : va_S A s.heap H locs) (hl : lv_has ls 4 [(0, .ref (ad 0)), (1, .int x1), (2, .int x2), (3, .int x3)]), W p l e rm_X11_feed s m args below meth c H locs 0 0 (MQ below (Q_X11_feed D cs ad  A R) args s 0 0 A) (F0 m 31 ls [])) (x1 : Int32) (x2 : Int32) (x3 : Int32) (tape_size : Int32) (tape_bytes : Nat → Int32) (h : B_X11_feed_31 g31 x1 x2 x3 tape_size tape_bytes = some R) (H : Heap) (locs : List Loc) (ls : Array Slot) (hP : va_P D classes (wl_X11_feed ad cs tape_size tape_bytes) H) (hD : va_D A (wl_X11_feed ad cs tape_size tape_bytes)) (hS : va_S A s.heap H locs) (hl : lv_has ls 4 [(0, .ref (ad 0)), (1, .int x1), (2, .int x2), (3, .int x3)]) : W p l e rm_X11_feed s m args below meth c H locs 0 0 (MQ below (Q_X11_feed D cs ad  A R) args s 0 0 A) (F0 m 31 ls []) := by
  obtain ⟨hx, hb, hr, hml, hown, ht, hlocks⟩ := id C0
  refine lv_iload_n hx hb dX11_feed_31 rfl (lv_at hl 3 rfl) ?_
  refine lv_iload_n hx hb dX11_feed_32 rfl (lv_at hl 1 rfl) ?_
  refine lv_icmp_ge (tgt := 59) hx hb dX11_feed_33 (by decide) (fun c_4 => ?_) (fun c_4 => ?_)
  · have h := zk_t c_4 h
    refine lv_aload_n hx hb dX11_feed_59 rfl (lv_at hl 0 rfl) ?_
    refine va_get (D := D) (ci := 11) (v := .ref (ad 23)) (C := RX11) (T := TX11) (N := 11) hx hb ht iX11 hown hK hP 0 rfl rfl 2 (by decide) (ht _ kw_698) (fun _ h9 => h9) rfl dX11_feed_60 ?_
    refine va_get (D := D) (ci := 9) (v := .int tape_size) (C := RX9) (T := TX9) (N := 2) hx hb ht iX9 hown hK hP 1 rfl rfl 1 (by decide) (ht _ kw_236) (fun _ h9 => h9) rfl dX11_feed_63 ?_
    exact W.iret (v := tape_size) hx hb hr (fun t ht2 hW => ⟨⟨tape_size, (tape_size, tape_bytes), rfl, Option.some.inj h, by rw [ht2]; exact hP, hD⟩, hS.F ht2⟩) hS.2.2 dX11_feed_66 hlocks
  · have h := zk_f c_4 h
    refine lv_aload_n hx hb dX11_feed_36 rfl (lv_at hl 0 rfl) ?_
    refine va_get (D := D) (ci := 11) (v := .ref (ad 23)) (C := RX11) (T := TX11) (N := 11) hx hb ht iX11 hown hK hP 0 rfl rfl 2 (by decide) (ht _ kw_698) (fun _ h9 => h9) rfl dX11_feed_37 ?_
    refine lv_iload_n hx hb dX11_feed_40 rfl (lv_at hl 2 rfl) ?_
    refine lv_bipush (v := (8 : Int32)) hx hb dX11_feed_41 (by decide) ?_
    refine lv_iload_n hx hb dX11_feed_43 rfl (lv_at hl 3 rfl) ?_
    refine lv_imul hx hb dX11_feed_44 ?_
    refine lv_iushr (v := (x2.toUInt32 >>> (((8 : Int32) * x3).toUInt32 &&& Int32.toUInt32 31)).toInt32) hx hb dX11_feed_45 rfl ?_
    refine lv_sipush (v := (255 : Int32)) hx hb dX11_feed_46 (by decide) ?_
    refine lv_iand hx hb dX11_feed_49 ?_
    obtain ⟨u_5, u_6, hc_7, h⟩ := zk_o2 h
    refine zz_vv (post := (fun u => u = (u_5, u_6))) (w1 := fun u => (wl_X9_add ad cs u.1 u.2)) (As := [.int (((x2.toUInt32 >>> (((8 : Int32) * x3).toUInt32 &&& Int32.toUInt32 31)).toInt32) &&& (255 : Int32))]) (rest := []) (c_X9_add l D cs ad  H.size (((x2.toUInt32 >>> (((8 : Int32) * x3).toUInt32 &&& Int32.toUInt32 31)).toInt32) &&& (255 : Int32)) tape_size tape_bytes (u_5, u_6) hc_7) ⟨hx, hb, hml, hown, ht⟩ (cwV 1 ht g_X11_187 rfl rfl rfl ⟨rfl, hd_X9_add⟩ ⟨Nat.le_of_ble_eq_true rfl, Nat.le_of_ble_eq_true rfl⟩) (va_recv hK hP (ci := 9) (q0 := 1) rfl rfl) hP hD hS hK hA [1, 2] rfl rfl [(ad 23), (ad 24)] rfl (fun _ => rfl) rfl hl.1 (Nat.le_of_ble_eq_true rfl) dX11_feed_50 ⟨Nat.zero_le _, Nat.zero_le _⟩ (fun u H locs hq hP hS => ?_)
    cases hq
    have hP : va_P D classes (wl_X11_feed ad cs u_5 u_6) H := hP
    have hD : va_D A (wl_X11_feed ad cs u_5 u_6) := zDk hD [(ad 0), (ad 23), (ad 24)] rfl rfl
    obtain ⟨v_8, ev_8, h⟩ := zk_lt h
    refine lv_iinc (v := v_8) (lv' := [(3, .int v_8), (0, .ref (ad 0)), (1, .int x1), (2, .int x2)]) hx hb dX11_feed_53 hl (k := 3) rfl (by rw [ev_8]; rfl) (by decide) rfl (fun ls hl => ?_)
    refine lv_goto (tgt := 31) hx hb dX11_feed_56 (by decide) ?_
    exact ih31 x1 x2 v_8 u_5 u_6 h H locs ls hP hD hS (lv_sub hl [1, 2, 3, 0] rfl)
set_option maxHeartbeats 4000000 in
set_option maxRecDepth 100000 in
theorem L_X11_feed_0 {p : Program} {l : Launch} {e : Env} {s : State} {m : MethodId} {args : Array Value} {below : List Frame} {meth : Method} {c : Code} {A : Nat → Prop} {D : va_G} {cs : Nat → ClassId} {ad : Nat → Nat} {R : Int32 × Int32 × (Nat → Int32)} {g31 : Int32 → Int32 → Int32 → Int32 → (Nat → Int32) → (Option (Int32 × Int32 × (Nat → Int32)))} (C0 : zC p s m args meth c cX11_feed 4 (some .int) RX11 zW) (hK : va_K D classes (zT cs) s) (hA : ∀ q : Nat, s.heap.size ≤ q → A q) (ih31 : ∀ (x1 : Int32) (x2 : Int32) (x3 : Int32) (tape_size : Int32) (tape_bytes : Nat → Int32) (h : g31 x1 x2 x3 tape_size tape_bytes = some R) (H : Heap) (locs : List Loc) (ls : Array Slot) (hP : va_P D classes (wl_X11_feed ad cs tape_size tape_bytes) H) (hD : va_D A (wl_X11_feed ad cs tape_size tape_bytes)) (hS : va_S A s.heap H locs) (hl : lv_has ls 4 [(0, .ref (ad 0)), (1, .int x1), (2, .int x2), (3, .int x3)]), W p l e rm_X11_feed s m args below meth c H locs 0 0 (MQ below (Q_X11_feed D cs ad  A R) args s 0 0 A) (F0 m 31 ls [])) (x1 : Int32) (x2 : Int32) (tape_size : Int32) (tape_bytes : Nat → Int32) (h : B_X11_feed_0 g31 x1 x2 tape_size tape_bytes = some R) (H : Heap) (locs : List Loc) (ls : Array Slot) (hP : va_P D classes (wl_X11_feed ad cs tape_size tape_bytes) H) (hD : va_D A (wl_X11_feed ad cs tape_size tape_bytes)) (hS : va_S A s.heap H locs) (hl : lv_has ls 4 [(0, .ref (ad 0)), (1, .int x1), (2, .int x2)]) : W p l e rm_X11_feed s m args below meth c H locs 0 0 (MQ below (Q_X11_feed D cs ad  A R) args s 0 0 A) (F0 m 0 ls []) := by
  obtain ⟨hx, hb, hr, hml, hown, ht, hlocks⟩ := id C0
  refine lv_iload_n hx hb dX11_feed_0 rfl (lv_at hl 1 rfl) ?_
  refine lv_iconst (v := (1 : Int32)) hx hb dX11_feed_1 (by decide) ?_
  refine lv_icmp_lt (tgt := 10) hx hb dX11_feed_2 (by decide) (fun c_1 => ?_) (fun c_1 => ?_)
  · have h := zk_t c_1 h
    refine lv_iconst (v := (-1 : Int32)) hx hb dX11_feed_10 (by decide) ?_
    exact W.iret (v := (-1 : Int32)) hx hb hr (fun t ht2 hW => ⟨⟨(-1 : Int32), (tape_size, tape_bytes), rfl, Option.some.inj h, by rw [ht2]; exact hP, hD⟩, hS.F ht2⟩) hS.2.2 dX11_feed_11 hlocks
  · have h := zk_f c_1 h
    refine lv_iload_n hx hb dX11_feed_5 rfl (lv_at hl 1 rfl) ?_
    refine lv_iconst (v := (4 : Int32)) hx hb dX11_feed_6 (by decide) ?_
    refine lv_icmp_le (tgt := 12) hx hb dX11_feed_7 (by decide) (fun c_2 => ?_) (fun c_2 => ?_)
    · have h := zk_t c_2 h
      refine lv_aload_n hx hb dX11_feed_12 rfl (lv_at hl 0 rfl) ?_
      refine va_get (D := D) (ci := 11) (v := .ref (ad 23)) (C := RX11) (T := TX11) (N := 11) hx hb ht iX11 hown hK hP 0 rfl rfl 2 (by decide) (ht _ kw_698) (fun _ h9 => h9) rfl dX11_feed_13 ?_
      refine va_get (D := D) (ci := 9) (v := .int tape_size) (C := RX9) (T := TX9) (N := 2) hx hb ht iX9 hown hK hP 1 rfl rfl 1 (by decide) (ht _ kw_236) (fun _ h9 => h9) rfl dX11_feed_16 ?_
      refine lv_iload_n hx hb dX11_feed_19 rfl (lv_at hl 1 rfl) ?_
      refine lv_iadd hx hb dX11_feed_20 ?_
      refine lv_bipush (v := (120 : Int32)) hx hb dX11_feed_21 (by decide) ?_
      refine lv_icmp_le (tgt := 29) hx hb dX11_feed_23 (by decide) (fun c_3 => ?_) (fun c_3 => ?_)
      · have h := zk_t c_3 h
        refine lv_iconst (v := (0 : Int32)) hx hb dX11_feed_29 (by decide) ?_
        refine lv_istore_n (lv' := [(3, .int (0 : Int32)), (0, .ref (ad 0)), (1, .int x1), (2, .int x2)]) hx hb dX11_feed_30 rfl hl (by decide) rfl (fun ls hl => ?_)
        exact ih31 x1 x2 (0 : Int32) tape_size tape_bytes h H locs ls hP hD hS (lv_sub hl [1, 2, 3, 0] rfl)
      · have h := zk_f c_3 h
        refine lv_bipush (v := (-3 : Int32)) hx hb dX11_feed_26 (by decide) ?_
        exact W.iret (v := (-3 : Int32)) hx hb hr (fun t ht2 hW => ⟨⟨(-3 : Int32), (tape_size, tape_bytes), rfl, Option.some.inj h, by rw [ht2]; exact hP, hD⟩, hS.F ht2⟩) hS.2.2 dX11_feed_28 hlocks
    · have h := zk_f c_2 h
      refine lv_iconst (v := (-1 : Int32)) hx hb dX11_feed_10 (by decide) ?_
      exact W.iret (v := (-1 : Int32)) hx hb hr (fun t ht2 hW => ⟨⟨(-1 : Int32), (tape_size, tape_bytes), rfl, Option.some.inj h, by rw [ht2]; exact hP, hD⟩, hS.F ht2⟩) hS.2.2 dX11_feed_11 hlocks
theorem LG_X11_feed {p : Program} {l : Launch} {e : Env} {s : State} {m : MethodId} {args : Array Value} {below : List Frame} {meth : Method} {c : Code} {A : Nat → Prop} {D : va_G} {cs : Nat → ClassId} {ad : Nat → Nat} {R : Int32 × Int32 × (Nat → Int32)} (C0 : zC p s m args meth c cX11_feed 4 (some .int) RX11 zW) (hK : va_K D classes (zT cs) s) (hA : ∀ q : Nat, s.heap.size ≤ q → A q) : ∀ n : Nat, (∀ (x1 : Int32) (x2 : Int32) (x3 : Int32) (tape_size : Int32) (tape_bytes : Nat → Int32) (h : (G_X11_feed    n) x1 x2 x3 tape_size tape_bytes = some R) (H : Heap) (locs : List Loc) (ls : Array Slot) (hP : va_P D classes (wl_X11_feed ad cs tape_size tape_bytes) H) (hD : va_D A (wl_X11_feed ad cs tape_size tape_bytes)) (hS : va_S A s.heap H locs) (hl : lv_has ls 4 [(0, .ref (ad 0)), (1, .int x1), (2, .int x2), (3, .int x3)]), W p l e rm_X11_feed s m args below meth c H locs 0 0 (MQ below (Q_X11_feed D cs ad  A R) args s 0 0 A) (F0 m 31 ls [])) := by
  intro n
  induction n with
  | zero =>
    refine ?_ <;> (intros; rename_i h _ _ _ _ _ _ _; cases h)
  | succ n ih =>
    exact L_X11_feed_31 C0 hK hA  ih
set_option maxHeartbeats 4000000 in
set_option maxRecDepth 100000 in
theorem c_X11_feed (l : Launch) (D : va_G) (cs : Nat → ClassId) (ad : Nat → Nat) (sz : Nat) (n : Nat) (x1 : Int32) (x2 : Int32) (tape_size : Int32) (tape_bytes : Nat → Int32) (R : Int32 × Int32 × (Nat → Int32)) (h : f_X11_feed   n x1 x2 tape_size tape_bytes = some R) : Met l yX11_feed (z_X11_feed) rm_X11_feed (va_Pc [.ref (ad 0), .int x1, .int x2] (zPre D cs (wl_X11_feed ad cs tape_size tape_bytes) sz)) (Q_X11_feed D cs ad  (va_A (wl_X11_feed ad cs tape_size tape_bytes) sz) R) 0 0 (va_A (wl_X11_feed ad cs tape_size tape_bytes) sz) := by
  refine Met.ofW (cc := cX11_feed) (maxL := 4) (ret := (some .int)) (by decide) rfl ?_
  intro p e s m args below meth c s₁ B hml hv
  obtain ⟨rfl, hsz, hP, hK, hD0⟩ := hv
  subst hsz
  have hD := hD0.self (sz := s.heap.size)
  have C0 : zC p s m _ meth c cX11_feed 4 (some .int) RX11 zW := ⟨B.exec, B.bytes, B.returns, hml, findClass_of_methodNamed B.named, fun w hw => atoms_spec (ws := z_X11_feed) B.pre w (List.mem_cons_of_mem _ hw), B.notSynchronized⟩
  have hA : ∀ q : Nat, s.heap.size ≤ q → va_A (wl_X11_feed ad cs tape_size tape_bytes) s.heap.size q := fun q h => Or.inr h
  have hl := lv_entry ([.ref (ad 0), .int x1, .int x2]) (n := 4) (Nat.le_of_ble_eq_true rfl)
  rw [lg_entry_eq]
  generalize (lg_sl ([.ref (ad 0), .int x1, .int x2]) ++ List.replicate (4 - (lg_sl ([.ref (ad 0), .int x1, .int x2])).length) Slot.unset).toArray = ls at hl ⊢
  exact L_X11_feed_0 C0 hK hA  ((LG_X11_feed C0 hK hA  n)) x1 x2 tape_size tape_bytes h s.heap [] ls hP hD va_S.rf hl
theorem kw_335 : Cond.fieldLink RX11 219 "AlreadyJudged$Suit" "asked" "[I" ∈ zW := zwC (i := 21) zc_2 rfl rfl
theorem kw_340 : Cond.fieldLink RX11 216 "AlreadyJudged$Suit" "askedCount" "I" ∈ zW := zwC (i := 26) zc_2 rfl rfl
theorem kw_939 : Cond.methodLink RX11 207 yX2_suitAt ∈ zW := zwC (i := 145) zc_4 rfl rfl
theorem kw_940 : Cond.methodLink RX11 210 yX7_pointBits ∈ zW := zwC (i := 146) zc_4 rfl rfl
theorem kw_941 : Cond.instanceMethod yX7_pointBits ∈ zW := zwC (i := 147) zc_4 rfl rfl
theorem kw_942 : Cond.selects RX7 yX7_pointBits yX7_pointBits ∈ zW := zwC (i := 148) zc_4 rfl rfl
theorem kw_943 : Cond.code yX7_pointBits cX7_pointBits 2 (some .int) ∈ zW := zwC (i := 149) zc_4 rfl rfl
theorem kw_948 : Cond.methodLink RX11 222 yX7_detail ∈ zW := zwC (i := 154) zc_4 rfl rfl
theorem kw_949 : Cond.instanceMethod yX7_detail ∈ zW := zwC (i := 155) zc_4 rfl rfl
theorem kw_950 : Cond.selects RX7 yX7_detail yX7_detail ∈ zW := zwC (i := 156) zc_4 rfl rfl
theorem kw_951 : Cond.code yX7_detail cX7_detail 2 (some .int) ∈ zW := zwC (i := 157) zc_4 rfl rfl
theorem zh_cX11_ofSuit_0 : zck [42, 180, 0, 10, 27, 182, 0, 207, 78, 45, 199, 0, 5, 2, 172, 28, 16, 50, 161, 0, 22, 28] (zdu 0 cX11_ofSuit.data.toList) = true := by decide +kernel
theorem dX11_ofSuit_0 : decode cX11_ofSuit 0 = .ok (.aload_n 0, 1) := zo_42 zh_cX11_ofSuit_0 0 rfl
theorem dX11_ofSuit_1 : decode cX11_ofSuit 1 = .ok (.getfield 10, 3) := zo_180 zh_cX11_ofSuit_0 1 rfl
theorem dX11_ofSuit_4 : decode cX11_ofSuit 4 = .ok (.iload_n 1, 1) := zo_27 zh_cX11_ofSuit_0 4 rfl
theorem dX11_ofSuit_5 : decode cX11_ofSuit 5 = .ok (.invokevirtual 207, 3) := zo_182 zh_cX11_ofSuit_0 5 rfl
theorem dX11_ofSuit_8 : decode cX11_ofSuit 8 = .ok (.astore_n 3, 1) := zo_78 zh_cX11_ofSuit_0 8 rfl
theorem dX11_ofSuit_9 : decode cX11_ofSuit 9 = .ok (.aload_n 3, 1) := zo_45 zh_cX11_ofSuit_0 9 rfl
theorem dX11_ofSuit_10 : decode cX11_ofSuit 10 = .ok (.ifnonnull 5, 3) := zo_p199 zh_cX11_ofSuit_0 10 5 rfl rfl
theorem dX11_ofSuit_13 : decode cX11_ofSuit 13 = .ok (.iconst (-1), 1) := zo_2 zh_cX11_ofSuit_0 13 rfl
theorem dX11_ofSuit_14 : decode cX11_ofSuit 14 = .ok (.ireturn, 1) := zo_172 zh_cX11_ofSuit_0 14 rfl
theorem dX11_ofSuit_15 : decode cX11_ofSuit 15 = .ok (.iload_n 2, 1) := zo_28 zh_cX11_ofSuit_0 15 rfl
theorem dX11_ofSuit_16 : decode cX11_ofSuit 16 = .ok (.bipush 50, 2) := zo_p16 zh_cX11_ofSuit_0 16 50 rfl rfl
theorem dX11_ofSuit_18 : decode cX11_ofSuit 18 = .ok (.if_icmp .lt 22, 3) := zo_p161 zh_cX11_ofSuit_0 18 22 rfl rfl
theorem zh_cX11_ofSuit_1 : zck [22, 28, 16, 82, 162, 0, 14, 45, 28, 16, 50, 100, 182, 0, 210, 167, 0, 4, 2, 172, 28, 16] (zdu 20 cX11_ofSuit.data.toList) = true := by decide +kernel
theorem dX11_ofSuit_21 : decode cX11_ofSuit 21 = .ok (.iload_n 2, 1) := zo_28 zh_cX11_ofSuit_1 1 rfl
theorem dX11_ofSuit_22 : decode cX11_ofSuit 22 = .ok (.bipush 82, 2) := zo_p16 zh_cX11_ofSuit_1 2 82 rfl rfl
theorem dX11_ofSuit_24 : decode cX11_ofSuit 24 = .ok (.if_icmp .ge 14, 3) := zo_p162 zh_cX11_ofSuit_1 4 14 rfl rfl
theorem dX11_ofSuit_27 : decode cX11_ofSuit 27 = .ok (.aload_n 3, 1) := zo_45 zh_cX11_ofSuit_1 7 rfl
theorem dX11_ofSuit_28 : decode cX11_ofSuit 28 = .ok (.iload_n 2, 1) := zo_28 zh_cX11_ofSuit_1 8 rfl
theorem dX11_ofSuit_29 : decode cX11_ofSuit 29 = .ok (.bipush 50, 2) := zo_p16 zh_cX11_ofSuit_1 9 50 rfl rfl
theorem dX11_ofSuit_31 : decode cX11_ofSuit 31 = .ok (.isub, 1) := zo_100 zh_cX11_ofSuit_1 11 rfl
theorem dX11_ofSuit_32 : decode cX11_ofSuit 32 = .ok (.invokevirtual 210, 3) := zo_182 zh_cX11_ofSuit_1 12 rfl
theorem dX11_ofSuit_35 : decode cX11_ofSuit 35 = .ok (.goto 4, 3) := zo_p167 zh_cX11_ofSuit_1 15 4 rfl rfl
theorem dX11_ofSuit_38 : decode cX11_ofSuit 38 = .ok (.iconst (-1), 1) := zo_2 zh_cX11_ofSuit_1 18 rfl
theorem dX11_ofSuit_39 : decode cX11_ofSuit 39 = .ok (.ireturn, 1) := zo_172 zh_cX11_ofSuit_1 19 rfl
theorem zh_cX11_ofSuit_2 : zck [28, 16, 10, 161, 0, 28, 28, 16, 10, 100, 45, 180, 0, 216, 162, 0, 15, 45, 180, 0, 219, 28] (zdu 40 cX11_ofSuit.data.toList) = true := by decide +kernel
theorem dX11_ofSuit_40 : decode cX11_ofSuit 40 = .ok (.iload_n 2, 1) := zo_28 zh_cX11_ofSuit_2 0 rfl
theorem dX11_ofSuit_41 : decode cX11_ofSuit 41 = .ok (.bipush 10, 2) := zo_p16 zh_cX11_ofSuit_2 1 10 rfl rfl
theorem dX11_ofSuit_43 : decode cX11_ofSuit 43 = .ok (.if_icmp .lt 28, 3) := zo_p161 zh_cX11_ofSuit_2 3 28 rfl rfl
theorem dX11_ofSuit_46 : decode cX11_ofSuit 46 = .ok (.iload_n 2, 1) := zo_28 zh_cX11_ofSuit_2 6 rfl
theorem dX11_ofSuit_47 : decode cX11_ofSuit 47 = .ok (.bipush 10, 2) := zo_p16 zh_cX11_ofSuit_2 7 10 rfl rfl
theorem dX11_ofSuit_49 : decode cX11_ofSuit 49 = .ok (.isub, 1) := zo_100 zh_cX11_ofSuit_2 9 rfl
theorem dX11_ofSuit_50 : decode cX11_ofSuit 50 = .ok (.aload_n 3, 1) := zo_45 zh_cX11_ofSuit_2 10 rfl
theorem dX11_ofSuit_51 : decode cX11_ofSuit 51 = .ok (.getfield 216, 3) := zo_180 zh_cX11_ofSuit_2 11 rfl
theorem dX11_ofSuit_54 : decode cX11_ofSuit 54 = .ok (.if_icmp .ge 15, 3) := zo_p162 zh_cX11_ofSuit_2 14 15 rfl rfl
theorem dX11_ofSuit_57 : decode cX11_ofSuit 57 = .ok (.aload_n 3, 1) := zo_45 zh_cX11_ofSuit_2 17 rfl
theorem dX11_ofSuit_58 : decode cX11_ofSuit 58 = .ok (.getfield 219, 3) := zo_180 zh_cX11_ofSuit_2 18 rfl
theorem zh_cX11_ofSuit_3 : zck [219, 28, 16, 10, 100, 46, 167, 0, 4, 2, 172, 45, 28, 182, 0, 222, 172] (zdu 60 cX11_ofSuit.data.toList) = true := by decide +kernel
theorem dX11_ofSuit_61 : decode cX11_ofSuit 61 = .ok (.iload_n 2, 1) := zo_28 zh_cX11_ofSuit_3 1 rfl
theorem dX11_ofSuit_62 : decode cX11_ofSuit 62 = .ok (.bipush 10, 2) := zo_p16 zh_cX11_ofSuit_3 2 10 rfl rfl
theorem dX11_ofSuit_64 : decode cX11_ofSuit 64 = .ok (.isub, 1) := zo_100 zh_cX11_ofSuit_3 4 rfl
theorem dX11_ofSuit_65 : decode cX11_ofSuit 65 = .ok (.iaload, 1) := zo_46 zh_cX11_ofSuit_3 5 rfl
theorem dX11_ofSuit_66 : decode cX11_ofSuit 66 = .ok (.goto 4, 3) := zo_p167 zh_cX11_ofSuit_3 6 4 rfl rfl
theorem dX11_ofSuit_69 : decode cX11_ofSuit 69 = .ok (.iconst (-1), 1) := zo_2 zh_cX11_ofSuit_3 9 rfl
theorem dX11_ofSuit_70 : decode cX11_ofSuit 70 = .ok (.ireturn, 1) := zo_172 zh_cX11_ofSuit_3 10 rfl
theorem dX11_ofSuit_71 : decode cX11_ofSuit 71 = .ok (.aload_n 3, 1) := zo_45 zh_cX11_ofSuit_3 11 rfl
theorem dX11_ofSuit_72 : decode cX11_ofSuit 72 = .ok (.iload_n 2, 1) := zo_28 zh_cX11_ofSuit_3 12 rfl
theorem dX11_ofSuit_73 : decode cX11_ofSuit 73 = .ok (.invokevirtual 222, 3) := zo_182 zh_cX11_ofSuit_3 13 rfl
theorem dX11_ofSuit_76 : decode cX11_ofSuit 76 = .ok (.ireturn, 1) := zo_172 zh_cX11_ofSuit_3 16 rfl
abbrev z_X11_ofSuit : List Cond := .code yX11_ofSuit cX11_ofSuit 4 (some .int) :: zW
abbrev wx_X11_ofSuit (ad : Nat → Nat) (cs : Nat → ClassId) (PL : va_W) (S_a : Nat → Nat) (S_b : Nat → Nat) (court_shoeCount : Int32) (court_claimCount : Int32) (court_suitCount : Int32) (court_suits : Nat → Option Nat) (S_who : Nat → Int32) (S_against : Nat → Int32) (S_kind : Nat → Int32) (S_won : Nat → Int32) (S_day : Nat → Int32) (S_land : Nat → Int32) (S_undoneFrom : Nat → Int32) (S_asked : Nat → Nat → Int32) (S_askedCount : Nat → Int32) (S_askedBits : Nat → Int32) (S_first : Nat → Int32) (S_foundSo : Nat → Int32) (S_foundNot : Nat → Int32) (S_fought : Nat → Int32) (S_needed : Nat → Int32) : va_W := [((ad 0), .inr (11, [.ref (ad 4), .ref (ad 15), .ref (ad 23), .ref (ad 25), .ref (ad 26), .ref (ad 28), .ref (ad 34), .ref (ad 39), .ref (ad 1), .ref (ad 2), .ref (ad 3)])), ((ad 4), .inr (2, [.ref (ad 5), .ref (ad 6), .ref (ad 7), .ref (ad 8), .ref (ad 9), .ref (ad 10), .ref (ad 11), .ref (ad 12), .ref (ad 13), .ref (ad 14), .int court_shoeCount, .int court_claimCount, .int court_suitCount])), ((ad 13), .inl (cs 5, 40, .inr (.inr (.inr (.inr court_suits)))))]
abbrev wl_X11_ofSuit (ad : Nat → Nat) (cs : Nat → ClassId) (PL : va_W) (S_a : Nat → Nat) (S_b : Nat → Nat) (court_shoeCount : Int32) (court_claimCount : Int32) (court_suitCount : Int32) (court_suits : Nat → Option Nat) (S_who : Nat → Int32) (S_against : Nat → Int32) (S_kind : Nat → Int32) (S_won : Nat → Int32) (S_day : Nat → Int32) (S_land : Nat → Int32) (S_undoneFrom : Nat → Int32) (S_asked : Nat → Nat → Int32) (S_askedCount : Nat → Int32) (S_askedBits : Nat → Int32) (S_first : Nat → Int32) (S_foundSo : Nat → Int32) (S_foundNot : Nat → Int32) (S_fought : Nat → Int32) (S_needed : Nat → Int32) : va_W := wx_X11_ofSuit ad cs PL S_a S_b court_shoeCount court_claimCount court_suitCount court_suits S_who S_against S_kind S_won S_day S_land S_undoneFrom S_asked S_askedCount S_askedBits S_first S_foundSo S_foundNot S_fought S_needed ++ PL
def Q_X11_ofSuit (D : va_G) (cs : Nat → ClassId) (ad : Nat → Nat) (PL : va_W) (S_a : Nat → Nat) (S_b : Nat → Nat) (court_shoeCount : Int32) (court_claimCount : Int32) (court_suitCount : Int32) (court_suits : Nat → Option Nat) (S_who : Nat → Int32) (S_against : Nat → Int32) (S_kind : Nat → Int32) (S_won : Nat → Int32) (S_day : Nat → Int32) (S_land : Nat → Int32) (S_undoneFrom : Nat → Int32) (S_asked : Nat → Nat → Int32) (S_askedCount : Nat → Int32) (S_askedBits : Nat → Int32) (S_first : Nat → Int32) (S_foundSo : Nat → Int32) (S_foundNot : Nat → Int32) (S_fought : Nat → Int32) (S_needed : Nat → Int32) (A : Nat → Prop) (R : Int32 × Unit) : Array Value → State → Outcome → State → Prop :=
  va_Qi (fun (r : Int32) (u : Unit) => (r, u) = R) (fun (u : Unit) (t : State) => va_P D classes (wl_X11_ofSuit ad cs PL S_a S_b court_shoeCount court_claimCount court_suitCount court_suits S_who S_against S_kind S_won S_day S_land S_undoneFrom S_asked S_askedCount S_askedBits S_first S_foundSo S_foundNot S_fought S_needed) t.heap ∧ va_D A (wl_X11_ofSuit ad cs PL S_a S_b court_shoeCount court_claimCount court_suitCount court_suits S_who S_against S_kind S_won S_day S_land S_undoneFrom S_asked S_askedCount S_askedBits S_first S_foundSo S_foundNot S_fought S_needed)) A
abbrev rm_X11_ofSuit : Room := { frames := 2, cells := 0, slots := 0, locals := 42 }
theorem g_X11_207 : GoodIn zW (wsV RX11 207 RX2 yX2_suitAt z_X2_suitAt) := zGV kw_939 kw_787 kw_788 kw_76 kw_789
theorem g_X11_210 : GoodIn zW (wsV RX11 210 RX7 yX7_pointBits z_X7_pointBits) := zGV kw_940 kw_941 kw_942 kw_82 kw_943
theorem g_X11_222 : GoodIn zW (wsV RX11 222 RX7 yX7_detail z_X7_detail) := zGV kw_948 kw_949 kw_950 kw_82 kw_951
theorem hd_X7_detail : yX7_detail.cls ≠ "java/lang/invoke/MethodHandle" ∧ yX7_detail.cls ≠ "java/lang/invoke/VarHandle" ∧ (parseMethodDescriptor yX7_detail.desc).map (fun d => d.parameters.length) = some 1 := by decide +kernel
theorem hd_X7_pointBits : yX7_pointBits.cls ≠ "java/lang/invoke/MethodHandle" ∧ yX7_pointBits.cls ≠ "java/lang/invoke/VarHandle" ∧ (parseMethodDescriptor yX7_pointBits.desc).map (fun d => d.parameters.length) = some 1 := by decide +kernel
def B_X11_ofSuit_0    (court_shoeCount : Int32) (court_claimCount : Int32) (court_suitCount : Int32) (court_suits : Nat → Option Nat) (S_who : Nat → Int32) (S_against : Nat → Int32) (S_kind : Nat → Int32) (S_won : Nat → Int32) (S_day : Nat → Int32) (S_land : Nat → Int32) (S_undoneFrom : Nat → Int32) (S_asked : Nat → Nat → Int32) (S_askedCount : Nat → Int32) (S_askedBits : Nat → Int32) (S_first : Nat → Int32) (S_foundSo : Nat → Int32) (S_foundNot : Nat → Int32) (S_fought : Nat → Int32) (S_needed : Nat → Int32) (x1 : Int32) (x2 : Int32) : Option (Int32 × Unit) :=
  (zk_b2 (f_X2_suitAt x1 court_shoeCount court_claimCount court_suitCount court_suits S_who S_against S_kind S_won S_day S_land S_undoneFrom S_asked S_askedCount S_askedBits S_first S_foundSo S_foundNot S_fought S_needed) (fun r_1 u_2 => (if r_1 < 0 then (some ((-1 : Int32), ())) else (if x2 < (50 : Int32) then (if x2 < (10 : Int32) then (if (r_1 < 0 ∨ court_suitCount ≤ r_1) then none else (zk_b2 (f_X7_detail x2 (S_who r_1.toNatClampNeg) (S_against r_1.toNatClampNeg) (S_kind r_1.toNatClampNeg) (S_won r_1.toNatClampNeg) (S_day r_1.toNatClampNeg) (S_land r_1.toNatClampNeg) (S_undoneFrom r_1.toNatClampNeg) (S_askedCount r_1.toNatClampNeg) (S_askedBits r_1.toNatClampNeg) (S_first r_1.toNatClampNeg) (S_foundSo r_1.toNatClampNeg) (S_foundNot r_1.toNatClampNeg) (S_fought r_1.toNatClampNeg) (S_needed r_1.toNatClampNeg)) (fun r_11 u_12 => (some (r_11, ()))))) else (if (r_1 < 0 ∨ court_suitCount ≤ r_1) then none else (if (S_askedCount r_1.toNatClampNeg) ≤ (x2 - (10 : Int32)) then (some ((-1 : Int32), ())) else (if (r_1 < 0 ∨ court_suitCount ≤ r_1) then none else (if ((x2 - (10 : Int32)) < 0 ∨ 32 ≤ (x2 - (10 : Int32)).toNatClampNeg) then none else (if (r_1 < 0 ∨ court_suitCount ≤ r_1) then none else (some (S_asked r_1.toNatClampNeg (x2 - (10 : Int32)).toNatClampNeg, ())))))))) else (if (82 : Int32) ≤ x2 then (some ((-1 : Int32), ())) else (if (r_1 < 0 ∨ court_suitCount ≤ r_1) then none else (zk_b2 (f_X7_pointBits (x2 - (50 : Int32)) (S_who r_1.toNatClampNeg) (S_against r_1.toNatClampNeg) (S_kind r_1.toNatClampNeg) (S_won r_1.toNatClampNeg) (S_day r_1.toNatClampNeg) (S_land r_1.toNatClampNeg) (S_undoneFrom r_1.toNatClampNeg) (S_askedCount r_1.toNatClampNeg) (S_askedBits r_1.toNatClampNeg) (S_first r_1.toNatClampNeg) (S_foundSo r_1.toNatClampNeg) (S_foundNot r_1.toNatClampNeg) (S_fought r_1.toNatClampNeg) (S_needed r_1.toNatClampNeg)) (fun r_33 u_34 => (some (r_33, ()))))))))))
def f_X11_ofSuit   (x1 : Int32) (x2 : Int32) (court_shoeCount : Int32) (court_claimCount : Int32) (court_suitCount : Int32) (court_suits : Nat → Option Nat) (S_who : Nat → Int32) (S_against : Nat → Int32) (S_kind : Nat → Int32) (S_won : Nat → Int32) (S_day : Nat → Int32) (S_land : Nat → Int32) (S_undoneFrom : Nat → Int32) (S_asked : Nat → Nat → Int32) (S_askedCount : Nat → Int32) (S_askedBits : Nat → Int32) (S_first : Nat → Int32) (S_foundSo : Nat → Int32) (S_foundNot : Nat → Int32) (S_fought : Nat → Int32) (S_needed : Nat → Int32) : Option (Int32 × Unit) := B_X11_ofSuit_0   court_shoeCount court_claimCount court_suitCount court_suits S_who S_against S_kind S_won S_day S_land S_undoneFrom S_asked S_askedCount S_askedBits S_first S_foundSo S_foundNot S_fought S_needed x1 x2 
set_option maxHeartbeats 4000000 in
set_option maxRecDepth 100000 in
theorem L_X11_ofSuit_0 {p : Program} {l : Launch} {e : Env} {s : State} {m : MethodId} {args : Array Value} {below : List Frame} {meth : Method} {c : Code} {A : Nat → Prop} {D : va_G} {cs : Nat → ClassId} {ad : Nat → Nat} {PL : va_W} {S_a : Nat → Nat} {S_b : Nat → Nat} {court_shoeCount : Int32} {court_claimCount : Int32} {court_suitCount : Int32} {court_suits : Nat → Option Nat} {S_who : Nat → Int32} {S_against : Nat → Int32} {S_kind : Nat → Int32} {S_won : Nat → Int32} {S_day : Nat → Int32} {S_land : Nat → Int32} {S_undoneFrom : Nat → Int32} {S_asked : Nat → Nat → Int32} {S_askedCount : Nat → Int32} {S_askedBits : Nat → Int32} {S_first : Nat → Int32} {S_foundSo : Nat → Int32} {S_foundNot : Nat → Int32} {S_fought : Nat → Int32} {S_needed : Nat → Int32} {R : Int32 × Unit} (C0 : zC p s m args meth c cX11_ofSuit 4 (some .int) RX11 zW) (hK : va_K D classes (zT cs) s) (hA : ∀ q : Nat, s.heap.size ≤ q → A q) (hSU : PSu cs PL court_suitCount court_suits S_a S_b S_who S_against S_kind S_won S_day S_land S_undoneFrom S_asked S_askedCount S_askedBits S_first S_foundSo S_foundNot S_fought S_needed) (x1 : Int32) (x2 : Int32) (h : B_X11_ofSuit_0 court_shoeCount court_claimCount court_suitCount court_suits S_who S_against S_kind S_won S_day S_land S_undoneFrom S_asked S_askedCount S_askedBits S_first S_foundSo S_foundNot S_fought S_needed x1 x2 = some R) (H : Heap) (locs : List Loc) (ls : Array Slot) (hP : va_P D classes (wl_X11_ofSuit ad cs PL S_a S_b court_shoeCount court_claimCount court_suitCount court_suits S_who S_against S_kind S_won S_day S_land S_undoneFrom S_asked S_askedCount S_askedBits S_first S_foundSo S_foundNot S_fought S_needed) H) (hD : va_D A (wl_X11_ofSuit ad cs PL S_a S_b court_shoeCount court_claimCount court_suitCount court_suits S_who S_against S_kind S_won S_day S_land S_undoneFrom S_asked S_askedCount S_askedBits S_first S_foundSo S_foundNot S_fought S_needed)) (hS : va_S A s.heap H locs) (hl : lv_has ls 4 [(0, .ref (ad 0)), (1, .int x1), (2, .int x2)]) : W p l e rm_X11_ofSuit s m args below meth c H locs 0 0 (MQ below (Q_X11_ofSuit D cs ad PL S_a S_b court_shoeCount court_claimCount court_suitCount court_suits S_who S_against S_kind S_won S_day S_land S_undoneFrom S_asked S_askedCount S_askedBits S_first S_foundSo S_foundNot S_fought S_needed A R) args s 0 0 A) (F0 m 0 ls []) := by
  obtain ⟨hx, hb, hr, hml, hown, ht, hlocks⟩ := id C0
  refine lv_aload_n hx hb dX11_ofSuit_0 rfl (lv_at hl 0 rfl) ?_
  refine va_get (D := D) (ci := 11) (v := .ref (ad 4)) (C := RX11) (T := TX11) (N := 11) hx hb ht iX11 hown hK hP 0 rfl rfl 0 (by decide) (ht _ kw_696) (fun _ h9 => h9) rfl dX11_ofSuit_1 ?_
  refine lv_iload_n hx hb dX11_ofSuit_4 rfl (lv_at hl 1 rfl) ?_
  obtain ⟨r_1, u_2, hc_3, h⟩ := zk_o2 h
  refine zz_vqP (post := (fun r u => r = (if r_1 < 0 then none else some (S_a r_1.toNatClampNeg)) ∧ u = (u_2))) (w1 := fun u => (wx_X2_suitAt ad cs PL S_a S_b court_shoeCount court_claimCount court_suitCount court_suits S_who S_against S_kind S_won S_day S_land S_undoneFrom S_asked S_askedCount S_askedBits S_first S_foundSo S_foundNot S_fought S_needed)) (PL := PL) (As := [.int x1]) (rest := []) (c_X2_suitAt l D cs ad PL S_a S_b H.size x1 court_shoeCount court_claimCount court_suitCount court_suits S_who S_against S_kind S_won S_day S_land S_undoneFrom S_asked S_askedCount S_askedBits S_first S_foundSo S_foundNot S_fought S_needed hSU (r_1, u_2) hc_3) ⟨hx, hb, hml, hown, ht⟩ (cwV 1 ht g_X11_207 rfl rfl rfl ⟨rfl, hd_X2_suitAt⟩ ⟨Nat.le_of_ble_eq_true rfl, Nat.le_of_ble_eq_true rfl⟩) (va_recv hK hP (ci := 2) (q0 := 1) rfl rfl) hP hD hS hK hA [1, 2] rfl rfl [(ad 4), (ad 13)] rfl (fun _ => rfl) rfl hl.1 (Nat.le_of_ble_eq_true rfl) dX11_ofSuit_5 ⟨Nat.zero_le _, Nat.zero_le _⟩ (fun r u H locs hq hP hS => ?_)
  obtain ⟨hq1, hq2⟩ := hq; cases hq2; subst hq1
  have hP : va_P D classes (wl_X11_ofSuit ad cs PL S_a S_b court_shoeCount court_claimCount court_suitCount court_suits S_who S_against S_kind S_won S_day S_land S_undoneFrom S_asked S_askedCount S_askedBits S_first S_foundSo S_foundNot S_fought S_needed) H := hP
  have hD : va_D A (wl_X11_ofSuit ad cs PL S_a S_b court_shoeCount court_claimCount court_suitCount court_suits S_who S_against S_kind S_won S_day S_land S_undoneFrom S_asked S_askedCount S_askedBits S_first S_foundSo S_foundNot S_fought S_needed) := zDkp hD [(ad 0), (ad 4), (ad 13)] rfl rfl
  by_cases c_4 : r_1 < 0
  · have h := zk_t c_4 h
    refine W.eq (g2 := F0 m 8 ls [.null]) (by rw [if_pos c_4]; rfl) ?_
    refine lv_astore_nN (lv' := [(3, .null), (0, .ref (ad 0)), (1, .int x1), (2, .int x2)]) hx hb dX11_ofSuit_8 rfl hl (by decide) rfl (fun ls hl => ?_)
    refine lv_aload_nN hx hb dX11_ofSuit_9 rfl (lv_at hl 0 rfl) ?_
    refine lv_ifnonnullN hx hb dX11_ofSuit_10 ?_
    refine lv_iconst (v := (-1 : Int32)) hx hb dX11_ofSuit_13 (by decide) ?_
    exact W.iret (v := (-1 : Int32)) hx hb hr (fun t ht2 hW => ⟨⟨(-1 : Int32), (), rfl, Option.some.inj h, by rw [ht2]; exact hP, hD⟩, hS.F ht2⟩) hS.2.2 dX11_ofSuit_14 hlocks
  · have h := zk_f c_4 h
    refine W.eq (g2 := F0 m 8 ls [.ref (S_a r_1.toNatClampNeg)]) (by rw [if_neg c_4]; rfl) ?_
    refine lv_astore_n (lv' := [(3, .ref (S_a r_1.toNatClampNeg)), (0, .ref (ad 0)), (1, .int x1), (2, .int x2)]) hx hb dX11_ofSuit_8 rfl hl (by decide) rfl (fun ls hl => ?_)
    refine lv_aload_n hx hb dX11_ofSuit_9 rfl (lv_at hl 0 rfl) ?_
    refine lv_ifnonnull (tgt := 15) hx hb dX11_ofSuit_10 (by decide) ?_
    refine lv_iload_n hx hb dX11_ofSuit_15 rfl (lv_at hl 3 rfl) ?_
    refine lv_bipush (v := (50 : Int32)) hx hb dX11_ofSuit_16 (by decide) ?_
    refine lv_icmp_lt (tgt := 40) hx hb dX11_ofSuit_18 (by decide) (fun c_5 => ?_) (fun c_5 => ?_)
    · have h := zk_t c_5 h
      refine lv_iload_n hx hb dX11_ofSuit_40 rfl (lv_at hl 3 rfl) ?_
      refine lv_bipush (v := (10 : Int32)) hx hb dX11_ofSuit_41 (by decide) ?_
      refine lv_icmp_lt (tgt := 71) hx hb dX11_ofSuit_43 (by decide) (fun c_6 => ?_) (fun c_6 => ?_)
      · have h := zk_t c_6 h
        refine lv_aload_n hx hb dX11_ofSuit_71 rfl (lv_at hl 0 rfl) ?_
        refine lv_iload_n hx hb dX11_ofSuit_72 rfl (lv_at hl 3 rfl) ?_
        obtain ⟨g_7, h⟩ := zk_gd h
        obtain ⟨hs_8, ⟨_, hj_9⟩, ⟨_, hj_10⟩⟩ := hSU _ (zs_lt2 g_7)
        obtain ⟨r_11, u_12, hc_13, h⟩ := zk_o2 h
        refine zk_viM (post := (fun r u => (r, u) = (r_11, u_12))) (As := [.int x2]) (rest := []) (c_X7_detail l D cs ad (S_a r_1.toNatClampNeg) (S_b r_1.toNatClampNeg) H.size x2 (S_who r_1.toNatClampNeg) (S_against r_1.toNatClampNeg) (S_kind r_1.toNatClampNeg) (S_won r_1.toNatClampNeg) (S_day r_1.toNatClampNeg) (S_land r_1.toNatClampNeg) (S_undoneFrom r_1.toNatClampNeg) (S_askedCount r_1.toNatClampNeg) (S_askedBits r_1.toNatClampNeg) (S_first r_1.toNatClampNeg) (S_foundSo r_1.toNatClampNeg) (S_foundNot r_1.toNatClampNeg) (S_fought r_1.toNatClampNeg) (S_needed r_1.toNatClampNeg) (r_11, u_12) hc_13) ⟨hx, hb, hml, hown, ht⟩ (cwV 1 ht g_X11_222 rfl rfl rfl ⟨rfl, hd_X7_detail⟩ ⟨Nat.le_of_ble_eq_true rfl, Nat.le_of_ble_eq_true rfl⟩) (va_recv hK hP (ci := 7) (q0 := _) rfl (zPm hj_9 rfl)) hP hD hS hK hA _ (zPm hj_9 rfl) rfl hl.1 (Nat.le_of_ble_eq_true rfl) dX11_ofSuit_73 ⟨Nat.zero_le _, Nat.zero_le _⟩ (fun r u H locs hq hP hD hS => ?_)
        cases hq
        have hP : va_P D classes (wl_X11_ofSuit ad cs PL S_a S_b court_shoeCount court_claimCount court_suitCount court_suits S_who S_against S_kind S_won S_day S_land S_undoneFrom S_asked S_askedCount S_askedBits S_first S_foundSo S_foundNot S_fought S_needed) H := hP
        have hD : va_D A (wl_X11_ofSuit ad cs PL S_a S_b court_shoeCount court_claimCount court_suitCount court_suits S_who S_against S_kind S_won S_day S_land S_undoneFrom S_asked S_askedCount S_askedBits S_first S_foundSo S_foundNot S_fought S_needed) := hD
        exact W.iret (v := r_11) hx hb hr (fun t ht2 hW => ⟨⟨r_11, (), rfl, Option.some.inj h, by rw [ht2]; exact hP, hD⟩, hS.F ht2⟩) hS.2.2 dX11_ofSuit_76 hlocks
      · have h := zk_f c_6 h
        refine lv_iload_n hx hb dX11_ofSuit_46 rfl (lv_at hl 3 rfl) ?_
        refine lv_bipush (v := (10 : Int32)) hx hb dX11_ofSuit_47 (by decide) ?_
        refine lv_isub hx hb dX11_ofSuit_49 ?_
        refine lv_aload_n hx hb dX11_ofSuit_50 rfl (lv_at hl 0 rfl) ?_
        obtain ⟨g_14, h⟩ := zk_gd h
        obtain ⟨hs_15, ⟨_, hj_16⟩, ⟨_, hj_17⟩⟩ := hSU _ (zs_lt2 g_14)
        refine va_get (D := D) (ci := 7) (v := .int (S_askedCount r_1.toNatClampNeg)) (C := RX7) (T := TX7) (N := 15) hx hb ht iX7 hown hK hP _ (zPm hj_16 rfl) rfl 8 (by decide) (ht _ kw_340) (fun _ h9 => h9) rfl dX11_ofSuit_51 ?_
        refine lv_icmp_ge (tgt := 69) hx hb dX11_ofSuit_54 (by decide) (fun c_18 => ?_) (fun c_18 => ?_)
        · have h := zk_t c_18 h
          refine lv_iconst (v := (-1 : Int32)) hx hb dX11_ofSuit_69 (by decide) ?_
          exact W.iret (v := (-1 : Int32)) hx hb hr (fun t ht2 hW => ⟨⟨(-1 : Int32), (), rfl, Option.some.inj h, by rw [ht2]; exact hP, hD⟩, hS.F ht2⟩) hS.2.2 dX11_ofSuit_70 hlocks
        · have h := zk_f c_18 h
          refine lv_aload_n hx hb dX11_ofSuit_57 rfl (lv_at hl 0 rfl) ?_
          obtain ⟨g_19, h⟩ := zk_gd h
          obtain ⟨hs_20, ⟨_, hj_21⟩, ⟨_, hj_22⟩⟩ := hSU _ (zs_lt2 g_19)
          refine va_get (D := D) (ci := 7) (v := .ref (S_b r_1.toNatClampNeg)) (C := RX7) (T := TX7) (N := 15) hx hb ht iX7 hown hK hP _ (zPm hj_21 rfl) rfl 7 (by decide) (ht _ kw_335) (fun _ h9 => h9) rfl dX11_ofSuit_58 ?_
          refine lv_iload_n hx hb dX11_ofSuit_61 rfl (lv_at hl 3 rfl) ?_
          refine lv_bipush (v := (10 : Int32)) hx hb dX11_ofSuit_62 (by decide) ?_
          refine lv_isub hx hb dX11_ofSuit_64 ?_
          obtain ⟨g_23, h⟩ := zk_gd h
          obtain ⟨g_24, h⟩ := zk_gd h
          obtain ⟨hs_25, ⟨_, hj_26⟩, ⟨_, hj_27⟩⟩ := hSU _ (zs_lt2 g_24)
          refine va_iald hx hb hK hP _ 0 (zPm hj_27 rfl) rfl g_23 dX11_ofSuit_65 ?_
          refine lv_goto (tgt := 70) hx hb dX11_ofSuit_66 (by decide) ?_
          exact W.iret (v := S_asked r_1.toNatClampNeg (x2 - (10 : Int32)).toNatClampNeg) hx hb hr (fun t ht2 hW => ⟨⟨S_asked r_1.toNatClampNeg (x2 - (10 : Int32)).toNatClampNeg, (), rfl, Option.some.inj h, by rw [ht2]; exact hP, hD⟩, hS.F ht2⟩) hS.2.2 dX11_ofSuit_70 hlocks
    · have h := zk_f c_5 h
      refine lv_iload_n hx hb dX11_ofSuit_21 rfl (lv_at hl 3 rfl) ?_
      refine lv_bipush (v := (82 : Int32)) hx hb dX11_ofSuit_22 (by decide) ?_
      refine lv_icmp_ge (tgt := 38) hx hb dX11_ofSuit_24 (by decide) (fun c_28 => ?_) (fun c_28 => ?_)
      · have h := zk_t c_28 h
        refine lv_iconst (v := (-1 : Int32)) hx hb dX11_ofSuit_38 (by decide) ?_
        exact W.iret (v := (-1 : Int32)) hx hb hr (fun t ht2 hW => ⟨⟨(-1 : Int32), (), rfl, Option.some.inj h, by rw [ht2]; exact hP, hD⟩, hS.F ht2⟩) hS.2.2 dX11_ofSuit_39 hlocks
      · have h := zk_f c_28 h
        refine lv_aload_n hx hb dX11_ofSuit_27 rfl (lv_at hl 0 rfl) ?_
        refine lv_iload_n hx hb dX11_ofSuit_28 rfl (lv_at hl 3 rfl) ?_
        refine lv_bipush (v := (50 : Int32)) hx hb dX11_ofSuit_29 (by decide) ?_
        refine lv_isub hx hb dX11_ofSuit_31 ?_
        obtain ⟨g_29, h⟩ := zk_gd h
        obtain ⟨hs_30, ⟨_, hj_31⟩, ⟨_, hj_32⟩⟩ := hSU _ (zs_lt2 g_29)
        obtain ⟨r_33, u_34, hc_35, h⟩ := zk_o2 h
        refine zk_viM (post := (fun r u => (r, u) = (r_33, u_34))) (As := [.int (x2 - (50 : Int32))]) (rest := []) (c_X7_pointBits l D cs ad (S_a r_1.toNatClampNeg) (S_b r_1.toNatClampNeg) H.size (x2 - (50 : Int32)) (S_who r_1.toNatClampNeg) (S_against r_1.toNatClampNeg) (S_kind r_1.toNatClampNeg) (S_won r_1.toNatClampNeg) (S_day r_1.toNatClampNeg) (S_land r_1.toNatClampNeg) (S_undoneFrom r_1.toNatClampNeg) (S_askedCount r_1.toNatClampNeg) (S_askedBits r_1.toNatClampNeg) (S_first r_1.toNatClampNeg) (S_foundSo r_1.toNatClampNeg) (S_foundNot r_1.toNatClampNeg) (S_fought r_1.toNatClampNeg) (S_needed r_1.toNatClampNeg) (r_33, u_34) hc_35) ⟨hx, hb, hml, hown, ht⟩ (cwV 1 ht g_X11_210 rfl rfl rfl ⟨rfl, hd_X7_pointBits⟩ ⟨Nat.le_of_ble_eq_true rfl, Nat.le_of_ble_eq_true rfl⟩) (va_recv hK hP (ci := 7) (q0 := _) rfl (zPm hj_31 rfl)) hP hD hS hK hA _ (zPm hj_31 rfl) rfl hl.1 (Nat.le_of_ble_eq_true rfl) dX11_ofSuit_32 ⟨Nat.zero_le _, Nat.zero_le _⟩ (fun r u H locs hq hP hD hS => ?_)
        cases hq
        have hP : va_P D classes (wl_X11_ofSuit ad cs PL S_a S_b court_shoeCount court_claimCount court_suitCount court_suits S_who S_against S_kind S_won S_day S_land S_undoneFrom S_asked S_askedCount S_askedBits S_first S_foundSo S_foundNot S_fought S_needed) H := hP
        have hD : va_D A (wl_X11_ofSuit ad cs PL S_a S_b court_shoeCount court_claimCount court_suitCount court_suits S_who S_against S_kind S_won S_day S_land S_undoneFrom S_asked S_askedCount S_askedBits S_first S_foundSo S_foundNot S_fought S_needed) := hD
        refine lv_goto (tgt := 39) hx hb dX11_ofSuit_35 (by decide) ?_
        exact W.iret (v := r_33) hx hb hr (fun t ht2 hW => ⟨⟨r_33, (), rfl, Option.some.inj h, by rw [ht2]; exact hP, hD⟩, hS.F ht2⟩) hS.2.2 dX11_ofSuit_39 hlocks
set_option maxHeartbeats 4000000 in
set_option maxRecDepth 100000 in
theorem c_X11_ofSuit (l : Launch) (D : va_G) (cs : Nat → ClassId) (ad : Nat → Nat) (PL : va_W) (S_a : Nat → Nat) (S_b : Nat → Nat) (sz : Nat) (x1 : Int32) (x2 : Int32) (court_shoeCount : Int32) (court_claimCount : Int32) (court_suitCount : Int32) (court_suits : Nat → Option Nat) (S_who : Nat → Int32) (S_against : Nat → Int32) (S_kind : Nat → Int32) (S_won : Nat → Int32) (S_day : Nat → Int32) (S_land : Nat → Int32) (S_undoneFrom : Nat → Int32) (S_asked : Nat → Nat → Int32) (S_askedCount : Nat → Int32) (S_askedBits : Nat → Int32) (S_first : Nat → Int32) (S_foundSo : Nat → Int32) (S_foundNot : Nat → Int32) (S_fought : Nat → Int32) (S_needed : Nat → Int32) (hSU : PSu cs PL court_suitCount court_suits S_a S_b S_who S_against S_kind S_won S_day S_land S_undoneFrom S_asked S_askedCount S_askedBits S_first S_foundSo S_foundNot S_fought S_needed) (R : Int32 × Unit) (h : f_X11_ofSuit   x1 x2 court_shoeCount court_claimCount court_suitCount court_suits S_who S_against S_kind S_won S_day S_land S_undoneFrom S_asked S_askedCount S_askedBits S_first S_foundSo S_foundNot S_fought S_needed = some R) : Met l yX11_ofSuit (z_X11_ofSuit) rm_X11_ofSuit (va_Pc [.ref (ad 0), .int x1, .int x2] (zPre D cs (wl_X11_ofSuit ad cs PL S_a S_b court_shoeCount court_claimCount court_suitCount court_suits S_who S_against S_kind S_won S_day S_land S_undoneFrom S_asked S_askedCount S_askedBits S_first S_foundSo S_foundNot S_fought S_needed) sz)) (Q_X11_ofSuit D cs ad PL S_a S_b court_shoeCount court_claimCount court_suitCount court_suits S_who S_against S_kind S_won S_day S_land S_undoneFrom S_asked S_askedCount S_askedBits S_first S_foundSo S_foundNot S_fought S_needed (va_A (wl_X11_ofSuit ad cs PL S_a S_b court_shoeCount court_claimCount court_suitCount court_suits S_who S_against S_kind S_won S_day S_land S_undoneFrom S_asked S_askedCount S_askedBits S_first S_foundSo S_foundNot S_fought S_needed) sz) R) 0 0 (va_A (wl_X11_ofSuit ad cs PL S_a S_b court_shoeCount court_claimCount court_suitCount court_suits S_who S_against S_kind S_won S_day S_land S_undoneFrom S_asked S_askedCount S_askedBits S_first S_foundSo S_foundNot S_fought S_needed) sz) := by
  refine Met.ofW (cc := cX11_ofSuit) (maxL := 4) (ret := (some .int)) (by decide) rfl ?_
  intro p e s m args below meth c s₁ B hml hv
  obtain ⟨rfl, hsz, hP, hK, hD0⟩ := hv
  subst hsz
  have hD := hD0.self (sz := s.heap.size)
  have C0 : zC p s m _ meth c cX11_ofSuit 4 (some .int) RX11 zW := ⟨B.exec, B.bytes, B.returns, hml, findClass_of_methodNamed B.named, fun w hw => atoms_spec (ws := z_X11_ofSuit) B.pre w (List.mem_cons_of_mem _ hw), B.notSynchronized⟩
  have hA : ∀ q : Nat, s.heap.size ≤ q → va_A (wl_X11_ofSuit ad cs PL S_a S_b court_shoeCount court_claimCount court_suitCount court_suits S_who S_against S_kind S_won S_day S_land S_undoneFrom S_asked S_askedCount S_askedBits S_first S_foundSo S_foundNot S_fought S_needed) s.heap.size q := fun q h => Or.inr h
  have hl := lv_entry ([.ref (ad 0), .int x1, .int x2]) (n := 4) (Nat.le_of_ble_eq_true rfl)
  rw [lg_entry_eq]
  generalize (lg_sl ([.ref (ad 0), .int x1, .int x2]) ++ List.replicate (4 - (lg_sl ([.ref (ad 0), .int x1, .int x2])).length) Slot.unset).toArray = ls at hl ⊢
  exact L_X11_ofSuit_0 C0 hK hA hSU   x1 x2  h s.heap [] ls hP hD va_S.rf hl
theorem kw_319 : Cond.fieldLink RX11 225 "AlreadyJudged$Suit" "won" "I" ∈ zW := zwC (i := 5) zc_2 rfl rfl
theorem zh_cX11_won_0 : zck [42, 180, 0, 10, 27, 182, 0, 207, 78, 45, 198, 0, 10, 28, 184, 0, 154, 154, 0, 5, 2, 172] (zdu 0 cX11_won.data.toList) = true := by decide +kernel
theorem dX11_won_0 : decode cX11_won 0 = .ok (.aload_n 0, 1) := zo_42 zh_cX11_won_0 0 rfl
theorem dX11_won_1 : decode cX11_won 1 = .ok (.getfield 10, 3) := zo_180 zh_cX11_won_0 1 rfl
theorem dX11_won_4 : decode cX11_won 4 = .ok (.iload_n 1, 1) := zo_27 zh_cX11_won_0 4 rfl
theorem dX11_won_5 : decode cX11_won 5 = .ok (.invokevirtual 207, 3) := zo_182 zh_cX11_won_0 5 rfl
theorem dX11_won_8 : decode cX11_won 8 = .ok (.astore_n 3, 1) := zo_78 zh_cX11_won_0 8 rfl
theorem dX11_won_9 : decode cX11_won 9 = .ok (.aload_n 3, 1) := zo_45 zh_cX11_won_0 9 rfl
theorem dX11_won_10 : decode cX11_won 10 = .ok (.ifnull 10, 3) := zo_p198 zh_cX11_won_0 10 10 rfl rfl
theorem dX11_won_13 : decode cX11_won 13 = .ok (.iload_n 2, 1) := zo_28 zh_cX11_won_0 13 rfl
theorem dX11_won_14 : decode cX11_won 14 = .ok (.invokestatic 154, 3) := zo_184 zh_cX11_won_0 14 rfl
theorem dX11_won_17 : decode cX11_won 17 = .ok (.ifCond .ne 5, 3) := zo_p154 zh_cX11_won_0 17 5 rfl rfl
theorem zh_cX11_won_1 : zck [2, 172, 45, 180, 0, 225, 54, 4, 42, 180, 0, 58, 3, 27, 21, 4, 28, 182, 0, 144, 21, 4] (zdu 20 cX11_won.data.toList) = true := by decide +kernel
theorem dX11_won_20 : decode cX11_won 20 = .ok (.iconst (-1), 1) := zo_2 zh_cX11_won_1 0 rfl
theorem dX11_won_21 : decode cX11_won 21 = .ok (.ireturn, 1) := zo_172 zh_cX11_won_1 1 rfl
theorem dX11_won_22 : decode cX11_won 22 = .ok (.aload_n 3, 1) := zo_45 zh_cX11_won_1 2 rfl
theorem dX11_won_23 : decode cX11_won 23 = .ok (.getfield 225, 3) := zo_180 zh_cX11_won_1 3 rfl
theorem dX11_won_26 : decode cX11_won 26 = .ok (.istore 4, 2) := zo_54 zh_cX11_won_1 6 rfl
theorem dX11_won_28 : decode cX11_won 28 = .ok (.aload_n 0, 1) := zo_42 zh_cX11_won_1 8 rfl
theorem dX11_won_29 : decode cX11_won 29 = .ok (.getfield 58, 3) := zo_180 zh_cX11_won_1 9 rfl
theorem dX11_won_32 : decode cX11_won 32 = .ok (.iconst 0, 1) := zo_3 zh_cX11_won_1 12 rfl
theorem dX11_won_33 : decode cX11_won 33 = .ok (.iload_n 1, 1) := zo_27 zh_cX11_won_1 13 rfl
theorem dX11_won_34 : decode cX11_won 34 = .ok (.iload 4, 2) := zo_21 zh_cX11_won_1 14 rfl
theorem dX11_won_36 : decode cX11_won 36 = .ok (.iload_n 2, 1) := zo_28 zh_cX11_won_1 16 rfl
theorem dX11_won_37 : decode cX11_won 37 = .ok (.invokevirtual 144, 3) := zo_182 zh_cX11_won_1 17 rfl
theorem zh_cX11_won_2 : zck [21, 4, 172] (zdu 40 cX11_won.data.toList) = true := by decide +kernel
theorem dX11_won_40 : decode cX11_won 40 = .ok (.iload 4, 2) := zo_21 zh_cX11_won_2 0 rfl
theorem dX11_won_42 : decode cX11_won 42 = .ok (.ireturn, 1) := zo_172 zh_cX11_won_2 2 rfl
abbrev z_X11_won : List Cond := .code yX11_won cX11_won 5 (some .int) :: zW
abbrev wx_X11_won (ad : Nat → Nat) (cs : Nat → ClassId) (LP : va_W) (S_a : Nat → Nat) (S_b : Nat → Nat) (court_shoeCount : Int32) (court_claimCount : Int32) (court_suitCount : Int32) (court_shoeDay : Nat → Int32) (court_suits : Nat → Option Nat) (chg_done : Int32) (chg_size : Int32) (chg_sorts : Nat → Int32) (chg_numbers : Nat → Int32) (chg_befores : Nat → Int32) (chg_afters : Nat → Int32) (S_who : Nat → Int32) (S_against : Nat → Int32) (S_kind : Nat → Int32) (S_won : Nat → Int32) (S_day : Nat → Int32) (S_land : Nat → Int32) (S_undoneFrom : Nat → Int32) (S_asked : Nat → Nat → Int32) (S_askedCount : Nat → Int32) (S_askedBits : Nat → Int32) (S_first : Nat → Int32) (S_foundSo : Nat → Int32) (S_foundNot : Nat → Int32) (S_fought : Nat → Int32) (S_needed : Nat → Int32) : va_W := [((ad 0), .inr (11, [.ref (ad 4), .ref (ad 15), .ref (ad 23), .ref (ad 25), .ref (ad 26), .ref (ad 28), .ref (ad 34), .ref (ad 39), .ref (ad 1), .ref (ad 2), .ref (ad 3)])), ((ad 4), .inr (2, [.ref (ad 5), .ref (ad 6), .ref (ad 7), .ref (ad 8), .ref (ad 9), .ref (ad 10), .ref (ad 11), .ref (ad 12), .ref (ad 13), .ref (ad 14), .int court_shoeCount, .int court_claimCount, .int court_suitCount])), ((ad 8), .inl (cs 0, 40, .inl court_shoeDay)), ((ad 13), .inl (cs 5, 40, .inr (.inr (.inr (.inr court_suits))))), ((ad 34), .inr (1, [.ref (ad 4), .ref (ad 35), .ref (ad 36), .ref (ad 37), .ref (ad 38), .int chg_done, .int chg_size])), ((ad 35), .inl (cs 0, 40, .inl chg_sorts)), ((ad 36), .inl (cs 0, 40, .inl chg_numbers)), ((ad 37), .inl (cs 0, 40, .inl chg_befores)), ((ad 38), .inl (cs 0, 40, .inl chg_afters))]
abbrev wl_X11_won (ad : Nat → Nat) (cs : Nat → ClassId) (LP : va_W) (S_a : Nat → Nat) (S_b : Nat → Nat) (court_shoeCount : Int32) (court_claimCount : Int32) (court_suitCount : Int32) (court_shoeDay : Nat → Int32) (court_suits : Nat → Option Nat) (chg_done : Int32) (chg_size : Int32) (chg_sorts : Nat → Int32) (chg_numbers : Nat → Int32) (chg_befores : Nat → Int32) (chg_afters : Nat → Int32) (S_who : Nat → Int32) (S_against : Nat → Int32) (S_kind : Nat → Int32) (S_won : Nat → Int32) (S_day : Nat → Int32) (S_land : Nat → Int32) (S_undoneFrom : Nat → Int32) (S_asked : Nat → Nat → Int32) (S_askedCount : Nat → Int32) (S_askedBits : Nat → Int32) (S_first : Nat → Int32) (S_foundSo : Nat → Int32) (S_foundNot : Nat → Int32) (S_fought : Nat → Int32) (S_needed : Nat → Int32) : va_W := wx_X11_won ad cs LP S_a S_b court_shoeCount court_claimCount court_suitCount court_shoeDay court_suits chg_done chg_size chg_sorts chg_numbers chg_befores chg_afters S_who S_against S_kind S_won S_day S_land S_undoneFrom S_asked S_askedCount S_askedBits S_first S_foundSo S_foundNot S_fought S_needed ++ (zSu cs S_a S_b court_suitCount.toInt.toNat S_who S_against S_kind S_won S_day S_land S_undoneFrom S_asked S_askedCount S_askedBits S_first S_foundSo S_foundNot S_fought S_needed ++ LP)
def Q_X11_won (D : va_G) (cs : Nat → ClassId) (ad : Nat → Nat) (LP : va_W) (S_a : Nat → Nat) (S_b : Nat → Nat) (court_shoeCount : Int32) (court_claimCount : Int32) (court_suitCount : Int32) (court_suits : Nat → Option Nat) (S_who : Nat → Int32) (S_against : Nat → Int32) (S_kind : Nat → Int32) (S_day : Nat → Int32) (S_land : Nat → Int32) (S_asked : Nat → Nat → Int32) (S_askedCount : Nat → Int32) (S_askedBits : Nat → Int32) (S_first : Nat → Int32) (S_foundSo : Nat → Int32) (S_foundNot : Nat → Int32) (S_fought : Nat → Int32) (S_needed : Nat → Int32) (A : Nat → Prop) (R : Int32 × (Nat → Int32) × Int32 × Int32 × (Nat → Int32) × (Nat → Int32) × (Nat → Int32) × (Nat → Int32) × (Nat → Int32) × (Nat → Int32)) : Array Value → State → Outcome → State → Prop :=
  va_Qi (fun (r : Int32) (u : (Nat → Int32) × Int32 × Int32 × (Nat → Int32) × (Nat → Int32) × (Nat → Int32) × (Nat → Int32) × (Nat → Int32) × (Nat → Int32)) => (r, u) = R) (fun (u : (Nat → Int32) × Int32 × Int32 × (Nat → Int32) × (Nat → Int32) × (Nat → Int32) × (Nat → Int32) × (Nat → Int32) × (Nat → Int32)) (t : State) => va_P D classes (wl_X11_won ad cs LP S_a S_b court_shoeCount court_claimCount court_suitCount u.1 court_suits u.2.1 u.2.2.1 u.2.2.2.1 u.2.2.2.2.1 u.2.2.2.2.2.1 u.2.2.2.2.2.2.1 S_who S_against S_kind u.2.2.2.2.2.2.2.1 S_day S_land u.2.2.2.2.2.2.2.2 S_asked S_askedCount S_askedBits S_first S_foundSo S_foundNot S_fought S_needed) t.heap ∧ va_D A (wl_X11_won ad cs LP S_a S_b court_shoeCount court_claimCount court_suitCount u.1 court_suits u.2.1 u.2.2.1 u.2.2.2.1 u.2.2.2.2.1 u.2.2.2.2.2.1 u.2.2.2.2.2.2.1 S_who S_against S_kind u.2.2.2.2.2.2.2.1 S_day S_land u.2.2.2.2.2.2.2.2 S_asked S_askedCount S_askedBits S_first S_foundSo S_foundNot S_fought S_needed)) A
abbrev rm_X11_won : Room := { frames := 3, cells := 0, slots := 0, locals := 84 }
def B_X11_won_0    (court_shoeCount : Int32) (court_claimCount : Int32) (court_suitCount : Int32) (court_suits : Nat → Option Nat) (S_who : Nat → Int32) (S_against : Nat → Int32) (S_kind : Nat → Int32) (S_day : Nat → Int32) (S_land : Nat → Int32) (S_asked : Nat → Nat → Int32) (S_askedCount : Nat → Int32) (S_askedBits : Nat → Int32) (S_first : Nat → Int32) (S_foundSo : Nat → Int32) (S_foundNot : Nat → Int32) (S_fought : Nat → Int32) (S_needed : Nat → Int32) (x1 : Int32) (x2 : Int32) (court_shoeDay : Nat → Int32) (chg_done : Int32) (chg_size : Int32) (chg_sorts : Nat → Int32) (chg_numbers : Nat → Int32) (chg_befores : Nat → Int32) (chg_afters : Nat → Int32) (S_won : Nat → Int32) (S_undoneFrom : Nat → Int32) : Option (Int32 × (Nat → Int32) × Int32 × Int32 × (Nat → Int32) × (Nat → Int32) × (Nat → Int32) × (Nat → Int32) × (Nat → Int32) × (Nat → Int32)) :=
  (zk_b2 (f_X2_suitAt x1 court_shoeCount court_claimCount court_suitCount court_suits S_who S_against S_kind S_won S_day S_land S_undoneFrom S_asked S_askedCount S_askedBits S_first S_foundSo S_foundNot S_fought S_needed) (fun r_1 u_2 => (if r_1 < 0 then (some ((-1 : Int32), court_shoeDay, chg_done, chg_size, chg_sorts, chg_numbers, chg_befores, chg_afters, S_won, S_undoneFrom)) else (zk_b2 (f_X11_isChoice x2) (fun r_5 u_6 => (if r_5 = 0 then (some ((-1 : Int32), court_shoeDay, chg_done, chg_size, chg_sorts, chg_numbers, chg_befores, chg_afters, S_won, S_undoneFrom)) else (if (r_1 < 0 ∨ court_suitCount ≤ r_1) then none else (zk_let (S_won r_1.toNatClampNeg) (fun v_13 => (zk_b9 (f_X1_make (0 : Int32) x1 v_13 x2 court_shoeCount court_claimCount court_suitCount court_shoeDay court_suits chg_done chg_size chg_sorts chg_numbers chg_befores chg_afters S_who S_against S_kind S_won S_day S_land S_undoneFrom S_asked S_askedCount S_askedBits S_first S_foundSo S_foundNot S_fought S_needed) (fun u_14 u_15 u_16 u_17 u_18 u_19 u_20 u_21 u_22 => (some (v_13, u_14, u_15, u_16, u_17, u_18, u_19, u_20, u_21, u_22)))))))))))))
def f_X11_won   (x1 : Int32) (x2 : Int32) (court_shoeCount : Int32) (court_claimCount : Int32) (court_suitCount : Int32) (court_shoeDay : Nat → Int32) (court_suits : Nat → Option Nat) (chg_done : Int32) (chg_size : Int32) (chg_sorts : Nat → Int32) (chg_numbers : Nat → Int32) (chg_befores : Nat → Int32) (chg_afters : Nat → Int32) (S_who : Nat → Int32) (S_against : Nat → Int32) (S_kind : Nat → Int32) (S_won : Nat → Int32) (S_day : Nat → Int32) (S_land : Nat → Int32) (S_undoneFrom : Nat → Int32) (S_asked : Nat → Nat → Int32) (S_askedCount : Nat → Int32) (S_askedBits : Nat → Int32) (S_first : Nat → Int32) (S_foundSo : Nat → Int32) (S_foundNot : Nat → Int32) (S_fought : Nat → Int32) (S_needed : Nat → Int32) : Option (Int32 × (Nat → Int32) × Int32 × Int32 × (Nat → Int32) × (Nat → Int32) × (Nat → Int32) × (Nat → Int32) × (Nat → Int32) × (Nat → Int32)) := B_X11_won_0   court_shoeCount court_claimCount court_suitCount court_suits S_who S_against S_kind S_day S_land S_asked S_askedCount S_askedBits S_first S_foundSo S_foundNot S_fought S_needed x1 x2 court_shoeDay chg_done chg_size chg_sorts chg_numbers chg_befores chg_afters S_won S_undoneFrom
set_option maxHeartbeats 4000000 in
set_option maxRecDepth 100000 in
theorem L_X11_won_0 {p : Program} {l : Launch} {e : Env} {s : State} {m : MethodId} {args : Array Value} {below : List Frame} {meth : Method} {c : Code} {A : Nat → Prop} {D : va_G} {cs : Nat → ClassId} {ad : Nat → Nat} {LP : va_W} {S_a : Nat → Nat} {S_b : Nat → Nat} {court_shoeCount : Int32} {court_claimCount : Int32} {court_suitCount : Int32} {court_suits : Nat → Option Nat} {S_who : Nat → Int32} {S_against : Nat → Int32} {S_kind : Nat → Int32} {S_day : Nat → Int32} {S_land : Nat → Int32} {S_asked : Nat → Nat → Int32} {S_askedCount : Nat → Int32} {S_askedBits : Nat → Int32} {S_first : Nat → Int32} {S_foundSo : Nat → Int32} {S_foundNot : Nat → Int32} {S_fought : Nat → Int32} {S_needed : Nat → Int32} {R : Int32 × (Nat → Int32) × Int32 × Int32 × (Nat → Int32) × (Nat → Int32) × (Nat → Int32) × (Nat → Int32) × (Nat → Int32) × (Nat → Int32)} (C0 : zC p s m args meth c cX11_won 5 (some .int) RX11 zW) (hK : va_K D classes (zT cs) s) (hA : ∀ q : Nat, s.heap.size ≤ q → A q) (hSA : ∀ i, i < court_suitCount.toInt.toNat → court_suits i = some (S_a i)) (x1 : Int32) (x2 : Int32) (court_shoeDay : Nat → Int32) (chg_done : Int32) (chg_size : Int32) (chg_sorts : Nat → Int32) (chg_numbers : Nat → Int32) (chg_befores : Nat → Int32) (chg_afters : Nat → Int32) (S_won : Nat → Int32) (S_undoneFrom : Nat → Int32) (h : B_X11_won_0 court_shoeCount court_claimCount court_suitCount court_suits S_who S_against S_kind S_day S_land S_asked S_askedCount S_askedBits S_first S_foundSo S_foundNot S_fought S_needed x1 x2 court_shoeDay chg_done chg_size chg_sorts chg_numbers chg_befores chg_afters S_won S_undoneFrom = some R) (H : Heap) (locs : List Loc) (ls : Array Slot) (hP : va_P D classes (wl_X11_won ad cs LP S_a S_b court_shoeCount court_claimCount court_suitCount court_shoeDay court_suits chg_done chg_size chg_sorts chg_numbers chg_befores chg_afters S_who S_against S_kind S_won S_day S_land S_undoneFrom S_asked S_askedCount S_askedBits S_first S_foundSo S_foundNot S_fought S_needed) H) (hD : va_D A (wl_X11_won ad cs LP S_a S_b court_shoeCount court_claimCount court_suitCount court_shoeDay court_suits chg_done chg_size chg_sorts chg_numbers chg_befores chg_afters S_who S_against S_kind S_won S_day S_land S_undoneFrom S_asked S_askedCount S_askedBits S_first S_foundSo S_foundNot S_fought S_needed)) (hS : va_S A s.heap H locs) (hl : lv_has ls 5 [(0, .ref (ad 0)), (1, .int x1), (2, .int x2)]) : W p l e rm_X11_won s m args below meth c H locs 0 0 (MQ below (Q_X11_won D cs ad LP S_a S_b court_shoeCount court_claimCount court_suitCount court_suits S_who S_against S_kind S_day S_land S_asked S_askedCount S_askedBits S_first S_foundSo S_foundNot S_fought S_needed A R) args s 0 0 A) (F0 m 0 ls []) := by
  obtain ⟨hx, hb, hr, hml, hown, ht, hlocks⟩ := id C0
  refine lv_aload_n hx hb dX11_won_0 rfl (lv_at hl 0 rfl) ?_
  refine va_get (D := D) (ci := 11) (v := .ref (ad 4)) (C := RX11) (T := TX11) (N := 11) hx hb ht iX11 hown hK hP 0 rfl rfl 0 (by decide) (ht _ kw_696) (fun _ h9 => h9) rfl dX11_won_1 ?_
  refine lv_iload_n hx hb dX11_won_4 rfl (lv_at hl 1 rfl) ?_
  obtain ⟨r_1, u_2, hc_3, h⟩ := zk_o2 h
  refine zz_vqP (post := (fun r u => r = (if r_1 < 0 then none else some (S_a r_1.toNatClampNeg)) ∧ u = (u_2))) (w1 := fun u => (wx_X2_suitAt ad cs (zSu cs S_a S_b court_suitCount.toInt.toNat S_who S_against S_kind S_won S_day S_land S_undoneFrom S_asked S_askedCount S_askedBits S_first S_foundSo S_foundNot S_fought S_needed ++ LP) S_a S_b court_shoeCount court_claimCount court_suitCount court_suits S_who S_against S_kind S_won S_day S_land S_undoneFrom S_asked S_askedCount S_askedBits S_first S_foundSo S_foundNot S_fought S_needed)) (PL := (zSu cs S_a S_b court_suitCount.toInt.toNat S_who S_against S_kind S_won S_day S_land S_undoneFrom S_asked S_askedCount S_askedBits S_first S_foundSo S_foundNot S_fought S_needed ++ LP)) (As := [.int x1]) (rest := []) (c_X2_suitAt l D cs ad (zSu cs S_a S_b court_suitCount.toInt.toNat S_who S_against S_kind S_won S_day S_land S_undoneFrom S_asked S_askedCount S_askedBits S_first S_foundSo S_foundNot S_fought S_needed ++ LP) S_a S_b H.size x1 court_shoeCount court_claimCount court_suitCount court_suits S_who S_against S_kind S_won S_day S_land S_undoneFrom S_asked S_askedCount S_askedBits S_first S_foundSo S_foundNot S_fought S_needed (zSu_ok hSA) (r_1, u_2) hc_3) ⟨hx, hb, hml, hown, ht⟩ (cwV 1 ht g_X11_207 rfl rfl rfl ⟨rfl, hd_X2_suitAt⟩ ⟨Nat.le_of_ble_eq_true rfl, Nat.le_of_ble_eq_true rfl⟩) (va_recv hK hP (ci := 2) (q0 := 1) rfl rfl) hP hD hS hK hA [1, 3] rfl rfl [(ad 4), (ad 13)] rfl (fun _ => rfl) rfl hl.1 (Nat.le_of_ble_eq_true rfl) dX11_won_5 ⟨Nat.zero_le _, Nat.zero_le _⟩ (fun r u H locs hq hP hS => ?_)
  obtain ⟨hq1, hq2⟩ := hq; cases hq2; subst hq1
  have hP : va_P D classes (wl_X11_won ad cs LP S_a S_b court_shoeCount court_claimCount court_suitCount court_shoeDay court_suits chg_done chg_size chg_sorts chg_numbers chg_befores chg_afters S_who S_against S_kind S_won S_day S_land S_undoneFrom S_asked S_askedCount S_askedBits S_first S_foundSo S_foundNot S_fought S_needed) H := hP
  have hD : va_D A (wl_X11_won ad cs LP S_a S_b court_shoeCount court_claimCount court_suitCount court_shoeDay court_suits chg_done chg_size chg_sorts chg_numbers chg_befores chg_afters S_who S_against S_kind S_won S_day S_land S_undoneFrom S_asked S_askedCount S_askedBits S_first S_foundSo S_foundNot S_fought S_needed) := zDkp hD [(ad 0), (ad 4), (ad 8), (ad 13), (ad 34), (ad 35), (ad 36), (ad 37), (ad 38)] rfl rfl
  by_cases c_4 : r_1 < 0
  · have h := zk_t c_4 h
    refine W.eq (g2 := F0 m 8 ls [.null]) (by rw [if_pos c_4]; rfl) ?_
    refine lv_astore_nN (lv' := [(3, .null), (0, .ref (ad 0)), (1, .int x1), (2, .int x2)]) hx hb dX11_won_8 rfl hl (by decide) rfl (fun ls hl => ?_)
    refine lv_aload_nN hx hb dX11_won_9 rfl (lv_at hl 0 rfl) ?_
    refine lv_ifnullN (tgt := 20) hx hb dX11_won_10 (by decide) ?_
    refine lv_iconst (v := (-1 : Int32)) hx hb dX11_won_20 (by decide) ?_
    exact W.iret (v := (-1 : Int32)) hx hb hr (fun t ht2 hW => ⟨⟨(-1 : Int32), (court_shoeDay, chg_done, chg_size, chg_sorts, chg_numbers, chg_befores, chg_afters, S_won, S_undoneFrom), rfl, Option.some.inj h, by rw [ht2]; exact hP, hD⟩, hS.F ht2⟩) hS.2.2 dX11_won_21 hlocks
  · have h := zk_f c_4 h
    refine W.eq (g2 := F0 m 8 ls [.ref (S_a r_1.toNatClampNeg)]) (by rw [if_neg c_4]; rfl) ?_
    refine lv_astore_n (lv' := [(3, .ref (S_a r_1.toNatClampNeg)), (0, .ref (ad 0)), (1, .int x1), (2, .int x2)]) hx hb dX11_won_8 rfl hl (by decide) rfl (fun ls hl => ?_)
    refine lv_aload_n hx hb dX11_won_9 rfl (lv_at hl 0 rfl) ?_
    refine lv_ifnull hx hb dX11_won_10 ?_
    refine lv_iload_n hx hb dX11_won_13 rfl (lv_at hl 3 rfl) ?_
    obtain ⟨r_5, u_6, hc_7, h⟩ := zk_o2 h
    refine zz_siQ (post := (fun r u => (r, u) = (r_5, u_6))) (w1 := fun u => (wl_X11_isChoice ad cs )) (As := [.int x2]) (rest := []) (c_X11_isChoice l D cs ad  H.size x2 (r_5, u_6) hc_7) ⟨hx, hb, hml, hown, ht⟩ (va_cwS 1 ht g_X11_154 rfl rfl rfl hd_X11_isChoice ⟨Nat.le_of_ble_eq_true rfl, Nat.le_of_ble_eq_true rfl⟩) hP hD hS hK hA [] rfl rfl [] rfl (fun _ => rfl) rfl hl.1 (Nat.le_of_ble_eq_true rfl) dX11_won_14 ⟨Nat.zero_le _, Nat.zero_le _⟩ (fun r u H locs hq hP hS => ?_)
    cases hq
    have hP : va_P D classes (wl_X11_won ad cs LP S_a S_b court_shoeCount court_claimCount court_suitCount court_shoeDay court_suits chg_done chg_size chg_sorts chg_numbers chg_befores chg_afters S_who S_against S_kind S_won S_day S_land S_undoneFrom S_asked S_askedCount S_askedBits S_first S_foundSo S_foundNot S_fought S_needed) H := hP
    refine lv_if_ne (tgt := 22) hx hb dX11_won_17 (by decide) (fun c_8 => ?_) (fun c_8 => ?_)
    · have h := zk_f c_8 h
      refine lv_aload_n hx hb dX11_won_22 rfl (lv_at hl 0 rfl) ?_
      obtain ⟨g_9, h⟩ := zk_gd h
      have hSU : PSu cs (zSu cs S_a S_b court_suitCount.toInt.toNat S_who S_against S_kind S_won S_day S_land S_undoneFrom S_asked S_askedCount S_askedBits S_first S_foundSo S_foundNot S_fought S_needed ++ LP) court_suitCount court_suits S_a S_b S_who S_against S_kind S_won S_day S_land S_undoneFrom S_asked S_askedCount S_askedBits S_first S_foundSo S_foundNot S_fought S_needed := zSu_ok hSA
      obtain ⟨hs_10, ⟨_, hj_11⟩, ⟨_, hj_12⟩⟩ := hSU _ (zs_lt2 g_9)
      refine va_get (D := D) (ci := 7) (v := .int (S_won r_1.toNatClampNeg)) (C := RX7) (T := TX7) (N := 15) hx hb ht iX7 hown hK hP _ (zPm hj_11 rfl) rfl 3 (by decide) (ht _ kw_319) (fun _ h9 => h9) rfl dX11_won_23 ?_
      obtain ⟨v_13, ev_13, h⟩ := zk_lt h
      refine W.eq (g2 := F0 m 26 ls [.int v_13]) (by rw [ev_13]) ?_
      refine lv_istore (lv' := [(4, .int v_13), (3, .ref (S_a r_1.toNatClampNeg)), (0, .ref (ad 0)), (1, .int x1), (2, .int x2)]) hx hb dX11_won_26 hl (by decide) rfl (fun ls hl => ?_)
      refine lv_aload_n hx hb dX11_won_28 rfl (lv_at hl 2 rfl) ?_
      refine va_get (D := D) (ci := 11) (v := .ref (ad 34)) (C := RX11) (T := TX11) (N := 11) hx hb ht iX11 hown hK hP 0 rfl rfl 6 (by decide) (ht _ kw_702) (fun _ h9 => h9) rfl dX11_won_29 ?_
      refine lv_iconst (v := (0 : Int32)) hx hb dX11_won_32 (by decide) ?_
      refine lv_iload_n hx hb dX11_won_33 rfl (lv_at hl 3 rfl) ?_
      refine lv_iload hx hb dX11_won_34 (lv_at hl 0 rfl) ?_
      refine lv_iload_n hx hb dX11_won_36 rfl (lv_at hl 4 rfl) ?_
      obtain ⟨u_14, u_15, u_16, u_17, u_18, u_19, u_20, u_21, u_22, hc_23, h⟩ := zk_o9 h
      refine zk_vvP (post := (fun u => u = (u_14, u_15, u_16, u_17, u_18, u_19, u_20, u_21, u_22))) (w1 := fun u => (wx_X1_make ad cs LP S_a S_b court_shoeCount court_claimCount court_suitCount u.1 court_suits u.2.1 u.2.2.1 u.2.2.2.1 u.2.2.2.2.1 u.2.2.2.2.2.1 u.2.2.2.2.2.2.1 S_who S_against S_kind u.2.2.2.2.2.2.2.1 S_day S_land u.2.2.2.2.2.2.2.2 S_asked S_askedCount S_askedBits S_first S_foundSo S_foundNot S_fought S_needed)) (pl1 := fun u => (zSu cs S_a S_b court_suitCount.toInt.toNat S_who S_against S_kind u.2.2.2.2.2.2.2.1 S_day S_land u.2.2.2.2.2.2.2.2 S_asked S_askedCount S_askedBits S_first S_foundSo S_foundNot S_fought S_needed ++ LP)) (As := [.int (0 : Int32), .int x1, .int v_13, .int x2]) (rest := []) (c_X1_make l D cs ad LP S_a S_b H.size (0 : Int32) x1 v_13 x2 court_shoeCount court_claimCount court_suitCount court_shoeDay court_suits chg_done chg_size chg_sorts chg_numbers chg_befores chg_afters S_who S_against S_kind S_won S_day S_land S_undoneFrom S_asked S_askedCount S_askedBits S_first S_foundSo S_foundNot S_fought S_needed hSA (u_14, u_15, u_16, u_17, u_18, u_19, u_20, u_21, u_22) hc_23) ⟨hx, hb, hml, hown, ht⟩ (cwV 4 ht g_X11_144 rfl rfl rfl ⟨rfl, hd_X1_make⟩ ⟨Nat.le_of_ble_eq_true rfl, Nat.le_of_ble_eq_true rfl⟩) (va_recv hK hP (ci := 1) (q0 := 4) rfl rfl) hP hD hS hK hA [1, 2, 3, 4, 5, 6, 7, 8] [0] rfl rfl rfl rfl (by decide) rfl hl.1 (Nat.le_of_ble_eq_true rfl) dX11_won_37 ⟨Nat.zero_le _, Nat.zero_le _⟩ (fun u H locs hq hP hD hS => ?_)
      cases hq
      have hP : va_P D classes (wl_X11_won ad cs LP S_a S_b court_shoeCount court_claimCount court_suitCount u_14 court_suits u_15 u_16 u_17 u_18 u_19 u_20 S_who S_against S_kind u_21 S_day S_land u_22 S_asked S_askedCount S_askedBits S_first S_foundSo S_foundNot S_fought S_needed) H := hP.part [0, 1, 2, 3, 4, 5, 6, 7, 8] rfl
      have hD : va_D A (wl_X11_won ad cs LP S_a S_b court_shoeCount court_claimCount court_suitCount u_14 court_suits u_15 u_16 u_17 u_18 u_19 u_20 S_who S_against S_kind u_21 S_day S_land u_22 S_asked S_askedCount S_askedBits S_first S_foundSo S_foundNot S_fought S_needed) := hD.part [0, 1, 2, 3, 4, 5, 6, 7, 8] rfl rfl
      refine lv_iload hx hb dX11_won_40 (lv_at hl 0 rfl) ?_
      exact W.iret (v := v_13) hx hb hr (fun t ht2 hW => ⟨⟨v_13, (u_14, u_15, u_16, u_17, u_18, u_19, u_20, u_21, u_22), rfl, Option.some.inj h, by rw [ht2]; exact hP, hD⟩, hS.F ht2⟩) hS.2.2 dX11_won_42 hlocks
    · have h := zk_t c_8 h
      refine lv_iconst (v := (-1 : Int32)) hx hb dX11_won_20 (by decide) ?_
      exact W.iret (v := (-1 : Int32)) hx hb hr (fun t ht2 hW => ⟨⟨(-1 : Int32), (court_shoeDay, chg_done, chg_size, chg_sorts, chg_numbers, chg_befores, chg_afters, S_won, S_undoneFrom), rfl, Option.some.inj h, by rw [ht2]; exact hP, hD⟩, hS.F ht2⟩) hS.2.2 dX11_won_21 hlocks
set_option maxHeartbeats 4000000 in
set_option maxRecDepth 100000 in
theorem c_X11_won (l : Launch) (D : va_G) (cs : Nat → ClassId) (ad : Nat → Nat) (LP : va_W) (S_a : Nat → Nat) (S_b : Nat → Nat) (sz : Nat) (x1 : Int32) (x2 : Int32) (court_shoeCount : Int32) (court_claimCount : Int32) (court_suitCount : Int32) (court_shoeDay : Nat → Int32) (court_suits : Nat → Option Nat) (chg_done : Int32) (chg_size : Int32) (chg_sorts : Nat → Int32) (chg_numbers : Nat → Int32) (chg_befores : Nat → Int32) (chg_afters : Nat → Int32) (S_who : Nat → Int32) (S_against : Nat → Int32) (S_kind : Nat → Int32) (S_won : Nat → Int32) (S_day : Nat → Int32) (S_land : Nat → Int32) (S_undoneFrom : Nat → Int32) (S_asked : Nat → Nat → Int32) (S_askedCount : Nat → Int32) (S_askedBits : Nat → Int32) (S_first : Nat → Int32) (S_foundSo : Nat → Int32) (S_foundNot : Nat → Int32) (S_fought : Nat → Int32) (S_needed : Nat → Int32) (hSA : ∀ i, i < court_suitCount.toInt.toNat → court_suits i = some (S_a i)) (R : Int32 × (Nat → Int32) × Int32 × Int32 × (Nat → Int32) × (Nat → Int32) × (Nat → Int32) × (Nat → Int32) × (Nat → Int32) × (Nat → Int32)) (h : f_X11_won   x1 x2 court_shoeCount court_claimCount court_suitCount court_shoeDay court_suits chg_done chg_size chg_sorts chg_numbers chg_befores chg_afters S_who S_against S_kind S_won S_day S_land S_undoneFrom S_asked S_askedCount S_askedBits S_first S_foundSo S_foundNot S_fought S_needed = some R) : Met l yX11_won (z_X11_won) rm_X11_won (va_Pc [.ref (ad 0), .int x1, .int x2] (zPre D cs (wl_X11_won ad cs LP S_a S_b court_shoeCount court_claimCount court_suitCount court_shoeDay court_suits chg_done chg_size chg_sorts chg_numbers chg_befores chg_afters S_who S_against S_kind S_won S_day S_land S_undoneFrom S_asked S_askedCount S_askedBits S_first S_foundSo S_foundNot S_fought S_needed) sz)) (Q_X11_won D cs ad LP S_a S_b court_shoeCount court_claimCount court_suitCount court_suits S_who S_against S_kind S_day S_land S_asked S_askedCount S_askedBits S_first S_foundSo S_foundNot S_fought S_needed (va_A (wl_X11_won ad cs LP S_a S_b court_shoeCount court_claimCount court_suitCount court_shoeDay court_suits chg_done chg_size chg_sorts chg_numbers chg_befores chg_afters S_who S_against S_kind S_won S_day S_land S_undoneFrom S_asked S_askedCount S_askedBits S_first S_foundSo S_foundNot S_fought S_needed) sz) R) 0 0 (va_A (wl_X11_won ad cs LP S_a S_b court_shoeCount court_claimCount court_suitCount court_shoeDay court_suits chg_done chg_size chg_sorts chg_numbers chg_befores chg_afters S_who S_against S_kind S_won S_day S_land S_undoneFrom S_asked S_askedCount S_askedBits S_first S_foundSo S_foundNot S_fought S_needed) sz) := by
  refine Met.ofW (cc := cX11_won) (maxL := 5) (ret := (some .int)) (by decide) rfl ?_
  intro p e s m args below meth c s₁ B hml hv
  obtain ⟨rfl, hsz, hP, hK, hD0⟩ := hv
  subst hsz
  have hD := hD0.self (sz := s.heap.size)
  have C0 : zC p s m _ meth c cX11_won 5 (some .int) RX11 zW := ⟨B.exec, B.bytes, B.returns, hml, findClass_of_methodNamed B.named, fun w hw => atoms_spec (ws := z_X11_won) B.pre w (List.mem_cons_of_mem _ hw), B.notSynchronized⟩
  have hA : ∀ q : Nat, s.heap.size ≤ q → va_A (wl_X11_won ad cs LP S_a S_b court_shoeCount court_claimCount court_suitCount court_shoeDay court_suits chg_done chg_size chg_sorts chg_numbers chg_befores chg_afters S_who S_against S_kind S_won S_day S_land S_undoneFrom S_asked S_askedCount S_askedBits S_first S_foundSo S_foundNot S_fought S_needed) s.heap.size q := fun q h => Or.inr h
  have hl := lv_entry ([.ref (ad 0), .int x1, .int x2]) (n := 5) (Nat.le_of_ble_eq_true rfl)
  rw [lg_entry_eq]
  generalize (lg_sl ([.ref (ad 0), .int x1, .int x2]) ++ List.replicate (5 - (lg_sl ([.ref (ad 0), .int x1, .int x2])).length) Slot.unset).toArray = ls at hl ⊢
  exact L_X11_won_0 C0 hK hA hSA   x1 x2 court_shoeDay chg_done chg_size chg_sorts chg_numbers chg_befores chg_afters S_won S_undoneFrom h s.heap [] ls hP hD va_S.rf hl
theorem kw_324 : Cond.fieldLink RX11 228 "AlreadyJudged$Suit" "day" "I" ∈ zW := zwC (i := 10) zc_2 rfl rfl
theorem kw_332 : Cond.fieldLink RX11 231 "AlreadyJudged$Suit" "undoneFrom" "I" ∈ zW := zwC (i := 18) zc_2 rfl rfl
theorem zh_cX11_undone_0 : zck [42, 180, 0, 10, 27, 182, 0, 207, 78, 45, 198, 0, 18, 28, 184, 0, 141, 153, 0, 11, 28, 45] (zdu 0 cX11_undone.data.toList) = true := by decide +kernel
theorem dX11_undone_0 : decode cX11_undone 0 = .ok (.aload_n 0, 1) := zo_42 zh_cX11_undone_0 0 rfl
theorem dX11_undone_1 : decode cX11_undone 1 = .ok (.getfield 10, 3) := zo_180 zh_cX11_undone_0 1 rfl
theorem dX11_undone_4 : decode cX11_undone 4 = .ok (.iload_n 1, 1) := zo_27 zh_cX11_undone_0 4 rfl
theorem dX11_undone_5 : decode cX11_undone 5 = .ok (.invokevirtual 207, 3) := zo_182 zh_cX11_undone_0 5 rfl
theorem dX11_undone_8 : decode cX11_undone 8 = .ok (.astore_n 3, 1) := zo_78 zh_cX11_undone_0 8 rfl
theorem dX11_undone_9 : decode cX11_undone 9 = .ok (.aload_n 3, 1) := zo_45 zh_cX11_undone_0 9 rfl
theorem dX11_undone_10 : decode cX11_undone 10 = .ok (.ifnull 18, 3) := zo_p198 zh_cX11_undone_0 10 18 rfl rfl
theorem dX11_undone_13 : decode cX11_undone 13 = .ok (.iload_n 2, 1) := zo_28 zh_cX11_undone_0 13 rfl
theorem dX11_undone_14 : decode cX11_undone 14 = .ok (.invokestatic 141, 3) := zo_184 zh_cX11_undone_0 14 rfl
theorem dX11_undone_17 : decode cX11_undone 17 = .ok (.ifCond .eq 11, 3) := zo_p153 zh_cX11_undone_0 17 11 rfl rfl
theorem zh_cX11_undone_1 : zck [28, 45, 180, 0, 228, 162, 0, 5, 2, 172, 45, 180, 0, 231, 155, 0, 6, 16, 254, 172, 42, 180] (zdu 20 cX11_undone.data.toList) = true := by decide +kernel
theorem dX11_undone_20 : decode cX11_undone 20 = .ok (.iload_n 2, 1) := zo_28 zh_cX11_undone_1 0 rfl
theorem dX11_undone_21 : decode cX11_undone 21 = .ok (.aload_n 3, 1) := zo_45 zh_cX11_undone_1 1 rfl
theorem dX11_undone_22 : decode cX11_undone 22 = .ok (.getfield 228, 3) := zo_180 zh_cX11_undone_1 2 rfl
theorem dX11_undone_25 : decode cX11_undone 25 = .ok (.if_icmp .ge 5, 3) := zo_p162 zh_cX11_undone_1 5 5 rfl rfl
theorem dX11_undone_28 : decode cX11_undone 28 = .ok (.iconst (-1), 1) := zo_2 zh_cX11_undone_1 8 rfl
theorem dX11_undone_29 : decode cX11_undone 29 = .ok (.ireturn, 1) := zo_172 zh_cX11_undone_1 9 rfl
theorem dX11_undone_30 : decode cX11_undone 30 = .ok (.aload_n 3, 1) := zo_45 zh_cX11_undone_1 10 rfl
theorem dX11_undone_31 : decode cX11_undone 31 = .ok (.getfield 231, 3) := zo_180 zh_cX11_undone_1 11 rfl
theorem dX11_undone_34 : decode cX11_undone 34 = .ok (.ifCond .lt 6, 3) := zo_p155 zh_cX11_undone_1 14 6 rfl rfl
theorem dX11_undone_37 : decode cX11_undone 37 = .ok (.bipush (-2), 2) := zo_n16 zh_cX11_undone_1 17 1 rfl rfl
theorem dX11_undone_39 : decode cX11_undone 39 = .ok (.ireturn, 1) := zo_172 zh_cX11_undone_1 19 rfl
theorem zh_cX11_undone_2 : zck [42, 180, 0, 58, 4, 27, 45, 180, 0, 231, 28, 182, 0, 144, 4, 172] (zdu 40 cX11_undone.data.toList) = true := by decide +kernel
theorem dX11_undone_40 : decode cX11_undone 40 = .ok (.aload_n 0, 1) := zo_42 zh_cX11_undone_2 0 rfl
theorem dX11_undone_41 : decode cX11_undone 41 = .ok (.getfield 58, 3) := zo_180 zh_cX11_undone_2 1 rfl
theorem dX11_undone_44 : decode cX11_undone 44 = .ok (.iconst 1, 1) := zo_4 zh_cX11_undone_2 4 rfl
theorem dX11_undone_45 : decode cX11_undone 45 = .ok (.iload_n 1, 1) := zo_27 zh_cX11_undone_2 5 rfl
theorem dX11_undone_46 : decode cX11_undone 46 = .ok (.aload_n 3, 1) := zo_45 zh_cX11_undone_2 6 rfl
theorem dX11_undone_47 : decode cX11_undone 47 = .ok (.getfield 231, 3) := zo_180 zh_cX11_undone_2 7 rfl
theorem dX11_undone_50 : decode cX11_undone 50 = .ok (.iload_n 2, 1) := zo_28 zh_cX11_undone_2 10 rfl
theorem dX11_undone_51 : decode cX11_undone 51 = .ok (.invokevirtual 144, 3) := zo_182 zh_cX11_undone_2 11 rfl
theorem dX11_undone_54 : decode cX11_undone 54 = .ok (.iconst 1, 1) := zo_4 zh_cX11_undone_2 14 rfl
theorem dX11_undone_55 : decode cX11_undone 55 = .ok (.ireturn, 1) := zo_172 zh_cX11_undone_2 15 rfl
abbrev z_X11_undone : List Cond := .code yX11_undone cX11_undone 4 (some .int) :: zW
abbrev wx_X11_undone (ad : Nat → Nat) (cs : Nat → ClassId) (LP : va_W) (S_a : Nat → Nat) (S_b : Nat → Nat) (court_shoeCount : Int32) (court_claimCount : Int32) (court_suitCount : Int32) (court_shoeDay : Nat → Int32) (court_suits : Nat → Option Nat) (chg_done : Int32) (chg_size : Int32) (chg_sorts : Nat → Int32) (chg_numbers : Nat → Int32) (chg_befores : Nat → Int32) (chg_afters : Nat → Int32) (S_who : Nat → Int32) (S_against : Nat → Int32) (S_kind : Nat → Int32) (S_won : Nat → Int32) (S_day : Nat → Int32) (S_land : Nat → Int32) (S_undoneFrom : Nat → Int32) (S_asked : Nat → Nat → Int32) (S_askedCount : Nat → Int32) (S_askedBits : Nat → Int32) (S_first : Nat → Int32) (S_foundSo : Nat → Int32) (S_foundNot : Nat → Int32) (S_fought : Nat → Int32) (S_needed : Nat → Int32) : va_W := [((ad 0), .inr (11, [.ref (ad 4), .ref (ad 15), .ref (ad 23), .ref (ad 25), .ref (ad 26), .ref (ad 28), .ref (ad 34), .ref (ad 39), .ref (ad 1), .ref (ad 2), .ref (ad 3)])), ((ad 4), .inr (2, [.ref (ad 5), .ref (ad 6), .ref (ad 7), .ref (ad 8), .ref (ad 9), .ref (ad 10), .ref (ad 11), .ref (ad 12), .ref (ad 13), .ref (ad 14), .int court_shoeCount, .int court_claimCount, .int court_suitCount])), ((ad 8), .inl (cs 0, 40, .inl court_shoeDay)), ((ad 13), .inl (cs 5, 40, .inr (.inr (.inr (.inr court_suits))))), ((ad 34), .inr (1, [.ref (ad 4), .ref (ad 35), .ref (ad 36), .ref (ad 37), .ref (ad 38), .int chg_done, .int chg_size])), ((ad 35), .inl (cs 0, 40, .inl chg_sorts)), ((ad 36), .inl (cs 0, 40, .inl chg_numbers)), ((ad 37), .inl (cs 0, 40, .inl chg_befores)), ((ad 38), .inl (cs 0, 40, .inl chg_afters))]
abbrev wl_X11_undone (ad : Nat → Nat) (cs : Nat → ClassId) (LP : va_W) (S_a : Nat → Nat) (S_b : Nat → Nat) (court_shoeCount : Int32) (court_claimCount : Int32) (court_suitCount : Int32) (court_shoeDay : Nat → Int32) (court_suits : Nat → Option Nat) (chg_done : Int32) (chg_size : Int32) (chg_sorts : Nat → Int32) (chg_numbers : Nat → Int32) (chg_befores : Nat → Int32) (chg_afters : Nat → Int32) (S_who : Nat → Int32) (S_against : Nat → Int32) (S_kind : Nat → Int32) (S_won : Nat → Int32) (S_day : Nat → Int32) (S_land : Nat → Int32) (S_undoneFrom : Nat → Int32) (S_asked : Nat → Nat → Int32) (S_askedCount : Nat → Int32) (S_askedBits : Nat → Int32) (S_first : Nat → Int32) (S_foundSo : Nat → Int32) (S_foundNot : Nat → Int32) (S_fought : Nat → Int32) (S_needed : Nat → Int32) : va_W := wx_X11_undone ad cs LP S_a S_b court_shoeCount court_claimCount court_suitCount court_shoeDay court_suits chg_done chg_size chg_sorts chg_numbers chg_befores chg_afters S_who S_against S_kind S_won S_day S_land S_undoneFrom S_asked S_askedCount S_askedBits S_first S_foundSo S_foundNot S_fought S_needed ++ (zSu cs S_a S_b court_suitCount.toInt.toNat S_who S_against S_kind S_won S_day S_land S_undoneFrom S_asked S_askedCount S_askedBits S_first S_foundSo S_foundNot S_fought S_needed ++ LP)
def Q_X11_undone (D : va_G) (cs : Nat → ClassId) (ad : Nat → Nat) (LP : va_W) (S_a : Nat → Nat) (S_b : Nat → Nat) (court_shoeCount : Int32) (court_claimCount : Int32) (court_suitCount : Int32) (court_suits : Nat → Option Nat) (S_who : Nat → Int32) (S_against : Nat → Int32) (S_kind : Nat → Int32) (S_day : Nat → Int32) (S_land : Nat → Int32) (S_asked : Nat → Nat → Int32) (S_askedCount : Nat → Int32) (S_askedBits : Nat → Int32) (S_first : Nat → Int32) (S_foundSo : Nat → Int32) (S_foundNot : Nat → Int32) (S_fought : Nat → Int32) (S_needed : Nat → Int32) (A : Nat → Prop) (R : Int32 × (Nat → Int32) × Int32 × Int32 × (Nat → Int32) × (Nat → Int32) × (Nat → Int32) × (Nat → Int32) × (Nat → Int32) × (Nat → Int32)) : Array Value → State → Outcome → State → Prop :=
  va_Qi (fun (r : Int32) (u : (Nat → Int32) × Int32 × Int32 × (Nat → Int32) × (Nat → Int32) × (Nat → Int32) × (Nat → Int32) × (Nat → Int32) × (Nat → Int32)) => (r, u) = R) (fun (u : (Nat → Int32) × Int32 × Int32 × (Nat → Int32) × (Nat → Int32) × (Nat → Int32) × (Nat → Int32) × (Nat → Int32) × (Nat → Int32)) (t : State) => va_P D classes (wl_X11_undone ad cs LP S_a S_b court_shoeCount court_claimCount court_suitCount u.1 court_suits u.2.1 u.2.2.1 u.2.2.2.1 u.2.2.2.2.1 u.2.2.2.2.2.1 u.2.2.2.2.2.2.1 S_who S_against S_kind u.2.2.2.2.2.2.2.1 S_day S_land u.2.2.2.2.2.2.2.2 S_asked S_askedCount S_askedBits S_first S_foundSo S_foundNot S_fought S_needed) t.heap ∧ va_D A (wl_X11_undone ad cs LP S_a S_b court_shoeCount court_claimCount court_suitCount u.1 court_suits u.2.1 u.2.2.1 u.2.2.2.1 u.2.2.2.2.1 u.2.2.2.2.2.1 u.2.2.2.2.2.2.1 S_who S_against S_kind u.2.2.2.2.2.2.2.1 S_day S_land u.2.2.2.2.2.2.2.2 S_asked S_askedCount S_askedBits S_first S_foundSo S_foundNot S_fought S_needed)) A
abbrev rm_X11_undone : Room := { frames := 3, cells := 0, slots := 0, locals := 84 }
def B_X11_undone_0    (court_shoeCount : Int32) (court_claimCount : Int32) (court_suitCount : Int32) (court_suits : Nat → Option Nat) (S_who : Nat → Int32) (S_against : Nat → Int32) (S_kind : Nat → Int32) (S_day : Nat → Int32) (S_land : Nat → Int32) (S_asked : Nat → Nat → Int32) (S_askedCount : Nat → Int32) (S_askedBits : Nat → Int32) (S_first : Nat → Int32) (S_foundSo : Nat → Int32) (S_foundNot : Nat → Int32) (S_fought : Nat → Int32) (S_needed : Nat → Int32) (x1 : Int32) (x2 : Int32) (court_shoeDay : Nat → Int32) (chg_done : Int32) (chg_size : Int32) (chg_sorts : Nat → Int32) (chg_numbers : Nat → Int32) (chg_befores : Nat → Int32) (chg_afters : Nat → Int32) (S_won : Nat → Int32) (S_undoneFrom : Nat → Int32) : Option (Int32 × (Nat → Int32) × Int32 × Int32 × (Nat → Int32) × (Nat → Int32) × (Nat → Int32) × (Nat → Int32) × (Nat → Int32) × (Nat → Int32)) :=
  (zk_b2 (f_X2_suitAt x1 court_shoeCount court_claimCount court_suitCount court_suits S_who S_against S_kind S_won S_day S_land S_undoneFrom S_asked S_askedCount S_askedBits S_first S_foundSo S_foundNot S_fought S_needed) (fun r_1 u_2 => (if r_1 < 0 then (some ((-1 : Int32), court_shoeDay, chg_done, chg_size, chg_sorts, chg_numbers, chg_befores, chg_afters, S_won, S_undoneFrom)) else (zk_b2 (f_X11_isDay x2) (fun r_5 u_6 => (if r_5 = 0 then (some ((-1 : Int32), court_shoeDay, chg_done, chg_size, chg_sorts, chg_numbers, chg_befores, chg_afters, S_won, S_undoneFrom)) else (if (r_1 < 0 ∨ court_suitCount ≤ r_1) then none else (if (S_day r_1.toNatClampNeg) ≤ x2 then (if (r_1 < 0 ∨ court_suitCount ≤ r_1) then none else (if (S_undoneFrom r_1.toNatClampNeg) < 0 then (if (r_1 < 0 ∨ court_suitCount ≤ r_1) then none else (zk_b9 (f_X1_make (1 : Int32) x1 (S_undoneFrom r_1.toNatClampNeg) x2 court_shoeCount court_claimCount court_suitCount court_shoeDay court_suits chg_done chg_size chg_sorts chg_numbers chg_befores chg_afters S_who S_against S_kind S_won S_day S_land S_undoneFrom S_asked S_askedCount S_askedBits S_first S_foundSo S_foundNot S_fought S_needed) (fun u_23 u_24 u_25 u_26 u_27 u_28 u_29 u_30 u_31 => (some ((1 : Int32), u_23, u_24, u_25, u_26, u_27, u_28, u_29, u_30, u_31))))) else (some ((-2 : Int32), court_shoeDay, chg_done, chg_size, chg_sorts, chg_numbers, chg_befores, chg_afters, S_won, S_undoneFrom)))) else (some ((-1 : Int32), court_shoeDay, chg_done, chg_size, chg_sorts, chg_numbers, chg_befores, chg_afters, S_won, S_undoneFrom))))))))))
def f_X11_undone   (x1 : Int32) (x2 : Int32) (court_shoeCount : Int32) (court_claimCount : Int32) (court_suitCount : Int32) (court_shoeDay : Nat → Int32) (court_suits : Nat → Option Nat) (chg_done : Int32) (chg_size : Int32) (chg_sorts : Nat → Int32) (chg_numbers : Nat → Int32) (chg_befores : Nat → Int32) (chg_afters : Nat → Int32) (S_who : Nat → Int32) (S_against : Nat → Int32) (S_kind : Nat → Int32) (S_won : Nat → Int32) (S_day : Nat → Int32) (S_land : Nat → Int32) (S_undoneFrom : Nat → Int32) (S_asked : Nat → Nat → Int32) (S_askedCount : Nat → Int32) (S_askedBits : Nat → Int32) (S_first : Nat → Int32) (S_foundSo : Nat → Int32) (S_foundNot : Nat → Int32) (S_fought : Nat → Int32) (S_needed : Nat → Int32) : Option (Int32 × (Nat → Int32) × Int32 × Int32 × (Nat → Int32) × (Nat → Int32) × (Nat → Int32) × (Nat → Int32) × (Nat → Int32) × (Nat → Int32)) := B_X11_undone_0   court_shoeCount court_claimCount court_suitCount court_suits S_who S_against S_kind S_day S_land S_asked S_askedCount S_askedBits S_first S_foundSo S_foundNot S_fought S_needed x1 x2 court_shoeDay chg_done chg_size chg_sorts chg_numbers chg_befores chg_afters S_won S_undoneFrom
set_option maxHeartbeats 4000000 in
set_option maxRecDepth 100000 in
theorem L_X11_undone_0 {p : Program} {l : Launch} {e : Env} {s : State} {m : MethodId} {args : Array Value} {below : List Frame} {meth : Method} {c : Code} {A : Nat → Prop} {D : va_G} {cs : Nat → ClassId} {ad : Nat → Nat} {LP : va_W} {S_a : Nat → Nat} {S_b : Nat → Nat} {court_shoeCount : Int32} {court_claimCount : Int32} {court_suitCount : Int32} {court_suits : Nat → Option Nat} {S_who : Nat → Int32} {S_against : Nat → Int32} {S_kind : Nat → Int32} {S_day : Nat → Int32} {S_land : Nat → Int32} {S_asked : Nat → Nat → Int32} {S_askedCount : Nat → Int32} {S_askedBits : Nat → Int32} {S_first : Nat → Int32} {S_foundSo : Nat → Int32} {S_foundNot : Nat → Int32} {S_fought : Nat → Int32} {S_needed : Nat → Int32} {R : Int32 × (Nat → Int32) × Int32 × Int32 × (Nat → Int32) × (Nat → Int32) × (Nat → Int32) × (Nat → Int32) × (Nat → Int32) × (Nat → Int32)} (C0 : zC p s m args meth c cX11_undone 4 (some .int) RX11 zW) (hK : va_K D classes (zT cs) s) (hA : ∀ q : Nat, s.heap.size ≤ q → A q) (hSA : ∀ i, i < court_suitCount.toInt.toNat → court_suits i = some (S_a i)) (x1 : Int32) (x2 : Int32) (court_shoeDay : Nat → Int32) (chg_done : Int32) (chg_size : Int32) (chg_sorts : Nat → Int32) (chg_numbers : Nat → Int32) (chg_befores : Nat → Int32) (chg_afters : Nat → Int32) (S_won : Nat → Int32) (S_undoneFrom : Nat → Int32) (h : B_X11_undone_0 court_shoeCount court_claimCount court_suitCount court_suits S_who S_against S_kind S_day S_land S_asked S_askedCount S_askedBits S_first S_foundSo S_foundNot S_fought S_needed x1 x2 court_shoeDay chg_done chg_size chg_sorts chg_numbers chg_befores chg_afters S_won S_undoneFrom = some R) (H : Heap) (locs : List Loc) (ls : Array Slot) (hP : va_P D classes (wl_X11_undone ad cs LP S_a S_b court_shoeCount court_claimCount court_suitCount court_shoeDay court_suits chg_done chg_size chg_sorts chg_numbers chg_befores chg_afters S_who S_against S_kind S_won S_day S_land S_undoneFrom S_asked S_askedCount S_askedBits S_first S_foundSo S_foundNot S_fought S_needed) H) (hD : va_D A (wl_X11_undone ad cs LP S_a S_b court_shoeCount court_claimCount court_suitCount court_shoeDay court_suits chg_done chg_size chg_sorts chg_numbers chg_befores chg_afters S_who S_against S_kind S_won S_day S_land S_undoneFrom S_asked S_askedCount S_askedBits S_first S_foundSo S_foundNot S_fought S_needed)) (hS : va_S A s.heap H locs) (hl : lv_has ls 4 [(0, .ref (ad 0)), (1, .int x1), (2, .int x2)]) : W p l e rm_X11_undone s m args below meth c H locs 0 0 (MQ below (Q_X11_undone D cs ad LP S_a S_b court_shoeCount court_claimCount court_suitCount court_suits S_who S_against S_kind S_day S_land S_asked S_askedCount S_askedBits S_first S_foundSo S_foundNot S_fought S_needed A R) args s 0 0 A) (F0 m 0 ls []) := by
  obtain ⟨hx, hb, hr, hml, hown, ht, hlocks⟩ := id C0
  refine lv_aload_n hx hb dX11_undone_0 rfl (lv_at hl 0 rfl) ?_
  refine va_get (D := D) (ci := 11) (v := .ref (ad 4)) (C := RX11) (T := TX11) (N := 11) hx hb ht iX11 hown hK hP 0 rfl rfl 0 (by decide) (ht _ kw_696) (fun _ h9 => h9) rfl dX11_undone_1 ?_
  refine lv_iload_n hx hb dX11_undone_4 rfl (lv_at hl 1 rfl) ?_
  obtain ⟨r_1, u_2, hc_3, h⟩ := zk_o2 h
  refine zz_vqP (post := (fun r u => r = (if r_1 < 0 then none else some (S_a r_1.toNatClampNeg)) ∧ u = (u_2))) (w1 := fun u => (wx_X2_suitAt ad cs (zSu cs S_a S_b court_suitCount.toInt.toNat S_who S_against S_kind S_won S_day S_land S_undoneFrom S_asked S_askedCount S_askedBits S_first S_foundSo S_foundNot S_fought S_needed ++ LP) S_a S_b court_shoeCount court_claimCount court_suitCount court_suits S_who S_against S_kind S_won S_day S_land S_undoneFrom S_asked S_askedCount S_askedBits S_first S_foundSo S_foundNot S_fought S_needed)) (PL := (zSu cs S_a S_b court_suitCount.toInt.toNat S_who S_against S_kind S_won S_day S_land S_undoneFrom S_asked S_askedCount S_askedBits S_first S_foundSo S_foundNot S_fought S_needed ++ LP)) (As := [.int x1]) (rest := []) (c_X2_suitAt l D cs ad (zSu cs S_a S_b court_suitCount.toInt.toNat S_who S_against S_kind S_won S_day S_land S_undoneFrom S_asked S_askedCount S_askedBits S_first S_foundSo S_foundNot S_fought S_needed ++ LP) S_a S_b H.size x1 court_shoeCount court_claimCount court_suitCount court_suits S_who S_against S_kind S_won S_day S_land S_undoneFrom S_asked S_askedCount S_askedBits S_first S_foundSo S_foundNot S_fought S_needed (zSu_ok hSA) (r_1, u_2) hc_3) ⟨hx, hb, hml, hown, ht⟩ (cwV 1 ht g_X11_207 rfl rfl rfl ⟨rfl, hd_X2_suitAt⟩ ⟨Nat.le_of_ble_eq_true rfl, Nat.le_of_ble_eq_true rfl⟩) (va_recv hK hP (ci := 2) (q0 := 1) rfl rfl) hP hD hS hK hA [1, 3] rfl rfl [(ad 4), (ad 13)] rfl (fun _ => rfl) rfl hl.1 (Nat.le_of_ble_eq_true rfl) dX11_undone_5 ⟨Nat.zero_le _, Nat.zero_le _⟩ (fun r u H locs hq hP hS => ?_)
  obtain ⟨hq1, hq2⟩ := hq; cases hq2; subst hq1
  have hP : va_P D classes (wl_X11_undone ad cs LP S_a S_b court_shoeCount court_claimCount court_suitCount court_shoeDay court_suits chg_done chg_size chg_sorts chg_numbers chg_befores chg_afters S_who S_against S_kind S_won S_day S_land S_undoneFrom S_asked S_askedCount S_askedBits S_first S_foundSo S_foundNot S_fought S_needed) H := hP
  have hD : va_D A (wl_X11_undone ad cs LP S_a S_b court_shoeCount court_claimCount court_suitCount court_shoeDay court_suits chg_done chg_size chg_sorts chg_numbers chg_befores chg_afters S_who S_against S_kind S_won S_day S_land S_undoneFrom S_asked S_askedCount S_askedBits S_first S_foundSo S_foundNot S_fought S_needed) := zDkp hD [(ad 0), (ad 4), (ad 8), (ad 13), (ad 34), (ad 35), (ad 36), (ad 37), (ad 38)] rfl rfl
  by_cases c_4 : r_1 < 0
  · have h := zk_t c_4 h
    refine W.eq (g2 := F0 m 8 ls [.null]) (by rw [if_pos c_4]; rfl) ?_
    refine lv_astore_nN (lv' := [(3, .null), (0, .ref (ad 0)), (1, .int x1), (2, .int x2)]) hx hb dX11_undone_8 rfl hl (by decide) rfl (fun ls hl => ?_)
    refine lv_aload_nN hx hb dX11_undone_9 rfl (lv_at hl 0 rfl) ?_
    refine lv_ifnullN (tgt := 28) hx hb dX11_undone_10 (by decide) ?_
    refine lv_iconst (v := (-1 : Int32)) hx hb dX11_undone_28 (by decide) ?_
    exact W.iret (v := (-1 : Int32)) hx hb hr (fun t ht2 hW => ⟨⟨(-1 : Int32), (court_shoeDay, chg_done, chg_size, chg_sorts, chg_numbers, chg_befores, chg_afters, S_won, S_undoneFrom), rfl, Option.some.inj h, by rw [ht2]; exact hP, hD⟩, hS.F ht2⟩) hS.2.2 dX11_undone_29 hlocks
  · have h := zk_f c_4 h
    refine W.eq (g2 := F0 m 8 ls [.ref (S_a r_1.toNatClampNeg)]) (by rw [if_neg c_4]; rfl) ?_
    refine lv_astore_n (lv' := [(3, .ref (S_a r_1.toNatClampNeg)), (0, .ref (ad 0)), (1, .int x1), (2, .int x2)]) hx hb dX11_undone_8 rfl hl (by decide) rfl (fun ls hl => ?_)
    refine lv_aload_n hx hb dX11_undone_9 rfl (lv_at hl 0 rfl) ?_
    refine lv_ifnull hx hb dX11_undone_10 ?_
    refine lv_iload_n hx hb dX11_undone_13 rfl (lv_at hl 3 rfl) ?_
    obtain ⟨r_5, u_6, hc_7, h⟩ := zk_o2 h
    refine zz_siQ (post := (fun r u => (r, u) = (r_5, u_6))) (w1 := fun u => (wl_X11_isDay ad cs )) (As := [.int x2]) (rest := []) (c_X11_isDay l D cs ad  H.size x2 (r_5, u_6) hc_7) ⟨hx, hb, hml, hown, ht⟩ (va_cwS 1 ht g_X11_141 rfl rfl rfl hd_X11_isDay ⟨Nat.le_of_ble_eq_true rfl, Nat.le_of_ble_eq_true rfl⟩) hP hD hS hK hA [] rfl rfl [] rfl (fun _ => rfl) rfl hl.1 (Nat.le_of_ble_eq_true rfl) dX11_undone_14 ⟨Nat.zero_le _, Nat.zero_le _⟩ (fun r u H locs hq hP hS => ?_)
    cases hq
    have hP : va_P D classes (wl_X11_undone ad cs LP S_a S_b court_shoeCount court_claimCount court_suitCount court_shoeDay court_suits chg_done chg_size chg_sorts chg_numbers chg_befores chg_afters S_who S_against S_kind S_won S_day S_land S_undoneFrom S_asked S_askedCount S_askedBits S_first S_foundSo S_foundNot S_fought S_needed) H := hP
    refine lv_if_eq (tgt := 28) hx hb dX11_undone_17 (by decide) (fun c_8 => ?_) (fun c_8 => ?_)
    · have h := zk_t c_8 h
      refine lv_iconst (v := (-1 : Int32)) hx hb dX11_undone_28 (by decide) ?_
      exact W.iret (v := (-1 : Int32)) hx hb hr (fun t ht2 hW => ⟨⟨(-1 : Int32), (court_shoeDay, chg_done, chg_size, chg_sorts, chg_numbers, chg_befores, chg_afters, S_won, S_undoneFrom), rfl, Option.some.inj h, by rw [ht2]; exact hP, hD⟩, hS.F ht2⟩) hS.2.2 dX11_undone_29 hlocks
    · have h := zk_f c_8 h
      refine lv_iload_n hx hb dX11_undone_20 rfl (lv_at hl 3 rfl) ?_
      refine lv_aload_n hx hb dX11_undone_21 rfl (lv_at hl 0 rfl) ?_
      obtain ⟨g_9, h⟩ := zk_gd h
      have hSU : PSu cs (zSu cs S_a S_b court_suitCount.toInt.toNat S_who S_against S_kind S_won S_day S_land S_undoneFrom S_asked S_askedCount S_askedBits S_first S_foundSo S_foundNot S_fought S_needed ++ LP) court_suitCount court_suits S_a S_b S_who S_against S_kind S_won S_day S_land S_undoneFrom S_asked S_askedCount S_askedBits S_first S_foundSo S_foundNot S_fought S_needed := zSu_ok hSA
      obtain ⟨hs_10, ⟨_, hj_11⟩, ⟨_, hj_12⟩⟩ := hSU _ (zs_lt2 g_9)
      refine va_get (D := D) (ci := 7) (v := .int (S_day r_1.toNatClampNeg)) (C := RX7) (T := TX7) (N := 15) hx hb ht iX7 hown hK hP _ (zPm hj_11 rfl) rfl 4 (by decide) (ht _ kw_324) (fun _ h9 => h9) rfl dX11_undone_22 ?_
      refine lv_icmp_ge (tgt := 30) hx hb dX11_undone_25 (by decide) (fun c_13 => ?_) (fun c_13 => ?_)
      · have h := zk_t c_13 h
        refine lv_aload_n hx hb dX11_undone_30 rfl (lv_at hl 0 rfl) ?_
        obtain ⟨g_14, h⟩ := zk_gd h
        have hSU : PSu cs (zSu cs S_a S_b court_suitCount.toInt.toNat S_who S_against S_kind S_won S_day S_land S_undoneFrom S_asked S_askedCount S_askedBits S_first S_foundSo S_foundNot S_fought S_needed ++ LP) court_suitCount court_suits S_a S_b S_who S_against S_kind S_won S_day S_land S_undoneFrom S_asked S_askedCount S_askedBits S_first S_foundSo S_foundNot S_fought S_needed := zSu_ok hSA
        obtain ⟨hs_15, ⟨_, hj_16⟩, ⟨_, hj_17⟩⟩ := hSU _ (zs_lt2 g_14)
        refine va_get (D := D) (ci := 7) (v := .int (S_undoneFrom r_1.toNatClampNeg)) (C := RX7) (T := TX7) (N := 15) hx hb ht iX7 hown hK hP _ (zPm hj_16 rfl) rfl 6 (by decide) (ht _ kw_332) (fun _ h9 => h9) rfl dX11_undone_31 ?_
        refine lv_if_lt (tgt := 40) hx hb dX11_undone_34 (by decide) (fun c_18 => ?_) (fun c_18 => ?_)
        · have h := zk_t c_18 h
          refine lv_aload_n hx hb dX11_undone_40 rfl (lv_at hl 1 rfl) ?_
          refine va_get (D := D) (ci := 11) (v := .ref (ad 34)) (C := RX11) (T := TX11) (N := 11) hx hb ht iX11 hown hK hP 0 rfl rfl 6 (by decide) (ht _ kw_702) (fun _ h9 => h9) rfl dX11_undone_41 ?_
          refine lv_iconst (v := (1 : Int32)) hx hb dX11_undone_44 (by decide) ?_
          refine lv_iload_n hx hb dX11_undone_45 rfl (lv_at hl 2 rfl) ?_
          refine lv_aload_n hx hb dX11_undone_46 rfl (lv_at hl 0 rfl) ?_
          obtain ⟨g_19, h⟩ := zk_gd h
          have hSU : PSu cs (zSu cs S_a S_b court_suitCount.toInt.toNat S_who S_against S_kind S_won S_day S_land S_undoneFrom S_asked S_askedCount S_askedBits S_first S_foundSo S_foundNot S_fought S_needed ++ LP) court_suitCount court_suits S_a S_b S_who S_against S_kind S_won S_day S_land S_undoneFrom S_asked S_askedCount S_askedBits S_first S_foundSo S_foundNot S_fought S_needed := zSu_ok hSA
          obtain ⟨hs_20, ⟨_, hj_21⟩, ⟨_, hj_22⟩⟩ := hSU _ (zs_lt2 g_19)
          refine va_get (D := D) (ci := 7) (v := .int (S_undoneFrom r_1.toNatClampNeg)) (C := RX7) (T := TX7) (N := 15) hx hb ht iX7 hown hK hP _ (zPm hj_21 rfl) rfl 6 (by decide) (ht _ kw_332) (fun _ h9 => h9) rfl dX11_undone_47 ?_
          refine lv_iload_n hx hb dX11_undone_50 rfl (lv_at hl 3 rfl) ?_
          obtain ⟨u_23, u_24, u_25, u_26, u_27, u_28, u_29, u_30, u_31, hc_32, h⟩ := zk_o9 h
          refine zk_vvP (post := (fun u => u = (u_23, u_24, u_25, u_26, u_27, u_28, u_29, u_30, u_31))) (w1 := fun u => (wx_X1_make ad cs LP S_a S_b court_shoeCount court_claimCount court_suitCount u.1 court_suits u.2.1 u.2.2.1 u.2.2.2.1 u.2.2.2.2.1 u.2.2.2.2.2.1 u.2.2.2.2.2.2.1 S_who S_against S_kind u.2.2.2.2.2.2.2.1 S_day S_land u.2.2.2.2.2.2.2.2 S_asked S_askedCount S_askedBits S_first S_foundSo S_foundNot S_fought S_needed)) (pl1 := fun u => (zSu cs S_a S_b court_suitCount.toInt.toNat S_who S_against S_kind u.2.2.2.2.2.2.2.1 S_day S_land u.2.2.2.2.2.2.2.2 S_asked S_askedCount S_askedBits S_first S_foundSo S_foundNot S_fought S_needed ++ LP)) (As := [.int (1 : Int32), .int x1, .int (S_undoneFrom r_1.toNatClampNeg), .int x2]) (rest := []) (c_X1_make l D cs ad LP S_a S_b H.size (1 : Int32) x1 (S_undoneFrom r_1.toNatClampNeg) x2 court_shoeCount court_claimCount court_suitCount court_shoeDay court_suits chg_done chg_size chg_sorts chg_numbers chg_befores chg_afters S_who S_against S_kind S_won S_day S_land S_undoneFrom S_asked S_askedCount S_askedBits S_first S_foundSo S_foundNot S_fought S_needed hSA (u_23, u_24, u_25, u_26, u_27, u_28, u_29, u_30, u_31) hc_32) ⟨hx, hb, hml, hown, ht⟩ (cwV 4 ht g_X11_144 rfl rfl rfl ⟨rfl, hd_X1_make⟩ ⟨Nat.le_of_ble_eq_true rfl, Nat.le_of_ble_eq_true rfl⟩) (va_recv hK hP (ci := 1) (q0 := 4) rfl rfl) hP hD hS hK hA [1, 2, 3, 4, 5, 6, 7, 8] [0] rfl rfl rfl rfl (by decide) rfl hl.1 (Nat.le_of_ble_eq_true rfl) dX11_undone_51 ⟨Nat.zero_le _, Nat.zero_le _⟩ (fun u H locs hq hP hD hS => ?_)
          cases hq
          have hP : va_P D classes (wl_X11_undone ad cs LP S_a S_b court_shoeCount court_claimCount court_suitCount u_23 court_suits u_24 u_25 u_26 u_27 u_28 u_29 S_who S_against S_kind u_30 S_day S_land u_31 S_asked S_askedCount S_askedBits S_first S_foundSo S_foundNot S_fought S_needed) H := hP.part [0, 1, 2, 3, 4, 5, 6, 7, 8] rfl
          have hD : va_D A (wl_X11_undone ad cs LP S_a S_b court_shoeCount court_claimCount court_suitCount u_23 court_suits u_24 u_25 u_26 u_27 u_28 u_29 S_who S_against S_kind u_30 S_day S_land u_31 S_asked S_askedCount S_askedBits S_first S_foundSo S_foundNot S_fought S_needed) := hD.part [0, 1, 2, 3, 4, 5, 6, 7, 8] rfl rfl
          refine lv_iconst (v := (1 : Int32)) hx hb dX11_undone_54 (by decide) ?_
          exact W.iret (v := (1 : Int32)) hx hb hr (fun t ht2 hW => ⟨⟨(1 : Int32), (u_23, u_24, u_25, u_26, u_27, u_28, u_29, u_30, u_31), rfl, Option.some.inj h, by rw [ht2]; exact hP, hD⟩, hS.F ht2⟩) hS.2.2 dX11_undone_55 hlocks
        · have h := zk_f c_18 h
          refine lv_bipush (v := (-2 : Int32)) hx hb dX11_undone_37 (by decide) ?_
          exact W.iret (v := (-2 : Int32)) hx hb hr (fun t ht2 hW => ⟨⟨(-2 : Int32), (court_shoeDay, chg_done, chg_size, chg_sorts, chg_numbers, chg_befores, chg_afters, S_won, S_undoneFrom), rfl, Option.some.inj h, by rw [ht2]; exact hP, hD⟩, hS.F ht2⟩) hS.2.2 dX11_undone_39 hlocks
      · have h := zk_f c_13 h
        refine lv_iconst (v := (-1 : Int32)) hx hb dX11_undone_28 (by decide) ?_
        exact W.iret (v := (-1 : Int32)) hx hb hr (fun t ht2 hW => ⟨⟨(-1 : Int32), (court_shoeDay, chg_done, chg_size, chg_sorts, chg_numbers, chg_befores, chg_afters, S_won, S_undoneFrom), rfl, Option.some.inj h, by rw [ht2]; exact hP, hD⟩, hS.F ht2⟩) hS.2.2 dX11_undone_29 hlocks
set_option maxHeartbeats 4000000 in
set_option maxRecDepth 100000 in
theorem c_X11_undone (l : Launch) (D : va_G) (cs : Nat → ClassId) (ad : Nat → Nat) (LP : va_W) (S_a : Nat → Nat) (S_b : Nat → Nat) (sz : Nat) (x1 : Int32) (x2 : Int32) (court_shoeCount : Int32) (court_claimCount : Int32) (court_suitCount : Int32) (court_shoeDay : Nat → Int32) (court_suits : Nat → Option Nat) (chg_done : Int32) (chg_size : Int32) (chg_sorts : Nat → Int32) (chg_numbers : Nat → Int32) (chg_befores : Nat → Int32) (chg_afters : Nat → Int32) (S_who : Nat → Int32) (S_against : Nat → Int32) (S_kind : Nat → Int32) (S_won : Nat → Int32) (S_day : Nat → Int32) (S_land : Nat → Int32) (S_undoneFrom : Nat → Int32) (S_asked : Nat → Nat → Int32) (S_askedCount : Nat → Int32) (S_askedBits : Nat → Int32) (S_first : Nat → Int32) (S_foundSo : Nat → Int32) (S_foundNot : Nat → Int32) (S_fought : Nat → Int32) (S_needed : Nat → Int32) (hSA : ∀ i, i < court_suitCount.toInt.toNat → court_suits i = some (S_a i)) (R : Int32 × (Nat → Int32) × Int32 × Int32 × (Nat → Int32) × (Nat → Int32) × (Nat → Int32) × (Nat → Int32) × (Nat → Int32) × (Nat → Int32)) (h : f_X11_undone   x1 x2 court_shoeCount court_claimCount court_suitCount court_shoeDay court_suits chg_done chg_size chg_sorts chg_numbers chg_befores chg_afters S_who S_against S_kind S_won S_day S_land S_undoneFrom S_asked S_askedCount S_askedBits S_first S_foundSo S_foundNot S_fought S_needed = some R) : Met l yX11_undone (z_X11_undone) rm_X11_undone (va_Pc [.ref (ad 0), .int x1, .int x2] (zPre D cs (wl_X11_undone ad cs LP S_a S_b court_shoeCount court_claimCount court_suitCount court_shoeDay court_suits chg_done chg_size chg_sorts chg_numbers chg_befores chg_afters S_who S_against S_kind S_won S_day S_land S_undoneFrom S_asked S_askedCount S_askedBits S_first S_foundSo S_foundNot S_fought S_needed) sz)) (Q_X11_undone D cs ad LP S_a S_b court_shoeCount court_claimCount court_suitCount court_suits S_who S_against S_kind S_day S_land S_asked S_askedCount S_askedBits S_first S_foundSo S_foundNot S_fought S_needed (va_A (wl_X11_undone ad cs LP S_a S_b court_shoeCount court_claimCount court_suitCount court_shoeDay court_suits chg_done chg_size chg_sorts chg_numbers chg_befores chg_afters S_who S_against S_kind S_won S_day S_land S_undoneFrom S_asked S_askedCount S_askedBits S_first S_foundSo S_foundNot S_fought S_needed) sz) R) 0 0 (va_A (wl_X11_undone ad cs LP S_a S_b court_shoeCount court_claimCount court_suitCount court_shoeDay court_suits chg_done chg_size chg_sorts chg_numbers chg_befores chg_afters S_who S_against S_kind S_won S_day S_land S_undoneFrom S_asked S_askedCount S_askedBits S_first S_foundSo S_foundNot S_fought S_needed) sz) := by
  refine Met.ofW (cc := cX11_undone) (maxL := 4) (ret := (some .int)) (by decide) rfl ?_
  intro p e s m args below meth c s₁ B hml hv
  obtain ⟨rfl, hsz, hP, hK, hD0⟩ := hv
  subst hsz
  have hD := hD0.self (sz := s.heap.size)
  have C0 : zC p s m _ meth c cX11_undone 4 (some .int) RX11 zW := ⟨B.exec, B.bytes, B.returns, hml, findClass_of_methodNamed B.named, fun w hw => atoms_spec (ws := z_X11_undone) B.pre w (List.mem_cons_of_mem _ hw), B.notSynchronized⟩
  have hA : ∀ q : Nat, s.heap.size ≤ q → va_A (wl_X11_undone ad cs LP S_a S_b court_shoeCount court_claimCount court_suitCount court_shoeDay court_suits chg_done chg_size chg_sorts chg_numbers chg_befores chg_afters S_who S_against S_kind S_won S_day S_land S_undoneFrom S_asked S_askedCount S_askedBits S_first S_foundSo S_foundNot S_fought S_needed) s.heap.size q := fun q h => Or.inr h
  have hl := lv_entry ([.ref (ad 0), .int x1, .int x2]) (n := 4) (Nat.le_of_ble_eq_true rfl)
  rw [lg_entry_eq]
  generalize (lg_sl ([.ref (ad 0), .int x1, .int x2]) ++ List.replicate (4 - (lg_sl ([.ref (ad 0), .int x1, .int x2])).length) Slot.unset).toArray = ls at hl ⊢
  exact L_X11_undone_0 C0 hK hA hSA   x1 x2 court_shoeDay chg_done chg_size chg_sorts chg_numbers chg_befores chg_afters S_won S_undoneFrom h s.heap [] ls hP hD va_S.rf hl
theorem kw_978 : Cond.methodLink RX11 235 yX3_isCounting ∈ zW := zwC (i := 184) zc_4 rfl rfl
theorem zh_cX11_counts_0 : zck [42, 180, 0, 10, 27, 182, 0, 207, 58, 4, 25, 4, 198, 0, 17, 28, 184, 0, 141, 153, 0, 10] (zdu 0 cX11_counts.data.toList) = true := by decide +kernel
theorem dX11_counts_0 : decode cX11_counts 0 = .ok (.aload_n 0, 1) := zo_42 zh_cX11_counts_0 0 rfl
theorem dX11_counts_1 : decode cX11_counts 1 = .ok (.getfield 10, 3) := zo_180 zh_cX11_counts_0 1 rfl
theorem dX11_counts_4 : decode cX11_counts 4 = .ok (.iload_n 1, 1) := zo_27 zh_cX11_counts_0 4 rfl
theorem dX11_counts_5 : decode cX11_counts 5 = .ok (.invokevirtual 207, 3) := zo_182 zh_cX11_counts_0 5 rfl
theorem dX11_counts_8 : decode cX11_counts 8 = .ok (.astore 4, 2) := zo_58 zh_cX11_counts_0 8 rfl
theorem dX11_counts_10 : decode cX11_counts 10 = .ok (.aload 4, 2) := zo_25 zh_cX11_counts_0 10 rfl
theorem dX11_counts_12 : decode cX11_counts 12 = .ok (.ifnull 17, 3) := zo_p198 zh_cX11_counts_0 12 17 rfl rfl
theorem dX11_counts_15 : decode cX11_counts 15 = .ok (.iload_n 2, 1) := zo_28 zh_cX11_counts_0 15 rfl
theorem dX11_counts_16 : decode cX11_counts 16 = .ok (.invokestatic 141, 3) := zo_184 zh_cX11_counts_0 16 rfl
theorem dX11_counts_19 : decode cX11_counts 19 = .ok (.ifCond .eq 10, 3) := zo_p153 zh_cX11_counts_0 19 10 rfl rfl
theorem zh_cX11_counts_1 : zck [0, 10, 29, 184, 0, 151, 154, 0, 5, 2, 172, 42, 180, 0, 21, 28, 29, 182, 0, 157, 42, 180] (zdu 20 cX11_counts.data.toList) = true := by decide +kernel
theorem dX11_counts_22 : decode cX11_counts 22 = .ok (.iload_n 3, 1) := zo_29 zh_cX11_counts_1 2 rfl
theorem dX11_counts_23 : decode cX11_counts 23 = .ok (.invokestatic 151, 3) := zo_184 zh_cX11_counts_1 3 rfl
theorem dX11_counts_26 : decode cX11_counts 26 = .ok (.ifCond .ne 5, 3) := zo_p154 zh_cX11_counts_1 6 5 rfl rfl
theorem dX11_counts_29 : decode cX11_counts 29 = .ok (.iconst (-1), 1) := zo_2 zh_cX11_counts_1 9 rfl
theorem dX11_counts_30 : decode cX11_counts 30 = .ok (.ireturn, 1) := zo_172 zh_cX11_counts_1 10 rfl
theorem dX11_counts_31 : decode cX11_counts 31 = .ok (.aload_n 0, 1) := zo_42 zh_cX11_counts_1 11 rfl
theorem dX11_counts_32 : decode cX11_counts 32 = .ok (.getfield 21, 3) := zo_180 zh_cX11_counts_1 12 rfl
theorem dX11_counts_35 : decode cX11_counts 35 = .ok (.iload_n 2, 1) := zo_28 zh_cX11_counts_1 15 rfl
theorem dX11_counts_36 : decode cX11_counts 36 = .ok (.iload_n 3, 1) := zo_29 zh_cX11_counts_1 16 rfl
theorem dX11_counts_37 : decode cX11_counts 37 = .ok (.invokevirtual 157, 3) := zo_182 zh_cX11_counts_1 17 rfl
theorem zh_cX11_counts_2 : zck [42, 180, 0, 21, 25, 4, 182, 0, 235, 153, 0, 7, 4, 167, 0, 4, 3, 172] (zdu 40 cX11_counts.data.toList) = true := by decide +kernel
theorem dX11_counts_40 : decode cX11_counts 40 = .ok (.aload_n 0, 1) := zo_42 zh_cX11_counts_2 0 rfl
theorem dX11_counts_41 : decode cX11_counts 41 = .ok (.getfield 21, 3) := zo_180 zh_cX11_counts_2 1 rfl
theorem dX11_counts_44 : decode cX11_counts 44 = .ok (.aload 4, 2) := zo_25 zh_cX11_counts_2 4 rfl
theorem dX11_counts_46 : decode cX11_counts 46 = .ok (.invokevirtual 235, 3) := zo_182 zh_cX11_counts_2 6 rfl
theorem dX11_counts_49 : decode cX11_counts 49 = .ok (.ifCond .eq 7, 3) := zo_p153 zh_cX11_counts_2 9 7 rfl rfl
theorem dX11_counts_52 : decode cX11_counts 52 = .ok (.iconst 1, 1) := zo_4 zh_cX11_counts_2 12 rfl
theorem dX11_counts_53 : decode cX11_counts 53 = .ok (.goto 4, 3) := zo_p167 zh_cX11_counts_2 13 4 rfl rfl
theorem dX11_counts_56 : decode cX11_counts 56 = .ok (.iconst 0, 1) := zo_3 zh_cX11_counts_2 16 rfl
theorem dX11_counts_57 : decode cX11_counts 57 = .ok (.ireturn, 1) := zo_172 zh_cX11_counts_2 17 rfl
abbrev z_X11_counts : List Cond := .code yX11_counts cX11_counts 5 (some .int) :: zW
abbrev wx_X11_counts (ad : Nat → Nat) (cs : Nat → ClassId) (PL : va_W) (S_a : Nat → Nat) (S_b : Nat → Nat) (L_a : Nat → Nat) (L_b : Nat → Nat) (court_shoeCount : Int32) (court_claimCount : Int32) (court_suitCount : Int32) (court_suits : Nat → Option Nat) (court_laws : Nat → Option Nat) (inq_day : Int32) (inq_land : Int32) (inq_shoeLeftOut : Int32) (inq_names : Nat → Int32) (inq_stack : Nat → Int32) (inq_judgedShoes : Nat → Int64) (inq_bindingShoes : Nat → Int64) (S_who : Nat → Int32) (S_against : Nat → Int32) (S_kind : Nat → Int32) (S_won : Nat → Int32) (S_day : Nat → Int32) (S_land : Nat → Int32) (S_undoneFrom : Nat → Int32) (S_asked : Nat → Nat → Int32) (S_askedCount : Nat → Int32) (S_askedBits : Nat → Int32) (S_first : Nat → Int32) (S_foundSo : Nat → Int32) (S_foundNot : Nat → Int32) (S_fought : Nat → Int32) (S_needed : Nat → Int32) (L_n : Nat → Nat) (L_code : Nat → Nat → Int32) : va_W := [((ad 0), .inr (11, [.ref (ad 4), .ref (ad 15), .ref (ad 23), .ref (ad 25), .ref (ad 26), .ref (ad 28), .ref (ad 34), .ref (ad 39), .ref (ad 1), .ref (ad 2), .ref (ad 3)])), ((ad 4), .inr (2, [.ref (ad 5), .ref (ad 6), .ref (ad 7), .ref (ad 8), .ref (ad 9), .ref (ad 10), .ref (ad 11), .ref (ad 12), .ref (ad 13), .ref (ad 14), .int court_shoeCount, .int court_claimCount, .int court_suitCount])), ((ad 13), .inl (cs 5, 40, .inr (.inr (.inr (.inr court_suits))))), ((ad 14), .inl (cs 6, 32, .inr (.inr (.inr (.inr court_laws))))), ((ad 15), .inr (3, [.ref (ad 4), .ref (ad 16), .ref (ad 17), .ref (ad 18), .ref (ad 19), .ref (ad 20), .ref (ad 21), .ref (ad 22), .int inq_day, .int inq_land, .int inq_shoeLeftOut])), ((ad 16), .inl (cs 0, 11, .inl inq_names)), ((ad 17), .inl (cs 0, 36, .inl inq_stack)), ((ad 18), .inl (cs 1, 7, .inr (.inl inq_judgedShoes))), ((ad 19), .inl (cs 1, 7, .inr (.inl inq_bindingShoes)))]
abbrev wl_X11_counts (ad : Nat → Nat) (cs : Nat → ClassId) (PL : va_W) (S_a : Nat → Nat) (S_b : Nat → Nat) (L_a : Nat → Nat) (L_b : Nat → Nat) (court_shoeCount : Int32) (court_claimCount : Int32) (court_suitCount : Int32) (court_suits : Nat → Option Nat) (court_laws : Nat → Option Nat) (inq_day : Int32) (inq_land : Int32) (inq_shoeLeftOut : Int32) (inq_names : Nat → Int32) (inq_stack : Nat → Int32) (inq_judgedShoes : Nat → Int64) (inq_bindingShoes : Nat → Int64) (S_who : Nat → Int32) (S_against : Nat → Int32) (S_kind : Nat → Int32) (S_won : Nat → Int32) (S_day : Nat → Int32) (S_land : Nat → Int32) (S_undoneFrom : Nat → Int32) (S_asked : Nat → Nat → Int32) (S_askedCount : Nat → Int32) (S_askedBits : Nat → Int32) (S_first : Nat → Int32) (S_foundSo : Nat → Int32) (S_foundNot : Nat → Int32) (S_fought : Nat → Int32) (S_needed : Nat → Int32) (L_n : Nat → Nat) (L_code : Nat → Nat → Int32) : va_W := wx_X11_counts ad cs PL S_a S_b L_a L_b court_shoeCount court_claimCount court_suitCount court_suits court_laws inq_day inq_land inq_shoeLeftOut inq_names inq_stack inq_judgedShoes inq_bindingShoes S_who S_against S_kind S_won S_day S_land S_undoneFrom S_asked S_askedCount S_askedBits S_first S_foundSo S_foundNot S_fought S_needed L_n L_code ++ PL
def Q_X11_counts (D : va_G) (cs : Nat → ClassId) (ad : Nat → Nat) (PL : va_W) (S_a : Nat → Nat) (S_b : Nat → Nat) (L_a : Nat → Nat) (L_b : Nat → Nat) (court_shoeCount : Int32) (court_claimCount : Int32) (court_suitCount : Int32) (court_suits : Nat → Option Nat) (court_laws : Nat → Option Nat) (S_who : Nat → Int32) (S_against : Nat → Int32) (S_kind : Nat → Int32) (S_won : Nat → Int32) (S_day : Nat → Int32) (S_land : Nat → Int32) (S_undoneFrom : Nat → Int32) (S_asked : Nat → Nat → Int32) (S_askedCount : Nat → Int32) (S_askedBits : Nat → Int32) (S_first : Nat → Int32) (S_foundSo : Nat → Int32) (S_foundNot : Nat → Int32) (S_fought : Nat → Int32) (S_needed : Nat → Int32) (L_n : Nat → Nat) (L_code : Nat → Nat → Int32) (A : Nat → Prop) (R : Int32 × Int32 × Int32 × Int32 × (Nat → Int32) × (Nat → Int32) × (Nat → Int64) × (Nat → Int64)) : Array Value → State → Outcome → State → Prop :=
  va_Qi (fun (r : Int32) (u : Int32 × Int32 × Int32 × (Nat → Int32) × (Nat → Int32) × (Nat → Int64) × (Nat → Int64)) => (r, u) = R) (fun (u : Int32 × Int32 × Int32 × (Nat → Int32) × (Nat → Int32) × (Nat → Int64) × (Nat → Int64)) (t : State) => va_P D classes (wl_X11_counts ad cs PL S_a S_b L_a L_b court_shoeCount court_claimCount court_suitCount court_suits court_laws u.1 u.2.1 u.2.2.1 u.2.2.2.1 u.2.2.2.2.1 u.2.2.2.2.2.1 u.2.2.2.2.2.2 S_who S_against S_kind S_won S_day S_land S_undoneFrom S_asked S_askedCount S_askedBits S_first S_foundSo S_foundNot S_fought S_needed L_n L_code) t.heap ∧ va_D A (wl_X11_counts ad cs PL S_a S_b L_a L_b court_shoeCount court_claimCount court_suitCount court_suits court_laws u.1 u.2.1 u.2.2.1 u.2.2.2.1 u.2.2.2.2.1 u.2.2.2.2.2.1 u.2.2.2.2.2.2 S_who S_against S_kind S_won S_day S_land S_undoneFrom S_asked S_askedCount S_askedBits S_first S_foundSo S_foundNot S_fought S_needed L_n L_code)) A
abbrev rm_X11_counts : Room := { frames := 4, cells := 0, slots := 0, locals := 91 }
theorem g_X11_235 : GoodIn zW (wsV RX11 235 RX3 yX3_isCounting z_X3_isCounting) := zGV kw_978 kw_979 kw_980 kw_77 kw_981
def B_X11_counts_0    (court_shoeCount : Int32) (court_claimCount : Int32) (court_suitCount : Int32) (court_suits : Nat → Option Nat) (court_laws : Nat → Option Nat) (S_who : Nat → Int32) (S_against : Nat → Int32) (S_kind : Nat → Int32) (S_won : Nat → Int32) (S_day : Nat → Int32) (S_land : Nat → Int32) (S_undoneFrom : Nat → Int32) (S_asked : Nat → Nat → Int32) (S_askedCount : Nat → Int32) (S_askedBits : Nat → Int32) (S_first : Nat → Int32) (S_foundSo : Nat → Int32) (S_foundNot : Nat → Int32) (S_fought : Nat → Int32) (S_needed : Nat → Int32) (L_n : Nat → Nat) (L_code : Nat → Nat → Int32) (x1 : Int32) (x2 : Int32) (x3 : Int32) (inq_day : Int32) (inq_land : Int32) (inq_shoeLeftOut : Int32) (inq_names : Nat → Int32) (inq_stack : Nat → Int32) (inq_judgedShoes : Nat → Int64) (inq_bindingShoes : Nat → Int64) : Option (Int32 × Int32 × Int32 × Int32 × (Nat → Int32) × (Nat → Int32) × (Nat → Int64) × (Nat → Int64)) :=
  (zk_b2 (f_X2_suitAt x1 court_shoeCount court_claimCount court_suitCount court_suits S_who S_against S_kind S_won S_day S_land S_undoneFrom S_asked S_askedCount S_askedBits S_first S_foundSo S_foundNot S_fought S_needed) (fun r_1 u_2 => (if r_1 < 0 then (some ((-1 : Int32), inq_day, inq_land, inq_shoeLeftOut, inq_names, inq_stack, inq_judgedShoes, inq_bindingShoes)) else (zk_b2 (f_X11_isDay x2) (fun r_5 u_6 => (if r_5 = 0 then (some ((-1 : Int32), inq_day, inq_land, inq_shoeLeftOut, inq_names, inq_stack, inq_judgedShoes, inq_bindingShoes)) else (zk_b2 (f_X11_isLand x3) (fun r_9 u_10 => (if r_9 = 0 then (some ((-1 : Int32), inq_day, inq_land, inq_shoeLeftOut, inq_names, inq_stack, inq_judgedShoes, inq_bindingShoes)) else (zk_b5 (f_X3_turnTo x2 x3 inq_day inq_land inq_shoeLeftOut inq_judgedShoes inq_bindingShoes) (fun u_13 u_14 u_15 u_16 u_17 => (if (r_1 < 0 ∨ court_suitCount ≤ r_1) then none else (zk_b3 (f_X3_isCounting court_shoeCount court_claimCount court_suitCount court_laws u_13 u_14 u_15 inq_names inq_stack (S_who r_1.toNatClampNeg) (S_against r_1.toNatClampNeg) (S_kind r_1.toNatClampNeg) (S_won r_1.toNatClampNeg) (S_day r_1.toNatClampNeg) (S_land r_1.toNatClampNeg) (S_undoneFrom r_1.toNatClampNeg) (S_askedCount r_1.toNatClampNeg) (S_askedBits r_1.toNatClampNeg) (S_first r_1.toNatClampNeg) (S_foundSo r_1.toNatClampNeg) (S_foundNot r_1.toNatClampNeg) (S_fought r_1.toNatClampNeg) (S_needed r_1.toNatClampNeg) L_n L_code) (fun r_23 u_24 u_25 => (if r_23 = 0 then (some ((0 : Int32), u_13, u_14, u_15, u_24, u_25, u_16, u_17)) else (some ((1 : Int32), u_13, u_14, u_15, u_24, u_25, u_16, u_17)))))))))))))))))
def f_X11_counts   (x1 : Int32) (x2 : Int32) (x3 : Int32) (court_shoeCount : Int32) (court_claimCount : Int32) (court_suitCount : Int32) (court_suits : Nat → Option Nat) (court_laws : Nat → Option Nat) (inq_day : Int32) (inq_land : Int32) (inq_shoeLeftOut : Int32) (inq_names : Nat → Int32) (inq_stack : Nat → Int32) (inq_judgedShoes : Nat → Int64) (inq_bindingShoes : Nat → Int64) (S_who : Nat → Int32) (S_against : Nat → Int32) (S_kind : Nat → Int32) (S_won : Nat → Int32) (S_day : Nat → Int32) (S_land : Nat → Int32) (S_undoneFrom : Nat → Int32) (S_asked : Nat → Nat → Int32) (S_askedCount : Nat → Int32) (S_askedBits : Nat → Int32) (S_first : Nat → Int32) (S_foundSo : Nat → Int32) (S_foundNot : Nat → Int32) (S_fought : Nat → Int32) (S_needed : Nat → Int32) (L_n : Nat → Nat) (L_code : Nat → Nat → Int32) : Option (Int32 × Int32 × Int32 × Int32 × (Nat → Int32) × (Nat → Int32) × (Nat → Int64) × (Nat → Int64)) := B_X11_counts_0   court_shoeCount court_claimCount court_suitCount court_suits court_laws S_who S_against S_kind S_won S_day S_land S_undoneFrom S_asked S_askedCount S_askedBits S_first S_foundSo S_foundNot S_fought S_needed L_n L_code x1 x2 x3 inq_day inq_land inq_shoeLeftOut inq_names inq_stack inq_judgedShoes inq_bindingShoes
set_option maxHeartbeats 4000000 in
set_option maxRecDepth 100000 in
theorem L_X11_counts_0 {p : Program} {l : Launch} {e : Env} {s : State} {m : MethodId} {args : Array Value} {below : List Frame} {meth : Method} {c : Code} {A : Nat → Prop} {D : va_G} {cs : Nat → ClassId} {ad : Nat → Nat} {PL : va_W} {S_a : Nat → Nat} {S_b : Nat → Nat} {L_a : Nat → Nat} {L_b : Nat → Nat} {court_shoeCount : Int32} {court_claimCount : Int32} {court_suitCount : Int32} {court_suits : Nat → Option Nat} {court_laws : Nat → Option Nat} {S_who : Nat → Int32} {S_against : Nat → Int32} {S_kind : Nat → Int32} {S_won : Nat → Int32} {S_day : Nat → Int32} {S_land : Nat → Int32} {S_undoneFrom : Nat → Int32} {S_asked : Nat → Nat → Int32} {S_askedCount : Nat → Int32} {S_askedBits : Nat → Int32} {S_first : Nat → Int32} {S_foundSo : Nat → Int32} {S_foundNot : Nat → Int32} {S_fought : Nat → Int32} {S_needed : Nat → Int32} {L_n : Nat → Nat} {L_code : Nat → Nat → Int32} {R : Int32 × Int32 × Int32 × Int32 × (Nat → Int32) × (Nat → Int32) × (Nat → Int64) × (Nat → Int64)} (C0 : zC p s m args meth c cX11_counts 5 (some .int) RX11 zW) (hK : va_K D classes (zT cs) s) (hA : ∀ q : Nat, s.heap.size ≤ q → A q) (hSU : PSu cs PL court_suitCount court_suits S_a S_b S_who S_against S_kind S_won S_day S_land S_undoneFrom S_asked S_askedCount S_askedBits S_first S_foundSo S_foundNot S_fought S_needed) (hLA : PLa cs PL court_laws L_a L_b L_n L_code) (x1 : Int32) (x2 : Int32) (x3 : Int32) (inq_day : Int32) (inq_land : Int32) (inq_shoeLeftOut : Int32) (inq_names : Nat → Int32) (inq_stack : Nat → Int32) (inq_judgedShoes : Nat → Int64) (inq_bindingShoes : Nat → Int64) (h : B_X11_counts_0 court_shoeCount court_claimCount court_suitCount court_suits court_laws S_who S_against S_kind S_won S_day S_land S_undoneFrom S_asked S_askedCount S_askedBits S_first S_foundSo S_foundNot S_fought S_needed L_n L_code x1 x2 x3 inq_day inq_land inq_shoeLeftOut inq_names inq_stack inq_judgedShoes inq_bindingShoes = some R) (H : Heap) (locs : List Loc) (ls : Array Slot) (hP : va_P D classes (wl_X11_counts ad cs PL S_a S_b L_a L_b court_shoeCount court_claimCount court_suitCount court_suits court_laws inq_day inq_land inq_shoeLeftOut inq_names inq_stack inq_judgedShoes inq_bindingShoes S_who S_against S_kind S_won S_day S_land S_undoneFrom S_asked S_askedCount S_askedBits S_first S_foundSo S_foundNot S_fought S_needed L_n L_code) H) (hD : va_D A (wl_X11_counts ad cs PL S_a S_b L_a L_b court_shoeCount court_claimCount court_suitCount court_suits court_laws inq_day inq_land inq_shoeLeftOut inq_names inq_stack inq_judgedShoes inq_bindingShoes S_who S_against S_kind S_won S_day S_land S_undoneFrom S_asked S_askedCount S_askedBits S_first S_foundSo S_foundNot S_fought S_needed L_n L_code)) (hS : va_S A s.heap H locs) (hl : lv_has ls 5 [(0, .ref (ad 0)), (1, .int x1), (2, .int x2), (3, .int x3)]) : W p l e rm_X11_counts s m args below meth c H locs 0 0 (MQ below (Q_X11_counts D cs ad PL S_a S_b L_a L_b court_shoeCount court_claimCount court_suitCount court_suits court_laws S_who S_against S_kind S_won S_day S_land S_undoneFrom S_asked S_askedCount S_askedBits S_first S_foundSo S_foundNot S_fought S_needed L_n L_code A R) args s 0 0 A) (F0 m 0 ls []) := by
  obtain ⟨hx, hb, hr, hml, hown, ht, hlocks⟩ := id C0
  refine lv_aload_n hx hb dX11_counts_0 rfl (lv_at hl 0 rfl) ?_
  refine va_get (D := D) (ci := 11) (v := .ref (ad 4)) (C := RX11) (T := TX11) (N := 11) hx hb ht iX11 hown hK hP 0 rfl rfl 0 (by decide) (ht _ kw_696) (fun _ h9 => h9) rfl dX11_counts_1 ?_
  refine lv_iload_n hx hb dX11_counts_4 rfl (lv_at hl 1 rfl) ?_
  obtain ⟨r_1, u_2, hc_3, h⟩ := zk_o2 h
  refine zz_vqP (post := (fun r u => r = (if r_1 < 0 then none else some (S_a r_1.toNatClampNeg)) ∧ u = (u_2))) (w1 := fun u => (wx_X2_suitAt ad cs PL S_a S_b court_shoeCount court_claimCount court_suitCount court_suits S_who S_against S_kind S_won S_day S_land S_undoneFrom S_asked S_askedCount S_askedBits S_first S_foundSo S_foundNot S_fought S_needed)) (PL := PL) (As := [.int x1]) (rest := []) (c_X2_suitAt l D cs ad PL S_a S_b H.size x1 court_shoeCount court_claimCount court_suitCount court_suits S_who S_against S_kind S_won S_day S_land S_undoneFrom S_asked S_askedCount S_askedBits S_first S_foundSo S_foundNot S_fought S_needed hSU (r_1, u_2) hc_3) ⟨hx, hb, hml, hown, ht⟩ (cwV 1 ht g_X11_207 rfl rfl rfl ⟨rfl, hd_X2_suitAt⟩ ⟨Nat.le_of_ble_eq_true rfl, Nat.le_of_ble_eq_true rfl⟩) (va_recv hK hP (ci := 2) (q0 := 1) rfl rfl) hP hD hS hK hA [1, 2] rfl rfl [(ad 4), (ad 13)] rfl (fun _ => rfl) rfl hl.1 (Nat.le_of_ble_eq_true rfl) dX11_counts_5 ⟨Nat.zero_le _, Nat.zero_le _⟩ (fun r u H locs hq hP hS => ?_)
  obtain ⟨hq1, hq2⟩ := hq; cases hq2; subst hq1
  have hP : va_P D classes (wl_X11_counts ad cs PL S_a S_b L_a L_b court_shoeCount court_claimCount court_suitCount court_suits court_laws inq_day inq_land inq_shoeLeftOut inq_names inq_stack inq_judgedShoes inq_bindingShoes S_who S_against S_kind S_won S_day S_land S_undoneFrom S_asked S_askedCount S_askedBits S_first S_foundSo S_foundNot S_fought S_needed L_n L_code) H := hP
  have hD : va_D A (wl_X11_counts ad cs PL S_a S_b L_a L_b court_shoeCount court_claimCount court_suitCount court_suits court_laws inq_day inq_land inq_shoeLeftOut inq_names inq_stack inq_judgedShoes inq_bindingShoes S_who S_against S_kind S_won S_day S_land S_undoneFrom S_asked S_askedCount S_askedBits S_first S_foundSo S_foundNot S_fought S_needed L_n L_code) := zDkp hD [(ad 0), (ad 4), (ad 13), (ad 14), (ad 15), (ad 16), (ad 17), (ad 18), (ad 19)] rfl rfl
  by_cases c_4 : r_1 < 0
  · have h := zk_t c_4 h
    refine W.eq (g2 := F0 m 8 ls [.null]) (by rw [if_pos c_4]; rfl) ?_
    refine lv_astoreN (lv' := [(4, .null), (0, .ref (ad 0)), (1, .int x1), (2, .int x2), (3, .int x3)]) hx hb dX11_counts_8 hl (by decide) rfl (fun ls hl => ?_)
    refine lv_aloadN hx hb dX11_counts_10 (lv_at hl 0 rfl) ?_
    refine lv_ifnullN (tgt := 29) hx hb dX11_counts_12 (by decide) ?_
    refine lv_iconst (v := (-1 : Int32)) hx hb dX11_counts_29 (by decide) ?_
    exact W.iret (v := (-1 : Int32)) hx hb hr (fun t ht2 hW => ⟨⟨(-1 : Int32), (inq_day, inq_land, inq_shoeLeftOut, inq_names, inq_stack, inq_judgedShoes, inq_bindingShoes), rfl, Option.some.inj h, by rw [ht2]; exact hP, hD⟩, hS.F ht2⟩) hS.2.2 dX11_counts_30 hlocks
  · have h := zk_f c_4 h
    refine W.eq (g2 := F0 m 8 ls [.ref (S_a r_1.toNatClampNeg)]) (by rw [if_neg c_4]; rfl) ?_
    refine lv_astore (lv' := [(4, .ref (S_a r_1.toNatClampNeg)), (0, .ref (ad 0)), (1, .int x1), (2, .int x2), (3, .int x3)]) hx hb dX11_counts_8 hl (by decide) rfl (fun ls hl => ?_)
    refine lv_aload hx hb dX11_counts_10 (lv_at hl 0 rfl) ?_
    refine lv_ifnull hx hb dX11_counts_12 ?_
    refine lv_iload_n hx hb dX11_counts_15 rfl (lv_at hl 3 rfl) ?_
    obtain ⟨r_5, u_6, hc_7, h⟩ := zk_o2 h
    refine zz_siQ (post := (fun r u => (r, u) = (r_5, u_6))) (w1 := fun u => (wl_X11_isDay ad cs )) (As := [.int x2]) (rest := []) (c_X11_isDay l D cs ad  H.size x2 (r_5, u_6) hc_7) ⟨hx, hb, hml, hown, ht⟩ (va_cwS 1 ht g_X11_141 rfl rfl rfl hd_X11_isDay ⟨Nat.le_of_ble_eq_true rfl, Nat.le_of_ble_eq_true rfl⟩) hP hD hS hK hA [] rfl rfl [] rfl (fun _ => rfl) rfl hl.1 (Nat.le_of_ble_eq_true rfl) dX11_counts_16 ⟨Nat.zero_le _, Nat.zero_le _⟩ (fun r u H locs hq hP hS => ?_)
    cases hq
    have hP : va_P D classes (wl_X11_counts ad cs PL S_a S_b L_a L_b court_shoeCount court_claimCount court_suitCount court_suits court_laws inq_day inq_land inq_shoeLeftOut inq_names inq_stack inq_judgedShoes inq_bindingShoes S_who S_against S_kind S_won S_day S_land S_undoneFrom S_asked S_askedCount S_askedBits S_first S_foundSo S_foundNot S_fought S_needed L_n L_code) H := hP
    refine lv_if_eq (tgt := 29) hx hb dX11_counts_19 (by decide) (fun c_8 => ?_) (fun c_8 => ?_)
    · have h := zk_t c_8 h
      refine lv_iconst (v := (-1 : Int32)) hx hb dX11_counts_29 (by decide) ?_
      exact W.iret (v := (-1 : Int32)) hx hb hr (fun t ht2 hW => ⟨⟨(-1 : Int32), (inq_day, inq_land, inq_shoeLeftOut, inq_names, inq_stack, inq_judgedShoes, inq_bindingShoes), rfl, Option.some.inj h, by rw [ht2]; exact hP, hD⟩, hS.F ht2⟩) hS.2.2 dX11_counts_30 hlocks
    · have h := zk_f c_8 h
      refine lv_iload_n hx hb dX11_counts_22 rfl (lv_at hl 4 rfl) ?_
      obtain ⟨r_9, u_10, hc_11, h⟩ := zk_o2 h
      refine zz_siQ (post := (fun r u => (r, u) = (r_9, u_10))) (w1 := fun u => (wl_X11_isLand ad cs )) (As := [.int x3]) (rest := []) (c_X11_isLand l D cs ad  H.size x3 (r_9, u_10) hc_11) ⟨hx, hb, hml, hown, ht⟩ (va_cwS 1 ht g_X11_151 rfl rfl rfl hd_X11_isLand ⟨Nat.le_of_ble_eq_true rfl, Nat.le_of_ble_eq_true rfl⟩) hP hD hS hK hA [] rfl rfl [] rfl (fun _ => rfl) rfl hl.1 (Nat.le_of_ble_eq_true rfl) dX11_counts_23 ⟨Nat.zero_le _, Nat.zero_le _⟩ (fun r u H locs hq hP hS => ?_)
      cases hq
      have hP : va_P D classes (wl_X11_counts ad cs PL S_a S_b L_a L_b court_shoeCount court_claimCount court_suitCount court_suits court_laws inq_day inq_land inq_shoeLeftOut inq_names inq_stack inq_judgedShoes inq_bindingShoes S_who S_against S_kind S_won S_day S_land S_undoneFrom S_asked S_askedCount S_askedBits S_first S_foundSo S_foundNot S_fought S_needed L_n L_code) H := hP
      refine lv_if_ne (tgt := 31) hx hb dX11_counts_26 (by decide) (fun c_12 => ?_) (fun c_12 => ?_)
      · have h := zk_f c_12 h
        refine lv_aload_n hx hb dX11_counts_31 rfl (lv_at hl 1 rfl) ?_
        refine va_get (D := D) (ci := 11) (v := .ref (ad 15)) (C := RX11) (T := TX11) (N := 11) hx hb ht iX11 hown hK hP 0 rfl rfl 1 (by decide) (ht _ kw_697) (fun _ h9 => h9) rfl dX11_counts_32 ?_
        refine lv_iload_n hx hb dX11_counts_35 rfl (lv_at hl 3 rfl) ?_
        refine lv_iload_n hx hb dX11_counts_36 rfl (lv_at hl 4 rfl) ?_
        obtain ⟨u_13, u_14, u_15, u_16, u_17, hc_18, h⟩ := zk_o5 h
        refine zz_vvQ (post := (fun u => u = (u_13, u_14, u_15, u_16, u_17))) (w1 := fun u => (wl_X3_turnTo ad cs u.1 u.2.1 u.2.2.1 u.2.2.2.1 u.2.2.2.2)) (As := [.int x2, .int x3]) (rest := []) (c_X3_turnTo l D cs ad  H.size x2 x3 inq_day inq_land inq_shoeLeftOut inq_judgedShoes inq_bindingShoes (u_13, u_14, u_15, u_16, u_17) hc_18) ⟨hx, hb, hml, hown, ht⟩ (cwV 2 ht g_X11_157 rfl rfl rfl ⟨rfl, hd_X3_turnTo⟩ ⟨Nat.le_of_ble_eq_true rfl, Nat.le_of_ble_eq_true rfl⟩) (va_recv hK hP (ci := 3) (q0 := 4) rfl rfl) hP hD hS hK hA [4, 7, 8] rfl rfl [(ad 15), (ad 18), (ad 19)] rfl (fun _ => rfl) rfl hl.1 (Nat.le_of_ble_eq_true rfl) dX11_counts_37 ⟨Nat.zero_le _, Nat.zero_le _⟩ (fun u H locs hq hP hS => ?_)
        cases hq
        have hP : va_P D classes (wl_X11_counts ad cs PL S_a S_b L_a L_b court_shoeCount court_claimCount court_suitCount court_suits court_laws u_13 u_14 u_15 inq_names inq_stack u_16 u_17 S_who S_against S_kind S_won S_day S_land S_undoneFrom S_asked S_askedCount S_askedBits S_first S_foundSo S_foundNot S_fought S_needed L_n L_code) H := hP
        have hD : va_D A (wl_X11_counts ad cs PL S_a S_b L_a L_b court_shoeCount court_claimCount court_suitCount court_suits court_laws u_13 u_14 u_15 inq_names inq_stack u_16 u_17 S_who S_against S_kind S_won S_day S_land S_undoneFrom S_asked S_askedCount S_askedBits S_first S_foundSo S_foundNot S_fought S_needed L_n L_code) := zDkp hD [(ad 0), (ad 4), (ad 13), (ad 14), (ad 15), (ad 16), (ad 17), (ad 18), (ad 19)] rfl rfl
        refine lv_aload_n hx hb dX11_counts_40 rfl (lv_at hl 1 rfl) ?_
        refine va_get (D := D) (ci := 11) (v := .ref (ad 15)) (C := RX11) (T := TX11) (N := 11) hx hb ht iX11 hown hK hP 0 rfl rfl 1 (by decide) (ht _ kw_697) (fun _ h9 => h9) rfl dX11_counts_41 ?_
        refine lv_aload hx hb dX11_counts_44 (lv_at hl 0 rfl) ?_
        obtain ⟨g_19, h⟩ := zk_gd h
        obtain ⟨hs_20, ⟨_, hj_21⟩, ⟨_, hj_22⟩⟩ := hSU _ (zs_lt2 g_19)
        obtain ⟨r_23, u_24, u_25, hc_26, h⟩ := zk_o3 h
        refine zz_viP (post := (fun r u => (r, u) = (r_23, u_24, u_25))) (w1 := fun u => (wx_X3_isCounting ad cs PL L_a L_b (S_a r_1.toNatClampNeg) (S_b r_1.toNatClampNeg) court_shoeCount court_claimCount court_suitCount court_laws u_13 u_14 u_15 u.1 u.2 (S_who r_1.toNatClampNeg) (S_against r_1.toNatClampNeg) (S_kind r_1.toNatClampNeg) (S_won r_1.toNatClampNeg) (S_day r_1.toNatClampNeg) (S_land r_1.toNatClampNeg) (S_undoneFrom r_1.toNatClampNeg) (S_askedCount r_1.toNatClampNeg) (S_askedBits r_1.toNatClampNeg) (S_first r_1.toNatClampNeg) (S_foundSo r_1.toNatClampNeg) (S_foundNot r_1.toNatClampNeg) (S_fought r_1.toNatClampNeg) (S_needed r_1.toNatClampNeg) L_n L_code)) (PL := PL) (As := [.ref (S_a r_1.toNatClampNeg)]) (rest := []) (c_X3_isCounting l D cs ad PL L_a L_b (S_a r_1.toNatClampNeg) (S_b r_1.toNatClampNeg) H.size court_shoeCount court_claimCount court_suitCount court_laws u_13 u_14 u_15 inq_names inq_stack (S_who r_1.toNatClampNeg) (S_against r_1.toNatClampNeg) (S_kind r_1.toNatClampNeg) (S_won r_1.toNatClampNeg) (S_day r_1.toNatClampNeg) (S_land r_1.toNatClampNeg) (S_undoneFrom r_1.toNatClampNeg) (S_askedCount r_1.toNatClampNeg) (S_askedBits r_1.toNatClampNeg) (S_first r_1.toNatClampNeg) (S_foundSo r_1.toNatClampNeg) (S_foundNot r_1.toNatClampNeg) (S_fought r_1.toNatClampNeg) (S_needed r_1.toNatClampNeg) L_n L_code hLA hj_21 (r_23, u_24, u_25) hc_26) ⟨hx, hb, hml, hown, ht⟩ (cwV 1 ht g_X11_235 rfl rfl rfl ⟨rfl, hd_X3_isCounting⟩ ⟨Nat.le_of_ble_eq_true rfl, Nat.le_of_ble_eq_true rfl⟩) (va_recv hK hP (ci := 3) (q0 := 4) rfl rfl) hP hD hS hK hA [1, 3, 4, 5, 6] rfl rfl [(ad 4), (ad 14), (ad 15), (ad 16), (ad 17)] rfl (fun _ => rfl) rfl hl.1 (Nat.le_of_ble_eq_true rfl) dX11_counts_46 ⟨Nat.zero_le _, Nat.zero_le _⟩ (fun r u H locs hq hP hS => ?_)
        cases hq
        have hP : va_P D classes (wl_X11_counts ad cs PL S_a S_b L_a L_b court_shoeCount court_claimCount court_suitCount court_suits court_laws u_13 u_14 u_15 u_24 u_25 u_16 u_17 S_who S_against S_kind S_won S_day S_land S_undoneFrom S_asked S_askedCount S_askedBits S_first S_foundSo S_foundNot S_fought S_needed L_n L_code) H := hP
        have hD : va_D A (wl_X11_counts ad cs PL S_a S_b L_a L_b court_shoeCount court_claimCount court_suitCount court_suits court_laws u_13 u_14 u_15 u_24 u_25 u_16 u_17 S_who S_against S_kind S_won S_day S_land S_undoneFrom S_asked S_askedCount S_askedBits S_first S_foundSo S_foundNot S_fought S_needed L_n L_code) := zDkp hD [(ad 0), (ad 4), (ad 13), (ad 14), (ad 15), (ad 16), (ad 17), (ad 18), (ad 19)] rfl rfl
        refine lv_if_eq (tgt := 56) hx hb dX11_counts_49 (by decide) (fun c_27 => ?_) (fun c_27 => ?_)
        · have h := zk_t c_27 h
          refine lv_iconst (v := (0 : Int32)) hx hb dX11_counts_56 (by decide) ?_
          exact W.iret (v := (0 : Int32)) hx hb hr (fun t ht2 hW => ⟨⟨(0 : Int32), (u_13, u_14, u_15, u_24, u_25, u_16, u_17), rfl, Option.some.inj h, by rw [ht2]; exact hP, hD⟩, hS.F ht2⟩) hS.2.2 dX11_counts_57 hlocks
        · have h := zk_f c_27 h
          refine lv_iconst (v := (1 : Int32)) hx hb dX11_counts_52 (by decide) ?_
          refine lv_goto (tgt := 57) hx hb dX11_counts_53 (by decide) ?_
          exact W.iret (v := (1 : Int32)) hx hb hr (fun t ht2 hW => ⟨⟨(1 : Int32), (u_13, u_14, u_15, u_24, u_25, u_16, u_17), rfl, Option.some.inj h, by rw [ht2]; exact hP, hD⟩, hS.F ht2⟩) hS.2.2 dX11_counts_57 hlocks
      · have h := zk_t c_12 h
        refine lv_iconst (v := (-1 : Int32)) hx hb dX11_counts_29 (by decide) ?_
        exact W.iret (v := (-1 : Int32)) hx hb hr (fun t ht2 hW => ⟨⟨(-1 : Int32), (inq_day, inq_land, inq_shoeLeftOut, inq_names, inq_stack, inq_judgedShoes, inq_bindingShoes), rfl, Option.some.inj h, by rw [ht2]; exact hP, hD⟩, hS.F ht2⟩) hS.2.2 dX11_counts_30 hlocks
set_option maxHeartbeats 4000000 in
set_option maxRecDepth 100000 in
theorem c_X11_counts (l : Launch) (D : va_G) (cs : Nat → ClassId) (ad : Nat → Nat) (PL : va_W) (S_a : Nat → Nat) (S_b : Nat → Nat) (L_a : Nat → Nat) (L_b : Nat → Nat) (sz : Nat) (x1 : Int32) (x2 : Int32) (x3 : Int32) (court_shoeCount : Int32) (court_claimCount : Int32) (court_suitCount : Int32) (court_suits : Nat → Option Nat) (court_laws : Nat → Option Nat) (inq_day : Int32) (inq_land : Int32) (inq_shoeLeftOut : Int32) (inq_names : Nat → Int32) (inq_stack : Nat → Int32) (inq_judgedShoes : Nat → Int64) (inq_bindingShoes : Nat → Int64) (S_who : Nat → Int32) (S_against : Nat → Int32) (S_kind : Nat → Int32) (S_won : Nat → Int32) (S_day : Nat → Int32) (S_land : Nat → Int32) (S_undoneFrom : Nat → Int32) (S_asked : Nat → Nat → Int32) (S_askedCount : Nat → Int32) (S_askedBits : Nat → Int32) (S_first : Nat → Int32) (S_foundSo : Nat → Int32) (S_foundNot : Nat → Int32) (S_fought : Nat → Int32) (S_needed : Nat → Int32) (L_n : Nat → Nat) (L_code : Nat → Nat → Int32) (hSU : PSu cs PL court_suitCount court_suits S_a S_b S_who S_against S_kind S_won S_day S_land S_undoneFrom S_asked S_askedCount S_askedBits S_first S_foundSo S_foundNot S_fought S_needed) (hLA : PLa cs PL court_laws L_a L_b L_n L_code) (R : Int32 × Int32 × Int32 × Int32 × (Nat → Int32) × (Nat → Int32) × (Nat → Int64) × (Nat → Int64)) (h : f_X11_counts   x1 x2 x3 court_shoeCount court_claimCount court_suitCount court_suits court_laws inq_day inq_land inq_shoeLeftOut inq_names inq_stack inq_judgedShoes inq_bindingShoes S_who S_against S_kind S_won S_day S_land S_undoneFrom S_asked S_askedCount S_askedBits S_first S_foundSo S_foundNot S_fought S_needed L_n L_code = some R) : Met l yX11_counts (z_X11_counts) rm_X11_counts (va_Pc [.ref (ad 0), .int x1, .int x2, .int x3] (zPre D cs (wl_X11_counts ad cs PL S_a S_b L_a L_b court_shoeCount court_claimCount court_suitCount court_suits court_laws inq_day inq_land inq_shoeLeftOut inq_names inq_stack inq_judgedShoes inq_bindingShoes S_who S_against S_kind S_won S_day S_land S_undoneFrom S_asked S_askedCount S_askedBits S_first S_foundSo S_foundNot S_fought S_needed L_n L_code) sz)) (Q_X11_counts D cs ad PL S_a S_b L_a L_b court_shoeCount court_claimCount court_suitCount court_suits court_laws S_who S_against S_kind S_won S_day S_land S_undoneFrom S_asked S_askedCount S_askedBits S_first S_foundSo S_foundNot S_fought S_needed L_n L_code (va_A (wl_X11_counts ad cs PL S_a S_b L_a L_b court_shoeCount court_claimCount court_suitCount court_suits court_laws inq_day inq_land inq_shoeLeftOut inq_names inq_stack inq_judgedShoes inq_bindingShoes S_who S_against S_kind S_won S_day S_land S_undoneFrom S_asked S_askedCount S_askedBits S_first S_foundSo S_foundNot S_fought S_needed L_n L_code) sz) R) 0 0 (va_A (wl_X11_counts ad cs PL S_a S_b L_a L_b court_shoeCount court_claimCount court_suitCount court_suits court_laws inq_day inq_land inq_shoeLeftOut inq_names inq_stack inq_judgedShoes inq_bindingShoes S_who S_against S_kind S_won S_day S_land S_undoneFrom S_asked S_askedCount S_askedBits S_first S_foundSo S_foundNot S_fought S_needed L_n L_code) sz) := by
  refine Met.ofW (cc := cX11_counts) (maxL := 5) (ret := (some .int)) (by decide) rfl ?_
  intro p e s m args below meth c s₁ B hml hv
  obtain ⟨rfl, hsz, hP, hK, hD0⟩ := hv
  subst hsz
  have hD := hD0.self (sz := s.heap.size)
  have C0 : zC p s m _ meth c cX11_counts 5 (some .int) RX11 zW := ⟨B.exec, B.bytes, B.returns, hml, findClass_of_methodNamed B.named, fun w hw => atoms_spec (ws := z_X11_counts) B.pre w (List.mem_cons_of_mem _ hw), B.notSynchronized⟩
  have hA : ∀ q : Nat, s.heap.size ≤ q → va_A (wl_X11_counts ad cs PL S_a S_b L_a L_b court_shoeCount court_claimCount court_suitCount court_suits court_laws inq_day inq_land inq_shoeLeftOut inq_names inq_stack inq_judgedShoes inq_bindingShoes S_who S_against S_kind S_won S_day S_land S_undoneFrom S_asked S_askedCount S_askedBits S_first S_foundSo S_foundNot S_fought S_needed L_n L_code) s.heap.size q := fun q h => Or.inr h
  have hl := lv_entry ([.ref (ad 0), .int x1, .int x2, .int x3]) (n := 5) (Nat.le_of_ble_eq_true rfl)
  rw [lg_entry_eq]
  generalize (lg_sl ([.ref (ad 0), .int x1, .int x2, .int x3]) ++ List.replicate (5 - (lg_sl ([.ref (ad 0), .int x1, .int x2, .int x3])).length) Slot.unset).toArray = ls at hl ⊢
  exact L_X11_counts_0 C0 hK hA hSU hLA   x1 x2 x3 inq_day inq_land inq_shoeLeftOut inq_names inq_stack inq_judgedShoes inq_bindingShoes h s.heap [] ls hP hD va_S.rf hl
theorem zh_cX11_isClaimOf_0 : zck [42, 27, 182, 0, 172, 153, 0, 19, 28, 2, 159, 0, 10, 28, 184, 0, 148, 153, 0, 7, 4, 167] (zdu 0 cX11_isClaimOf.data.toList) = true := by decide +kernel
theorem dX11_isClaimOf_0 : decode cX11_isClaimOf 0 = .ok (.aload_n 0, 1) := zo_42 zh_cX11_isClaimOf_0 0 rfl
theorem dX11_isClaimOf_1 : decode cX11_isClaimOf 1 = .ok (.iload_n 1, 1) := zo_27 zh_cX11_isClaimOf_0 1 rfl
theorem dX11_isClaimOf_2 : decode cX11_isClaimOf 2 = .ok (.invokevirtual 172, 3) := zo_182 zh_cX11_isClaimOf_0 2 rfl
theorem dX11_isClaimOf_5 : decode cX11_isClaimOf 5 = .ok (.ifCond .eq 19, 3) := zo_p153 zh_cX11_isClaimOf_0 5 19 rfl rfl
theorem dX11_isClaimOf_8 : decode cX11_isClaimOf 8 = .ok (.iload_n 2, 1) := zo_28 zh_cX11_isClaimOf_0 8 rfl
theorem dX11_isClaimOf_9 : decode cX11_isClaimOf 9 = .ok (.iconst (-1), 1) := zo_2 zh_cX11_isClaimOf_0 9 rfl
theorem dX11_isClaimOf_10 : decode cX11_isClaimOf 10 = .ok (.if_icmp .eq 10, 3) := zo_p159 zh_cX11_isClaimOf_0 10 10 rfl rfl
theorem dX11_isClaimOf_13 : decode cX11_isClaimOf 13 = .ok (.iload_n 2, 1) := zo_28 zh_cX11_isClaimOf_0 13 rfl
theorem dX11_isClaimOf_14 : decode cX11_isClaimOf 14 = .ok (.invokestatic 148, 3) := zo_184 zh_cX11_isClaimOf_0 14 rfl
theorem dX11_isClaimOf_17 : decode cX11_isClaimOf 17 = .ok (.ifCond .eq 7, 3) := zo_p153 zh_cX11_isClaimOf_0 17 7 rfl rfl
theorem zh_cX11_isClaimOf_1 : zck [4, 167, 0, 4, 3, 172] (zdu 20 cX11_isClaimOf.data.toList) = true := by decide +kernel
theorem dX11_isClaimOf_20 : decode cX11_isClaimOf 20 = .ok (.iconst 1, 1) := zo_4 zh_cX11_isClaimOf_1 0 rfl
theorem dX11_isClaimOf_21 : decode cX11_isClaimOf 21 = .ok (.goto 4, 3) := zo_p167 zh_cX11_isClaimOf_1 1 4 rfl rfl
theorem dX11_isClaimOf_24 : decode cX11_isClaimOf 24 = .ok (.iconst 0, 1) := zo_3 zh_cX11_isClaimOf_1 4 rfl
theorem dX11_isClaimOf_25 : decode cX11_isClaimOf 25 = .ok (.ireturn, 1) := zo_172 zh_cX11_isClaimOf_1 5 rfl
abbrev z_X11_isClaimOf : List Cond := .code yX11_isClaimOf cX11_isClaimOf 3 (some .boolean) :: zW
abbrev wl_X11_isClaimOf (ad : Nat → Nat) (cs : Nat → ClassId)  (court_shoeCount : Int32) (court_claimCount : Int32) (court_suitCount : Int32) : va_W := [((ad 0), .inr (11, [.ref (ad 4), .ref (ad 15), .ref (ad 23), .ref (ad 25), .ref (ad 26), .ref (ad 28), .ref (ad 34), .ref (ad 39), .ref (ad 1), .ref (ad 2), .ref (ad 3)])), ((ad 4), .inr (2, [.ref (ad 5), .ref (ad 6), .ref (ad 7), .ref (ad 8), .ref (ad 9), .ref (ad 10), .ref (ad 11), .ref (ad 12), .ref (ad 13), .ref (ad 14), .int court_shoeCount, .int court_claimCount, .int court_suitCount]))]
def Q_X11_isClaimOf (D : va_G) (cs : Nat → ClassId) (ad : Nat → Nat)  (court_shoeCount : Int32) (court_claimCount : Int32) (court_suitCount : Int32) (A : Nat → Prop) (R : Int32 × Unit) : Array Value → State → Outcome → State → Prop :=
  va_Qi (fun (r : Int32) (u : Unit) => (r, u) = R) (fun (u : Unit) (t : State) => va_P D classes (wl_X11_isClaimOf ad cs court_shoeCount court_claimCount court_suitCount) t.heap ∧ va_D A (wl_X11_isClaimOf ad cs court_shoeCount court_claimCount court_suitCount)) A
abbrev rm_X11_isClaimOf : Room := { frames := 1, cells := 0, slots := 0, locals := 21 }
def B_X11_isClaimOf_20    (court_shoeCount : Int32) (court_claimCount : Int32) (court_suitCount : Int32)  : Option (Int32 × Unit) :=
  (some ((1 : Int32), ()))
def B_X11_isClaimOf_0    (court_shoeCount : Int32) (court_claimCount : Int32) (court_suitCount : Int32) (x1 : Int32) (x2 : Int32) : Option (Int32 × Unit) :=
  (zk_b2 (f_X11_isClaim x1 court_shoeCount court_claimCount court_suitCount) (fun r_1 u_2 => (if r_1 = 0 then (some ((0 : Int32), ())) else (if x2 = (-1 : Int32) then (B_X11_isClaimOf_20 court_shoeCount court_claimCount court_suitCount) else (zk_b2 (f_X11_isPair x2) (fun r_6 u_7 => (if r_6 = 0 then (some ((0 : Int32), ())) else (B_X11_isClaimOf_20 court_shoeCount court_claimCount court_suitCount))))))))
def f_X11_isClaimOf   (x1 : Int32) (x2 : Int32) (court_shoeCount : Int32) (court_claimCount : Int32) (court_suitCount : Int32) : Option (Int32 × Unit) := B_X11_isClaimOf_0   court_shoeCount court_claimCount court_suitCount x1 x2 
set_option maxHeartbeats 4000000 in
set_option maxRecDepth 100000 in
theorem L_X11_isClaimOf_20 {p : Program} {l : Launch} {e : Env} {s : State} {m : MethodId} {args : Array Value} {below : List Frame} {meth : Method} {c : Code} {A : Nat → Prop} {D : va_G} {cs : Nat → ClassId} {ad : Nat → Nat} {court_shoeCount : Int32} {court_claimCount : Int32} {court_suitCount : Int32} {R : Int32 × Unit} (C0 : zC p s m args meth c cX11_isClaimOf 3 (some .boolean) RX11 zW) (hK : va_K D classes (zT cs) s) (hA : ∀ q : Nat, s.heap.size ≤ q → A q)  (h : B_X11_isClaimOf_20 court_shoeCount court_claimCount court_suitCount = some R) (H : Heap) (locs : List Loc) (ls : Array Slot) (hP : va_P D classes (wl_X11_isClaimOf ad cs court_shoeCount court_claimCount court_suitCount) H) (hD : va_D A (wl_X11_isClaimOf ad cs court_shoeCount court_claimCount court_suitCount)) (hS : va_S A s.heap H locs) (hl : lv_has ls 3 []) : W p l e rm_X11_isClaimOf s m args below meth c H locs 0 0 (MQ below (Q_X11_isClaimOf D cs ad court_shoeCount court_claimCount court_suitCount A R) args s 0 0 A) (F0 m 20 ls []) := by
  obtain ⟨hx, hb, hr, hml, hown, ht, hlocks⟩ := id C0
  refine lv_iconst (v := (1 : Int32)) hx hb dX11_isClaimOf_20 (by decide) ?_
  refine lv_goto (tgt := 25) hx hb dX11_isClaimOf_21 (by decide) ?_
  exact W.zret (ty := .boolean) (v := (1 : Int32)) hx hb hr rfl (fun t ht2 hW => ⟨⟨(1 : Int32), (), rfl, Option.some.inj h, by rw [ht2]; exact hP, hD⟩, hS.F ht2⟩) hS.2.2 dX11_isClaimOf_25 hlocks
set_option maxHeartbeats 4000000 in
set_option maxRecDepth 100000 in
theorem L_X11_isClaimOf_0 {p : Program} {l : Launch} {e : Env} {s : State} {m : MethodId} {args : Array Value} {below : List Frame} {meth : Method} {c : Code} {A : Nat → Prop} {D : va_G} {cs : Nat → ClassId} {ad : Nat → Nat} {court_shoeCount : Int32} {court_claimCount : Int32} {court_suitCount : Int32} {R : Int32 × Unit} (C0 : zC p s m args meth c cX11_isClaimOf 3 (some .boolean) RX11 zW) (hK : va_K D classes (zT cs) s) (hA : ∀ q : Nat, s.heap.size ≤ q → A q) (x1 : Int32) (x2 : Int32) (h : B_X11_isClaimOf_0 court_shoeCount court_claimCount court_suitCount x1 x2 = some R) (H : Heap) (locs : List Loc) (ls : Array Slot) (hP : va_P D classes (wl_X11_isClaimOf ad cs court_shoeCount court_claimCount court_suitCount) H) (hD : va_D A (wl_X11_isClaimOf ad cs court_shoeCount court_claimCount court_suitCount)) (hS : va_S A s.heap H locs) (hl : lv_has ls 3 [(0, .ref (ad 0)), (1, .int x1), (2, .int x2)]) : W p l e rm_X11_isClaimOf s m args below meth c H locs 0 0 (MQ below (Q_X11_isClaimOf D cs ad court_shoeCount court_claimCount court_suitCount A R) args s 0 0 A) (F0 m 0 ls []) := by
  obtain ⟨hx, hb, hr, hml, hown, ht, hlocks⟩ := id C0
  refine lv_aload_n hx hb dX11_isClaimOf_0 rfl (lv_at hl 0 rfl) ?_
  refine lv_iload_n hx hb dX11_isClaimOf_1 rfl (lv_at hl 1 rfl) ?_
  obtain ⟨r_1, u_2, hc_3, h⟩ := zk_o2 h
  refine zz_vi (post := (fun r u => (r, u) = (r_1, u_2))) (w1 := fun u => (wl_X11_isClaim ad cs court_shoeCount court_claimCount court_suitCount)) (As := [.int x1]) (rest := []) (c_X11_isClaim l D cs ad  H.size x1 court_shoeCount court_claimCount court_suitCount (r_1, u_2) hc_3) ⟨hx, hb, hml, hown, ht⟩ (cwV 1 ht g_X11_172 rfl rfl rfl ⟨rfl, hd_X11_isClaim⟩ ⟨Nat.le_of_ble_eq_true rfl, Nat.le_of_ble_eq_true rfl⟩) (va_recv hK hP (ci := 11) (q0 := 0) rfl rfl) hP hD hS hK hA [0, 1] rfl rfl [(ad 0), (ad 4)] rfl (fun _ => rfl) rfl hl.1 (Nat.le_of_ble_eq_true rfl) dX11_isClaimOf_2 ⟨Nat.zero_le _, Nat.zero_le _⟩ (fun r u H locs hq hP hS => ?_)
  cases hq
  have hP : va_P D classes (wl_X11_isClaimOf ad cs court_shoeCount court_claimCount court_suitCount) H := hP
  have hD : va_D A (wl_X11_isClaimOf ad cs court_shoeCount court_claimCount court_suitCount) := zDk hD [(ad 0), (ad 4)] rfl rfl
  refine lv_if_eq (tgt := 24) hx hb dX11_isClaimOf_5 (by decide) (fun c_4 => ?_) (fun c_4 => ?_)
  · have h := zk_t c_4 h
    refine lv_iconst (v := (0 : Int32)) hx hb dX11_isClaimOf_24 (by decide) ?_
    exact W.zret (ty := .boolean) (v := (0 : Int32)) hx hb hr rfl (fun t ht2 hW => ⟨⟨(0 : Int32), (), rfl, Option.some.inj h, by rw [ht2]; exact hP, hD⟩, hS.F ht2⟩) hS.2.2 dX11_isClaimOf_25 hlocks
  · have h := zk_f c_4 h
    refine lv_iload_n hx hb dX11_isClaimOf_8 rfl (lv_at hl 2 rfl) ?_
    refine lv_iconst (v := (-1 : Int32)) hx hb dX11_isClaimOf_9 (by decide) ?_
    refine lv_icmp_eq (tgt := 20) hx hb dX11_isClaimOf_10 (by decide) (fun c_5 => ?_) (fun c_5 => ?_)
    · have h := zk_t c_5 h
      exact L_X11_isClaimOf_20 C0 hK hA    h H locs ls hP hD hS (lv_sub hl [] rfl)
    · have h := zk_f c_5 h
      refine lv_iload_n hx hb dX11_isClaimOf_13 rfl (lv_at hl 2 rfl) ?_
      obtain ⟨r_6, u_7, hc_8, h⟩ := zk_o2 h
      refine zz_si (post := (fun r u => (r, u) = (r_6, u_7))) (w1 := fun u => (wl_X11_isPair ad cs )) (As := [.int x2]) (rest := []) (c_X11_isPair l D cs ad  H.size x2 (r_6, u_7) hc_8) ⟨hx, hb, hml, hown, ht⟩ (va_cwS 1 ht g_X11_148 rfl rfl rfl hd_X11_isPair ⟨Nat.le_of_ble_eq_true rfl, Nat.le_of_ble_eq_true rfl⟩) hP hD hS hK hA [] rfl rfl [] rfl (fun _ => rfl) rfl hl.1 (Nat.le_of_ble_eq_true rfl) dX11_isClaimOf_14 ⟨Nat.zero_le _, Nat.zero_le _⟩ (fun r u H locs hq hP hS => ?_)
      cases hq
      have hP : va_P D classes (wl_X11_isClaimOf ad cs court_shoeCount court_claimCount court_suitCount) H := hP
      refine lv_if_eq (tgt := 24) hx hb dX11_isClaimOf_17 (by decide) (fun c_9 => ?_) (fun c_9 => ?_)
      · have h := zk_t c_9 h
        refine lv_iconst (v := (0 : Int32)) hx hb dX11_isClaimOf_24 (by decide) ?_
        exact W.zret (ty := .boolean) (v := (0 : Int32)) hx hb hr rfl (fun t ht2 hW => ⟨⟨(0 : Int32), (), rfl, Option.some.inj h, by rw [ht2]; exact hP, hD⟩, hS.F ht2⟩) hS.2.2 dX11_isClaimOf_25 hlocks
      · have h := zk_f c_9 h
        exact L_X11_isClaimOf_20 C0 hK hA    h H locs ls hP hD hS (lv_sub hl [] rfl)
set_option maxHeartbeats 4000000 in
set_option maxRecDepth 100000 in
theorem c_X11_isClaimOf (l : Launch) (D : va_G) (cs : Nat → ClassId) (ad : Nat → Nat) (sz : Nat) (x1 : Int32) (x2 : Int32) (court_shoeCount : Int32) (court_claimCount : Int32) (court_suitCount : Int32) (R : Int32 × Unit) (h : f_X11_isClaimOf   x1 x2 court_shoeCount court_claimCount court_suitCount = some R) : Met l yX11_isClaimOf (z_X11_isClaimOf) rm_X11_isClaimOf (va_Pc [.ref (ad 0), .int x1, .int x2] (zPre D cs (wl_X11_isClaimOf ad cs court_shoeCount court_claimCount court_suitCount) sz)) (Q_X11_isClaimOf D cs ad court_shoeCount court_claimCount court_suitCount (va_A (wl_X11_isClaimOf ad cs court_shoeCount court_claimCount court_suitCount) sz) R) 0 0 (va_A (wl_X11_isClaimOf ad cs court_shoeCount court_claimCount court_suitCount) sz) := by
  refine Met.ofW (cc := cX11_isClaimOf) (maxL := 3) (ret := (some .boolean)) (by decide) rfl ?_
  intro p e s m args below meth c s₁ B hml hv
  obtain ⟨rfl, hsz, hP, hK, hD0⟩ := hv
  subst hsz
  have hD := hD0.self (sz := s.heap.size)
  have C0 : zC p s m _ meth c cX11_isClaimOf 3 (some .boolean) RX11 zW := ⟨B.exec, B.bytes, B.returns, hml, findClass_of_methodNamed B.named, fun w hw => atoms_spec (ws := z_X11_isClaimOf) B.pre w (List.mem_cons_of_mem _ hw), B.notSynchronized⟩
  have hA : ∀ q : Nat, s.heap.size ≤ q → va_A (wl_X11_isClaimOf ad cs court_shoeCount court_claimCount court_suitCount) s.heap.size q := fun q h => Or.inr h
  have hl := lv_entry ([.ref (ad 0), .int x1, .int x2]) (n := 3) (Nat.le_of_ble_eq_true rfl)
  rw [lg_entry_eq]
  generalize (lg_sl ([.ref (ad 0), .int x1, .int x2]) ++ List.replicate (3 - (lg_sl ([.ref (ad 0), .int x1, .int x2])).length) Slot.unset).toArray = ls at hl ⊢
  exact L_X11_isClaimOf_0 C0 hK hA   x1 x2  h s.heap [] ls hP hD va_S.rf hl
theorem zh_cX11_isWhen_0 : zck [26, 155, 0, 27, 26, 16, 10, 108, 184, 0, 141, 153, 0, 17, 26, 16, 10, 112, 184, 0, 151, 153] (zdu 0 cX11_isWhen.data.toList) = true := by decide +kernel
theorem dX11_isWhen_0 : decode cX11_isWhen 0 = .ok (.iload_n 0, 1) := zo_26 zh_cX11_isWhen_0 0 rfl
theorem dX11_isWhen_1 : decode cX11_isWhen 1 = .ok (.ifCond .lt 27, 3) := zo_p155 zh_cX11_isWhen_0 1 27 rfl rfl
theorem dX11_isWhen_4 : decode cX11_isWhen 4 = .ok (.iload_n 0, 1) := zo_26 zh_cX11_isWhen_0 4 rfl
theorem dX11_isWhen_5 : decode cX11_isWhen 5 = .ok (.bipush 10, 2) := zo_p16 zh_cX11_isWhen_0 5 10 rfl rfl
theorem dX11_isWhen_7 : decode cX11_isWhen 7 = .ok (.idiv, 1) := zo_108 zh_cX11_isWhen_0 7 rfl
theorem dX11_isWhen_8 : decode cX11_isWhen 8 = .ok (.invokestatic 141, 3) := zo_184 zh_cX11_isWhen_0 8 rfl
theorem dX11_isWhen_11 : decode cX11_isWhen 11 = .ok (.ifCond .eq 17, 3) := zo_p153 zh_cX11_isWhen_0 11 17 rfl rfl
theorem dX11_isWhen_14 : decode cX11_isWhen 14 = .ok (.iload_n 0, 1) := zo_26 zh_cX11_isWhen_0 14 rfl
theorem dX11_isWhen_15 : decode cX11_isWhen 15 = .ok (.bipush 10, 2) := zo_p16 zh_cX11_isWhen_0 15 10 rfl rfl
theorem dX11_isWhen_17 : decode cX11_isWhen 17 = .ok (.irem, 1) := zo_112 zh_cX11_isWhen_0 17 rfl
theorem dX11_isWhen_18 : decode cX11_isWhen 18 = .ok (.invokestatic 151, 3) := zo_184 zh_cX11_isWhen_0 18 rfl
theorem zh_cX11_isWhen_1 : zck [151, 153, 0, 7, 4, 167, 0, 4, 3, 172] (zdu 20 cX11_isWhen.data.toList) = true := by decide +kernel
theorem dX11_isWhen_21 : decode cX11_isWhen 21 = .ok (.ifCond .eq 7, 3) := zo_p153 zh_cX11_isWhen_1 1 7 rfl rfl
theorem dX11_isWhen_24 : decode cX11_isWhen 24 = .ok (.iconst 1, 1) := zo_4 zh_cX11_isWhen_1 4 rfl
theorem dX11_isWhen_25 : decode cX11_isWhen 25 = .ok (.goto 4, 3) := zo_p167 zh_cX11_isWhen_1 5 4 rfl rfl
theorem dX11_isWhen_28 : decode cX11_isWhen 28 = .ok (.iconst 0, 1) := zo_3 zh_cX11_isWhen_1 8 rfl
theorem dX11_isWhen_29 : decode cX11_isWhen 29 = .ok (.ireturn, 1) := zo_172 zh_cX11_isWhen_1 9 rfl
abbrev z_X11_isWhen : List Cond := .code yX11_isWhen cX11_isWhen 1 (some .boolean) :: zW
abbrev wl_X11_isWhen (ad : Nat → Nat) (cs : Nat → ClassId)   : va_W := []
def Q_X11_isWhen (D : va_G) (cs : Nat → ClassId) (ad : Nat → Nat)   (A : Nat → Prop) (R : Int32 × Unit) : Array Value → State → Outcome → State → Prop :=
  va_Qi (fun (r : Int32) (u : Unit) => (r, u) = R) (fun (u : Unit) (t : State) => va_P D classes (wl_X11_isWhen ad cs ) t.heap ∧ va_D A (wl_X11_isWhen ad cs )) A
abbrev rm_X11_isWhen : Room := { frames := 1, cells := 0, slots := 0, locals := 20 }
def B_X11_isWhen_0     (x0 : Int32) : Option (Int32 × Unit) :=
  (if x0 < 0 then (some ((0 : Int32), ())) else (zk_b2 (f_X11_isDay (x0 / (10 : Int32))) (fun r_2 u_3 => (if r_2 = 0 then (some ((0 : Int32), ())) else (zk_b2 (f_X11_isLand (x0 - x0 / (10 : Int32) * (10 : Int32))) (fun r_6 u_7 => (if r_6 = 0 then (some ((0 : Int32), ())) else (some ((1 : Int32), ())))))))))
def f_X11_isWhen   (x0 : Int32)  : Option (Int32 × Unit) := B_X11_isWhen_0    x0 
set_option maxHeartbeats 4000000 in
set_option maxRecDepth 100000 in
theorem L_X11_isWhen_0 {p : Program} {l : Launch} {e : Env} {s : State} {m : MethodId} {args : Array Value} {below : List Frame} {meth : Method} {c : Code} {A : Nat → Prop} {D : va_G} {cs : Nat → ClassId} {ad : Nat → Nat} {R : Int32 × Unit} (C0 : zC p s m args meth c cX11_isWhen 1 (some .boolean) RX11 zW) (hK : va_K D classes (zT cs) s) (hA : ∀ q : Nat, s.heap.size ≤ q → A q) (x0 : Int32) (h : B_X11_isWhen_0 x0 = some R) (H : Heap) (locs : List Loc) (ls : Array Slot) (hP : va_P D classes (wl_X11_isWhen ad cs ) H) (hD : va_D A (wl_X11_isWhen ad cs )) (hS : va_S A s.heap H locs) (hl : lv_has ls 1 [(0, .int x0)]) : W p l e rm_X11_isWhen s m args below meth c H locs 0 0 (MQ below (Q_X11_isWhen D cs ad  A R) args s 0 0 A) (F0 m 0 ls []) := by
  obtain ⟨hx, hb, hr, hml, hown, ht, hlocks⟩ := id C0
  refine lv_iload_n hx hb dX11_isWhen_0 rfl (lv_at hl 0 rfl) ?_
  refine lv_if_lt (tgt := 28) hx hb dX11_isWhen_1 (by decide) (fun c_1 => ?_) (fun c_1 => ?_)
  · have h := zk_t c_1 h
    refine lv_iconst (v := (0 : Int32)) hx hb dX11_isWhen_28 (by decide) ?_
    exact W.zret (ty := .boolean) (v := (0 : Int32)) hx hb hr rfl (fun t ht2 hW => ⟨⟨(0 : Int32), (), rfl, Option.some.inj h, by rw [ht2]; exact hP, hD⟩, hS.F ht2⟩) hS.2.2 dX11_isWhen_29 hlocks
  · have h := zk_f c_1 h
    refine lv_iload_n hx hb dX11_isWhen_4 rfl (lv_at hl 0 rfl) ?_
    refine lv_bipush (v := (10 : Int32)) hx hb dX11_isWhen_5 (by decide) ?_
    refine lv_idiv hx hb dX11_isWhen_7 (by decide) ?_
    obtain ⟨r_2, u_3, hc_4, h⟩ := zk_o2 h
    refine zz_si (post := (fun r u => (r, u) = (r_2, u_3))) (w1 := fun u => (wl_X11_isDay ad cs )) (As := [.int (x0 / (10 : Int32))]) (rest := []) (c_X11_isDay l D cs ad  H.size (x0 / (10 : Int32)) (r_2, u_3) hc_4) ⟨hx, hb, hml, hown, ht⟩ (va_cwS 1 ht g_X11_141 rfl rfl rfl hd_X11_isDay ⟨Nat.le_of_ble_eq_true rfl, Nat.le_of_ble_eq_true rfl⟩) hP hD hS hK hA [] rfl rfl [] rfl (fun _ => rfl) rfl hl.1 (Nat.le_of_ble_eq_true rfl) dX11_isWhen_8 ⟨Nat.zero_le _, Nat.zero_le _⟩ (fun r u H locs hq hP hS => ?_)
    cases hq
    have hP : va_P D classes (wl_X11_isWhen ad cs ) H := hP
    refine lv_if_eq (tgt := 28) hx hb dX11_isWhen_11 (by decide) (fun c_5 => ?_) (fun c_5 => ?_)
    · have h := zk_t c_5 h
      refine lv_iconst (v := (0 : Int32)) hx hb dX11_isWhen_28 (by decide) ?_
      exact W.zret (ty := .boolean) (v := (0 : Int32)) hx hb hr rfl (fun t ht2 hW => ⟨⟨(0 : Int32), (), rfl, Option.some.inj h, by rw [ht2]; exact hP, hD⟩, hS.F ht2⟩) hS.2.2 dX11_isWhen_29 hlocks
    · have h := zk_f c_5 h
      refine lv_iload_n hx hb dX11_isWhen_14 rfl (lv_at hl 0 rfl) ?_
      refine lv_bipush (v := (10 : Int32)) hx hb dX11_isWhen_15 (by decide) ?_
      refine lv_irem hx hb dX11_isWhen_17 (by decide) ?_
      obtain ⟨r_6, u_7, hc_8, h⟩ := zk_o2 h
      refine zz_si (post := (fun r u => (r, u) = (r_6, u_7))) (w1 := fun u => (wl_X11_isLand ad cs )) (As := [.int (x0 - x0 / (10 : Int32) * (10 : Int32))]) (rest := []) (c_X11_isLand l D cs ad  H.size (x0 - x0 / (10 : Int32) * (10 : Int32)) (r_6, u_7) hc_8) ⟨hx, hb, hml, hown, ht⟩ (va_cwS 1 ht g_X11_151 rfl rfl rfl hd_X11_isLand ⟨Nat.le_of_ble_eq_true rfl, Nat.le_of_ble_eq_true rfl⟩) hP hD hS hK hA [] rfl rfl [] rfl (fun _ => rfl) rfl hl.1 (Nat.le_of_ble_eq_true rfl) dX11_isWhen_18 ⟨Nat.zero_le _, Nat.zero_le _⟩ (fun r u H locs hq hP hS => ?_)
      cases hq
      have hP : va_P D classes (wl_X11_isWhen ad cs ) H := hP
      refine lv_if_eq (tgt := 28) hx hb dX11_isWhen_21 (by decide) (fun c_9 => ?_) (fun c_9 => ?_)
      · have h := zk_t c_9 h
        refine lv_iconst (v := (0 : Int32)) hx hb dX11_isWhen_28 (by decide) ?_
        exact W.zret (ty := .boolean) (v := (0 : Int32)) hx hb hr rfl (fun t ht2 hW => ⟨⟨(0 : Int32), (), rfl, Option.some.inj h, by rw [ht2]; exact hP, hD⟩, hS.F ht2⟩) hS.2.2 dX11_isWhen_29 hlocks
      · have h := zk_f c_9 h
        refine lv_iconst (v := (1 : Int32)) hx hb dX11_isWhen_24 (by decide) ?_
        refine lv_goto (tgt := 29) hx hb dX11_isWhen_25 (by decide) ?_
        exact W.zret (ty := .boolean) (v := (1 : Int32)) hx hb hr rfl (fun t ht2 hW => ⟨⟨(1 : Int32), (), rfl, Option.some.inj h, by rw [ht2]; exact hP, hD⟩, hS.F ht2⟩) hS.2.2 dX11_isWhen_29 hlocks
set_option maxHeartbeats 4000000 in
set_option maxRecDepth 100000 in
theorem c_X11_isWhen (l : Launch) (D : va_G) (cs : Nat → ClassId) (ad : Nat → Nat) (sz : Nat) (x0 : Int32)  (R : Int32 × Unit) (h : f_X11_isWhen   x0  = some R) : Met l yX11_isWhen (z_X11_isWhen) rm_X11_isWhen (va_Pc [.int x0] (zPre D cs (wl_X11_isWhen ad cs ) sz)) (Q_X11_isWhen D cs ad  (va_A (wl_X11_isWhen ad cs ) sz) R) 0 0 (va_A (wl_X11_isWhen ad cs ) sz) := by
  refine Met.ofW (cc := cX11_isWhen) (maxL := 1) (ret := (some .boolean)) (by decide) rfl ?_
  intro p e s m args below meth c s₁ B hml hv
  obtain ⟨rfl, hsz, hP, hK, hD0⟩ := hv
  subst hsz
  have hD := hD0.self (sz := s.heap.size)
  have C0 : zC p s m _ meth c cX11_isWhen 1 (some .boolean) RX11 zW := ⟨B.exec, B.bytes, B.returns, hml, findClass_of_methodNamed B.named, fun w hw => atoms_spec (ws := z_X11_isWhen) B.pre w (List.mem_cons_of_mem _ hw), B.notSynchronized⟩
  have hA : ∀ q : Nat, s.heap.size ≤ q → va_A (wl_X11_isWhen ad cs ) s.heap.size q := fun q h => Or.inr h
  have hl := lv_entry ([.int x0]) (n := 1) (Nat.le_of_ble_eq_true rfl)
  rw [lg_entry_eq]
  generalize (lg_sl ([.int x0]) ++ List.replicate (1 - (lg_sl ([.int x0])).length) Slot.unset).toArray = ls at hl ⊢
  exact L_X11_isWhen_0 C0 hK hA   x0  h s.heap [] ls hP hD va_S.rf hl
