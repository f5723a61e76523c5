theorem zh_cX11_need_0 : zck [27, 184, 0, 252, 153, 0, 17, 28, 184, 0, 148, 153, 0, 10, 29, 184, 0, 243, 154, 0, 5, 2] (zdu 0 cX11_need.data.toList) = true := by decide +kernel
theorem dX11_need_0 : decode cX11_need 0 = .ok (.iload_n 1, 1) := zo_27 zh_cX11_need_0 0 rfl
theorem dX11_need_1 : decode cX11_need 1 = .ok (.invokestatic 252, 3) := zo_184 zh_cX11_need_0 1 rfl
theorem dX11_need_4 : decode cX11_need 4 = .ok (.ifCond .eq 17, 3) := zo_p153 zh_cX11_need_0 4 17 rfl rfl
theorem dX11_need_7 : decode cX11_need 7 = .ok (.iload_n 2, 1) := zo_28 zh_cX11_need_0 7 rfl
theorem dX11_need_8 : decode cX11_need 8 = .ok (.invokestatic 148, 3) := zo_184 zh_cX11_need_0 8 rfl
theorem dX11_need_11 : decode cX11_need 11 = .ok (.ifCond .eq 10, 3) := zo_p153 zh_cX11_need_0 11 10 rfl rfl
theorem dX11_need_14 : decode cX11_need 14 = .ok (.iload_n 3, 1) := zo_29 zh_cX11_need_0 14 rfl
theorem dX11_need_15 : decode cX11_need 15 = .ok (.invokestatic 243, 3) := zo_184 zh_cX11_need_0 15 rfl
theorem dX11_need_18 : decode cX11_need 18 = .ok (.ifCond .ne 5, 3) := zo_p154 zh_cX11_need_0 18 5 rfl rfl
theorem zh_cX11_need_1 : zck [5, 2, 172, 42, 180, 0, 21, 29, 16, 10, 108, 29, 16, 10, 112, 182, 0, 246, 42, 180, 0, 21] (zdu 20 cX11_need.data.toList) = true := by decide +kernel
theorem dX11_need_21 : decode cX11_need 21 = .ok (.iconst (-1), 1) := zo_2 zh_cX11_need_1 1 rfl
theorem dX11_need_22 : decode cX11_need 22 = .ok (.ireturn, 1) := zo_172 zh_cX11_need_1 2 rfl
theorem dX11_need_23 : decode cX11_need 23 = .ok (.aload_n 0, 1) := zo_42 zh_cX11_need_1 3 rfl
theorem dX11_need_24 : decode cX11_need 24 = .ok (.getfield 21, 3) := zo_180 zh_cX11_need_1 4 rfl
theorem dX11_need_27 : decode cX11_need 27 = .ok (.iload_n 3, 1) := zo_29 zh_cX11_need_1 7 rfl
theorem dX11_need_28 : decode cX11_need 28 = .ok (.bipush 10, 2) := zo_p16 zh_cX11_need_1 8 10 rfl rfl
theorem dX11_need_30 : decode cX11_need 30 = .ok (.idiv, 1) := zo_108 zh_cX11_need_1 10 rfl
theorem dX11_need_31 : decode cX11_need 31 = .ok (.iload_n 3, 1) := zo_29 zh_cX11_need_1 11 rfl
theorem dX11_need_32 : decode cX11_need 32 = .ok (.bipush 10, 2) := zo_p16 zh_cX11_need_1 12 10 rfl rfl
theorem dX11_need_34 : decode cX11_need 34 = .ok (.irem, 1) := zo_112 zh_cX11_need_1 14 rfl
theorem dX11_need_35 : decode cX11_need 35 = .ok (.invokevirtual 246, 3) := zo_182 zh_cX11_need_1 15 rfl
theorem dX11_need_38 : decode cX11_need 38 = .ok (.aload_n 0, 1) := zo_42 zh_cX11_need_1 18 rfl
theorem dX11_need_39 : decode cX11_need 39 = .ok (.getfield 21, 3) := zo_180 zh_cX11_need_1 19 rfl
theorem zh_cX11_need_2 : zck [0, 21, 27, 28, 16, 100, 108, 28, 16, 100, 112, 2, 182, 0, 255, 6, 126, 54, 4, 21, 4, 154] (zdu 40 cX11_need.data.toList) = true := by decide +kernel
theorem dX11_need_42 : decode cX11_need 42 = .ok (.iload_n 1, 1) := zo_27 zh_cX11_need_2 2 rfl
theorem dX11_need_43 : decode cX11_need 43 = .ok (.iload_n 2, 1) := zo_28 zh_cX11_need_2 3 rfl
theorem dX11_need_44 : decode cX11_need 44 = .ok (.bipush 100, 2) := zo_p16 zh_cX11_need_2 4 100 rfl rfl
theorem dX11_need_46 : decode cX11_need 46 = .ok (.idiv, 1) := zo_108 zh_cX11_need_2 6 rfl
theorem dX11_need_47 : decode cX11_need 47 = .ok (.iload_n 2, 1) := zo_28 zh_cX11_need_2 7 rfl
theorem dX11_need_48 : decode cX11_need 48 = .ok (.bipush 100, 2) := zo_p16 zh_cX11_need_2 8 100 rfl rfl
theorem dX11_need_50 : decode cX11_need 50 = .ok (.irem, 1) := zo_112 zh_cX11_need_2 10 rfl
theorem dX11_need_51 : decode cX11_need 51 = .ok (.iconst (-1), 1) := zo_2 zh_cX11_need_2 11 rfl
theorem dX11_need_52 : decode cX11_need 52 = .ok (.invokevirtual 255, 3) := zo_182 zh_cX11_need_2 12 rfl
theorem dX11_need_55 : decode cX11_need 55 = .ok (.iconst 3, 1) := zo_6 zh_cX11_need_2 15 rfl
theorem dX11_need_56 : decode cX11_need 56 = .ok (.iand, 1) := zo_126 zh_cX11_need_2 16 rfl
theorem dX11_need_57 : decode cX11_need 57 = .ok (.istore 4, 2) := zo_54 zh_cX11_need_2 17 rfl
theorem dX11_need_59 : decode cX11_need 59 = .ok (.iload 4, 2) := zo_21 zh_cX11_need_2 19 rfl
theorem zh_cX11_need_3 : zck [4, 154, 0, 5, 2, 172, 3, 54, 5, 21, 5, 42, 180, 0, 10, 180, 0, 191, 162, 0, 37, 42] (zdu 60 cX11_need.data.toList) = true := by decide +kernel
theorem dX11_need_61 : decode cX11_need 61 = .ok (.ifCond .ne 5, 3) := zo_p154 zh_cX11_need_3 1 5 rfl rfl
theorem dX11_need_64 : decode cX11_need 64 = .ok (.iconst (-1), 1) := zo_2 zh_cX11_need_3 4 rfl
theorem dX11_need_65 : decode cX11_need 65 = .ok (.ireturn, 1) := zo_172 zh_cX11_need_3 5 rfl
theorem dX11_need_66 : decode cX11_need 66 = .ok (.iconst 0, 1) := zo_3 zh_cX11_need_3 6 rfl
theorem dX11_need_67 : decode cX11_need 67 = .ok (.istore 5, 2) := zo_54 zh_cX11_need_3 7 rfl
theorem dX11_need_69 : decode cX11_need 69 = .ok (.iload 5, 2) := zo_21 zh_cX11_need_3 9 rfl
theorem dX11_need_71 : decode cX11_need 71 = .ok (.aload_n 0, 1) := zo_42 zh_cX11_need_3 11 rfl
theorem dX11_need_72 : decode cX11_need 72 = .ok (.getfield 10, 3) := zo_180 zh_cX11_need_3 12 rfl
theorem dX11_need_75 : decode cX11_need 75 = .ok (.getfield 191, 3) := zo_180 zh_cX11_need_3 15 rfl
theorem dX11_need_78 : decode cX11_need 78 = .ok (.if_icmp .ge 37, 3) := zo_p162 zh_cX11_need_3 18 37 rfl rfl
theorem zh_cX11_need_4 : zck [37, 42, 180, 0, 21, 27, 28, 16, 100, 108, 28, 16, 100, 112, 21, 5, 182, 0, 255, 6, 126, 21] (zdu 80 cX11_need.data.toList) = true := by decide +kernel
theorem dX11_need_81 : decode cX11_need 81 = .ok (.aload_n 0, 1) := zo_42 zh_cX11_need_4 1 rfl
theorem dX11_need_82 : decode cX11_need 82 = .ok (.getfield 21, 3) := zo_180 zh_cX11_need_4 2 rfl
theorem dX11_need_85 : decode cX11_need 85 = .ok (.iload_n 1, 1) := zo_27 zh_cX11_need_4 5 rfl
theorem dX11_need_86 : decode cX11_need 86 = .ok (.iload_n 2, 1) := zo_28 zh_cX11_need_4 6 rfl
theorem dX11_need_87 : decode cX11_need 87 = .ok (.bipush 100, 2) := zo_p16 zh_cX11_need_4 7 100 rfl rfl
theorem dX11_need_89 : decode cX11_need 89 = .ok (.idiv, 1) := zo_108 zh_cX11_need_4 9 rfl
theorem dX11_need_90 : decode cX11_need 90 = .ok (.iload_n 2, 1) := zo_28 zh_cX11_need_4 10 rfl
theorem dX11_need_91 : decode cX11_need 91 = .ok (.bipush 100, 2) := zo_p16 zh_cX11_need_4 11 100 rfl rfl
theorem dX11_need_93 : decode cX11_need 93 = .ok (.irem, 1) := zo_112 zh_cX11_need_4 13 rfl
theorem dX11_need_94 : decode cX11_need 94 = .ok (.iload 5, 2) := zo_21 zh_cX11_need_4 14 rfl
theorem dX11_need_96 : decode cX11_need 96 = .ok (.invokevirtual 255, 3) := zo_182 zh_cX11_need_4 16 rfl
theorem dX11_need_99 : decode cX11_need 99 = .ok (.iconst 3, 1) := zo_6 zh_cX11_need_4 19 rfl
theorem zh_cX11_need_5 : zck [126, 21, 4, 159, 0, 6, 21, 5, 172, 132, 5, 1, 167, 255, 213, 16, 254, 172] (zdu 100 cX11_need.data.toList) = true := by decide +kernel
theorem dX11_need_100 : decode cX11_need 100 = .ok (.iand, 1) := zo_126 zh_cX11_need_5 0 rfl
theorem dX11_need_101 : decode cX11_need 101 = .ok (.iload 4, 2) := zo_21 zh_cX11_need_5 1 rfl
theorem dX11_need_103 : decode cX11_need 103 = .ok (.if_icmp .eq 6, 3) := zo_p159 zh_cX11_need_5 3 6 rfl rfl
theorem dX11_need_106 : decode cX11_need 106 = .ok (.iload 5, 2) := zo_21 zh_cX11_need_5 6 rfl
theorem dX11_need_108 : decode cX11_need 108 = .ok (.ireturn, 1) := zo_172 zh_cX11_need_5 8 rfl
theorem dX11_need_109 : decode cX11_need 109 = .ok (.iinc 5 1, 3) := zo_p132 zh_cX11_need_5 9 1 rfl rfl
theorem dX11_need_112 : decode cX11_need 112 = .ok (.goto (-43), 3) := zo_n167 zh_cX11_need_5 12 42 rfl rfl
theorem dX11_need_115 : decode cX11_need 115 = .ok (.bipush (-2), 2) := zo_n16 zh_cX11_need_5 15 1 rfl rfl
theorem dX11_need_117 : decode cX11_need 117 = .ok (.ireturn, 1) := zo_172 zh_cX11_need_5 17 rfl
abbrev z_X11_need : List Cond := .code yX11_need cX11_need 6 (some .int) :: zW
abbrev wx_X11_need (ad : Nat → Nat) (cs : Nat → ClassId) (PL : va_W) (S_a : Nat → Nat) (S_b : Nat → Nat) (L_a : Nat → Nat) (L_b : Nat → Nat) (court_shoeCount : Int32) (court_claimCount : Int32) (court_suitCount : Int32) (court_shoePerson : Nat → Int32) (court_shoeOther : Nat → Int32) (court_shoeSort : Nat → Int32) (court_shoeDay : Nat → Int32) (court_suits : Nat → Option Nat) (court_laws : Nat → Option Nat) (inq_day : Int32) (inq_land : Int32) (inq_shoeLeftOut : Int32) (inq_names : Nat → Int32) (inq_stack : Nat → Int32) (inq_judgedShoes : Nat → Int64) (inq_bindingShoes : Nat → Int64) (inq_boundAs : Nat → Int32) (inq_standing : Nat → Int32) (inq_arriving : Nat → Int32) (S_who : Nat → Int32) (S_against : Nat → Int32) (S_kind : Nat → Int32) (S_won : Nat → Int32) (S_day : Nat → Int32) (S_land : Nat → Int32) (S_undoneFrom : Nat → Int32) (S_asked : Nat → Nat → Int32) (S_askedCount : Nat → Int32) (S_askedBits : Nat → Int32) (S_first : Nat → Int32) (S_foundSo : Nat → Int32) (S_foundNot : Nat → Int32) (S_fought : Nat → Int32) (S_needed : Nat → Int32) (L_n : Nat → Nat) (L_code : Nat → Nat → Int32) : va_W := [((ad 0), .inr (11, [.ref (ad 4), .ref (ad 15), .ref (ad 23), .ref (ad 25), .ref (ad 26), .ref (ad 28), .ref (ad 34), .ref (ad 39), .ref (ad 1), .ref (ad 2), .ref (ad 3)])), ((ad 4), .inr (2, [.ref (ad 5), .ref (ad 6), .ref (ad 7), .ref (ad 8), .ref (ad 9), .ref (ad 10), .ref (ad 11), .ref (ad 12), .ref (ad 13), .ref (ad 14), .int court_shoeCount, .int court_claimCount, .int court_suitCount])), ((ad 5), .inl (cs 0, 40, .inl court_shoePerson)), ((ad 6), .inl (cs 0, 40, .inl court_shoeOther)), ((ad 7), .inl (cs 0, 40, .inl court_shoeSort)), ((ad 8), .inl (cs 0, 40, .inl court_shoeDay)), ((ad 13), .inl (cs 5, 40, .inr (.inr (.inr (.inr court_suits))))), ((ad 14), .inl (cs 6, 32, .inr (.inr (.inr (.inr court_laws))))), ((ad 15), .inr (3, [.ref (ad 4), .ref (ad 16), .ref (ad 17), .ref (ad 18), .ref (ad 19), .ref (ad 20), .ref (ad 21), .ref (ad 22), .int inq_day, .int inq_land, .int inq_shoeLeftOut])), ((ad 16), .inl (cs 0, 11, .inl inq_names)), ((ad 17), .inl (cs 0, 36, .inl inq_stack)), ((ad 18), .inl (cs 1, 7, .inr (.inl inq_judgedShoes))), ((ad 19), .inl (cs 1, 7, .inr (.inl inq_bindingShoes))), ((ad 20), .inl (cs 0, 20, .inl inq_boundAs)), ((ad 21), .inl (cs 0, 20, .inl inq_standing)), ((ad 22), .inl (cs 0, 20, .inl inq_arriving))]
abbrev wl_X11_need (ad : Nat → Nat) (cs : Nat → ClassId) (PL : va_W) (S_a : Nat → Nat) (S_b : Nat → Nat) (L_a : Nat → Nat) (L_b : Nat → Nat) (court_shoeCount : Int32) (court_claimCount : Int32) (court_suitCount : Int32) (court_shoePerson : Nat → Int32) (court_shoeOther : Nat → Int32) (court_shoeSort : Nat → Int32) (court_shoeDay : Nat → Int32) (court_suits : Nat → Option Nat) (court_laws : Nat → Option Nat) (inq_day : Int32) (inq_land : Int32) (inq_shoeLeftOut : Int32) (inq_names : Nat → Int32) (inq_stack : Nat → Int32) (inq_judgedShoes : Nat → Int64) (inq_bindingShoes : Nat → Int64) (inq_boundAs : Nat → Int32) (inq_standing : Nat → Int32) (inq_arriving : Nat → Int32) (S_who : Nat → Int32) (S_against : Nat → Int32) (S_kind : Nat → Int32) (S_won : Nat → Int32) (S_day : Nat → Int32) (S_land : Nat → Int32) (S_undoneFrom : Nat → Int32) (S_asked : Nat → Nat → Int32) (S_askedCount : Nat → Int32) (S_askedBits : Nat → Int32) (S_first : Nat → Int32) (S_foundSo : Nat → Int32) (S_foundNot : Nat → Int32) (S_fought : Nat → Int32) (S_needed : Nat → Int32) (L_n : Nat → Nat) (L_code : Nat → Nat → Int32) : va_W := wx_X11_need ad cs PL S_a S_b L_a L_b court_shoeCount court_claimCount court_suitCount court_shoePerson court_shoeOther court_shoeSort court_shoeDay court_suits court_laws inq_day inq_land inq_shoeLeftOut inq_names inq_stack inq_judgedShoes inq_bindingShoes inq_boundAs inq_standing inq_arriving S_who S_against S_kind S_won S_day S_land S_undoneFrom S_asked S_askedCount S_askedBits S_first S_foundSo S_foundNot S_fought S_needed L_n L_code ++ PL
def Q_X11_need (D : va_G) (cs : Nat → ClassId) (ad : Nat → Nat) (PL : va_W) (S_a : Nat → Nat) (S_b : Nat → Nat) (L_a : Nat → Nat) (L_b : Nat → Nat) (court_shoeCount : Int32) (court_claimCount : Int32) (court_suitCount : Int32) (court_shoePerson : Nat → Int32) (court_shoeOther : Nat → Int32) (court_shoeSort : Nat → Int32) (court_shoeDay : Nat → Int32) (court_suits : Nat → Option Nat) (court_laws : Nat → Option Nat) (S_who : Nat → Int32) (S_against : Nat → Int32) (S_kind : Nat → Int32) (S_won : Nat → Int32) (S_day : Nat → Int32) (S_land : Nat → Int32) (S_undoneFrom : Nat → Int32) (S_asked : Nat → Nat → Int32) (S_askedCount : Nat → Int32) (S_askedBits : Nat → Int32) (S_first : Nat → Int32) (S_foundSo : Nat → Int32) (S_foundNot : Nat → Int32) (S_fought : Nat → Int32) (S_needed : Nat → Int32) (L_n : Nat → Nat) (L_code : Nat → Nat → Int32) (A : Nat → Prop) (R : Int32 × Int32 × Int32 × Int32 × (Nat → Int32) × (Nat → Int32) × (Nat → Int64) × (Nat → Int64) × (Nat → Int32) × (Nat → Int32) × (Nat → Int32)) : Array Value → State → Outcome → State → Prop :=
  va_Qi (fun (r : Int32) (u : Int32 × Int32 × Int32 × (Nat → Int32) × (Nat → Int32) × (Nat → Int64) × (Nat → Int64) × (Nat → Int32) × (Nat → Int32) × (Nat → Int32)) => (r, u) = R) (fun (u : Int32 × Int32 × Int32 × (Nat → Int32) × (Nat → Int32) × (Nat → Int64) × (Nat → Int64) × (Nat → Int32) × (Nat → Int32) × (Nat → Int32)) (t : State) => va_P D classes (wl_X11_need ad cs PL S_a S_b L_a L_b court_shoeCount court_claimCount court_suitCount court_shoePerson court_shoeOther court_shoeSort court_shoeDay court_suits court_laws u.1 u.2.1 u.2.2.1 u.2.2.2.1 u.2.2.2.2.1 u.2.2.2.2.2.1 u.2.2.2.2.2.2.1 u.2.2.2.2.2.2.2.1 u.2.2.2.2.2.2.2.2.1 u.2.2.2.2.2.2.2.2.2 S_who S_against S_kind S_won S_day S_land S_undoneFrom S_asked S_askedCount S_askedBits S_first S_foundSo S_foundNot S_fought S_needed L_n L_code) t.heap ∧ va_D A (wl_X11_need ad cs PL S_a S_b L_a L_b court_shoeCount court_claimCount court_suitCount court_shoePerson court_shoeOther court_shoeSort court_shoeDay court_suits court_laws u.1 u.2.1 u.2.2.1 u.2.2.2.1 u.2.2.2.2.1 u.2.2.2.2.2.1 u.2.2.2.2.2.2.1 u.2.2.2.2.2.2.2.1 u.2.2.2.2.2.2.2.2.1 u.2.2.2.2.2.2.2.2.2 S_who S_against S_kind S_won S_day S_land S_undoneFrom S_asked S_askedCount S_askedBits S_first S_foundSo S_foundNot S_fought S_needed L_n L_code)) A
abbrev rm_X11_need : Room := { frames := 6, cells := 0, slots := 0, locals := 144 }
def B_X11_need_69   (g69 : Int32 → Int32 → Int32 → Int32 → Int32 → Int32 → Int32 → (Nat → Int32) → (Nat → Int32) → (Nat → Int64) → (Nat → Int64) → (Nat → Int32) → (Nat → Int32) → (Nat → Int32) → (Option (Int32 × Int32 × Int32 × Int32 × (Nat → Int32) × (Nat → Int32) × (Nat → Int64) × (Nat → Int64) × (Nat → Int32) × (Nat → Int32) × (Nat → Int32)))) (court_shoeCount : Int32) (court_claimCount : Int32) (court_suitCount : Int32) (court_shoePerson : Nat → Int32) (court_shoeOther : Nat → Int32) (court_shoeSort : Nat → Int32) (court_shoeDay : Nat → Int32) (court_suits : Nat → Option Nat) (court_laws : Nat → Option Nat) (S_who : Nat → Int32) (S_against : Nat → Int32) (S_kind : Nat → Int32) (S_won : Nat → Int32) (S_day : Nat → Int32) (S_land : Nat → Int32) (S_undoneFrom : Nat → Int32) (S_asked : Nat → Nat → Int32) (S_askedCount : Nat → Int32) (S_askedBits : Nat → Int32) (S_first : Nat → Int32) (S_foundSo : Nat → Int32) (S_foundNot : Nat → Int32) (S_fought : Nat → Int32) (S_needed : Nat → Int32) (L_n : Nat → Nat) (L_code : Nat → Nat → Int32) (x1 : Int32) (x2 : Int32) (x4 : Int32) (x5 : Int32) (inq_day : Int32) (inq_land : Int32) (inq_shoeLeftOut : Int32) (inq_names : Nat → Int32) (inq_stack : Nat → Int32) (inq_judgedShoes : Nat → Int64) (inq_bindingShoes : Nat → Int64) (inq_boundAs : Nat → Int32) (inq_standing : Nat → Int32) (inq_arriving : Nat → Int32) : Option (Int32 × Int32 × Int32 × Int32 × (Nat → Int32) × (Nat → Int32) × (Nat → Int64) × (Nat → Int64) × (Nat → Int32) × (Nat → Int32) × (Nat → Int32)) :=
  (if court_suitCount ≤ x5 then (some ((-2 : Int32), inq_day, inq_land, inq_shoeLeftOut, inq_names, inq_stack, inq_judgedShoes, inq_bindingShoes, inq_boundAs, inq_standing, inq_arriving)) else (zk_b3 (f_X3_findPoint 100000 x1 (x2 / (100 : Int32)) (x2 - x2 / (100 : Int32) * (100 : Int32)) x5 court_shoeCount court_claimCount court_suitCount court_suits court_laws inq_day inq_land inq_shoeLeftOut inq_names inq_stack inq_boundAs S_who S_against S_kind S_won S_day S_land S_undoneFrom S_asked S_askedCount S_askedBits S_first S_foundSo S_foundNot S_fought S_needed L_n L_code) (fun r_31 u_32 u_33 => (if (r_31 &&& (3 : Int32)) = x4 then (zk_let (x5 + (1 : Int32)) (fun v_36 => (g69 x1 x2 x4 v_36 inq_day inq_land inq_shoeLeftOut u_32 u_33 inq_judgedShoes inq_bindingShoes inq_boundAs inq_standing inq_arriving))) else (some (x5, inq_day, inq_land, inq_shoeLeftOut, u_32, u_33, inq_judgedShoes, inq_bindingShoes, inq_boundAs, inq_standing, inq_arriving))))))
def B_X11_need_0   (g69 : Int32 → Int32 → Int32 → Int32 → Int32 → Int32 → Int32 → (Nat → Int32) → (Nat → Int32) → (Nat → Int64) → (Nat → Int64) → (Nat → Int32) → (Nat → Int32) → (Nat → Int32) → (Option (Int32 × Int32 × Int32 × Int32 × (Nat → Int32) × (Nat → Int32) × (Nat → Int64) × (Nat → Int64) × (Nat → Int32) × (Nat → Int32) × (Nat → Int32)))) (court_shoeCount : Int32) (court_claimCount : Int32) (court_suitCount : Int32) (court_shoePerson : Nat → Int32) (court_shoeOther : Nat → Int32) (court_shoeSort : Nat → Int32) (court_shoeDay : Nat → Int32) (court_suits : Nat → Option Nat) (court_laws : Nat → Option Nat) (S_who : Nat → Int32) (S_against : Nat → Int32) (S_kind : Nat → Int32) (S_won : Nat → Int32) (S_day : Nat → Int32) (S_land : Nat → Int32) (S_undoneFrom : Nat → Int32) (S_asked : Nat → Nat → Int32) (S_askedCount : Nat → Int32) (S_askedBits : Nat → Int32) (S_first : Nat → Int32) (S_foundSo : Nat → Int32) (S_foundNot : Nat → Int32) (S_fought : Nat → Int32) (S_needed : Nat → Int32) (L_n : Nat → Nat) (L_code : Nat → Nat → Int32) (x1 : Int32) (x2 : Int32) (x3 : Int32) (inq_day : Int32) (inq_land : Int32) (inq_shoeLeftOut : Int32) (inq_names : Nat → Int32) (inq_stack : Nat → Int32) (inq_judgedShoes : Nat → Int64) (inq_bindingShoes : Nat → Int64) (inq_boundAs : Nat → Int32) (inq_standing : Nat → Int32) (inq_arriving : Nat → Int32) : Option (Int32 × Int32 × Int32 × Int32 × (Nat → Int32) × (Nat → Int32) × (Nat → Int64) × (Nat → Int64) × (Nat → Int32) × (Nat → Int32) × (Nat → Int32)) :=
  (zk_b2 (f_X11_isPoint x1) (fun r_1 u_2 => (if r_1 = 0 then (some ((-1 : Int32), inq_day, inq_land, inq_shoeLeftOut, inq_names, inq_stack, inq_judgedShoes, inq_bindingShoes, inq_boundAs, inq_standing, inq_arriving)) else (zk_b2 (f_X11_isPair x2) (fun r_5 u_6 => (if r_5 = 0 then (some ((-1 : Int32), inq_day, inq_land, inq_shoeLeftOut, inq_names, inq_stack, inq_judgedShoes, inq_bindingShoes, inq_boundAs, inq_standing, inq_arriving)) else (zk_b2 (f_X11_isWhen x3) (fun r_9 u_10 => (if r_9 = 0 then (some ((-1 : Int32), inq_day, inq_land, inq_shoeLeftOut, inq_names, inq_stack, inq_judgedShoes, inq_bindingShoes, inq_boundAs, inq_standing, inq_arriving)) else (zk_b10 (f_X3_open (x3 / (10 : Int32)) (x3 - x3 / (10 : Int32) * (10 : Int32)) court_shoeCount court_claimCount court_suitCount court_shoePerson court_shoeOther court_shoeSort court_shoeDay court_laws inq_day inq_land inq_shoeLeftOut inq_names inq_stack inq_judgedShoes inq_bindingShoes inq_boundAs inq_standing inq_arriving L_n L_code) (fun u_13 u_14 u_15 u_16 u_17 u_18 u_19 u_20 u_21 u_22 => (zk_b3 (f_X3_findPoint 100000 x1 (x2 / (100 : Int32)) (x2 - x2 / (100 : Int32) * (100 : Int32)) (-1 : Int32) court_shoeCount court_claimCount court_suitCount court_suits court_laws u_13 u_14 u_15 u_16 u_17 u_20 S_who S_against S_kind S_won S_day S_land S_undoneFrom S_asked S_askedCount S_askedBits S_first S_foundSo S_foundNot S_fought S_needed L_n L_code) (fun r_24 u_25 u_26 => (zk_let (r_24 &&& (3 : Int32)) (fun v_28 => (if v_28 = 0 then (some ((-1 : Int32), u_13, u_14, u_15, u_25, u_26, u_18, u_19, u_20, u_21, u_22)) else (g69 x1 x2 v_28 (0 : Int32) u_13 u_14 u_15 u_25 u_26 u_18 u_19 u_20 u_21 u_22)))))))))))))))))
def G_X11_need   (court_shoeCount : Int32) (court_claimCount : Int32) (court_suitCount : Int32) (court_shoePerson : Nat → Int32) (court_shoeOther : Nat → Int32) (court_shoeSort : Nat → Int32) (court_shoeDay : Nat → Int32) (court_suits : Nat → Option Nat) (court_laws : Nat → Option Nat) (S_who : Nat → Int32) (S_against : Nat → Int32) (S_kind : Nat → Int32) (S_won : Nat → Int32) (S_day : Nat → Int32) (S_land : Nat → Int32) (S_undoneFrom : Nat → Int32) (S_asked : Nat → Nat → Int32) (S_askedCount : Nat → Int32) (S_askedBits : Nat → Int32) (S_first : Nat → Int32) (S_foundSo : Nat → Int32) (S_foundNot : Nat → Int32) (S_fought : Nat → Int32) (S_needed : Nat → Int32) (L_n : Nat → Nat) (L_code : Nat → Nat → Int32) (n : Nat) : (Int32 → Int32 → Int32 → Int32 → Int32 → Int32 → Int32 → (Nat → Int32) → (Nat → Int32) → (Nat → Int64) → (Nat → Int64) → (Nat → Int32) → (Nat → Int32) → (Nat → Int32) → (Option (Int32 × Int32 × Int32 × Int32 × (Nat → Int32) × (Nat → Int32) × (Nat → Int64) × (Nat → Int64) × (Nat → Int32) × (Nat → Int32) × (Nat → Int32)))) :=
  Nat.rec (motive := fun _ => (Int32 → Int32 → Int32 → Int32 → Int32 → Int32 → Int32 → (Nat → Int32) → (Nat → Int32) → (Nat → Int64) → (Nat → Int64) → (Nat → Int32) → (Nat → Int32) → (Nat → Int32) → (Option (Int32 × Int32 × Int32 × Int32 × (Nat → Int32) × (Nat → Int32) × (Nat → Int64) × (Nat → Int64) × (Nat → Int32) × (Nat → Int32) × (Nat → Int32))))) ((fun _ _ _ _ _ _ _ _ _ _ _ _ _ _ => none)) (fun _ ih => (B_X11_need_69   ih court_shoeCount court_claimCount court_suitCount court_shoePerson court_shoeOther court_shoeSort court_shoeDay court_suits court_laws S_who S_against S_kind S_won S_day S_land S_undoneFrom S_asked S_askedCount S_askedBits S_first S_foundSo S_foundNot S_fought S_needed L_n L_code)) n
def f_X11_need   (n : Nat) (x1 : Int32) (x2 : Int32) (x3 : Int32) (court_shoeCount : Int32) (court_claimCount : Int32) (court_suitCount : Int32) (court_shoePerson : Nat → Int32) (court_shoeOther : Nat → Int32) (court_shoeSort : Nat → Int32) (court_shoeDay : Nat → Int32) (court_suits : Nat → Option Nat) (court_laws : Nat → Option Nat) (inq_day : Int32) (inq_land : Int32) (inq_shoeLeftOut : Int32) (inq_names : Nat → Int32) (inq_stack : Nat → Int32) (inq_judgedShoes : Nat → Int64) (inq_bindingShoes : Nat → Int64) (inq_boundAs : Nat → Int32) (inq_standing : Nat → Int32) (inq_arriving : Nat → Int32) (S_who : Nat → Int32) (S_against : Nat → Int32) (S_kind : Nat → Int32) (S_won : Nat → Int32) (S_day : Nat → Int32) (S_land : Nat → Int32) (S_undoneFrom : Nat → Int32) (S_asked : Nat → Nat → Int32) (S_askedCount : Nat → Int32) (S_askedBits : Nat → Int32) (S_first : Nat → Int32) (S_foundSo : Nat → Int32) (S_foundNot : Nat → Int32) (S_fought : Nat → Int32) (S_needed : Nat → Int32) (L_n : Nat → Nat) (L_code : Nat → Nat → Int32) : Option (Int32 × Int32 × Int32 × Int32 × (Nat → Int32) × (Nat → Int32) × (Nat → Int64) × (Nat → Int64) × (Nat → Int32) × (Nat → Int32) × (Nat → Int32)) := B_X11_need_0   ((G_X11_need   court_shoeCount court_claimCount court_suitCount court_shoePerson court_shoeOther court_shoeSort court_shoeDay court_suits court_laws S_who S_against S_kind S_won S_day S_land S_undoneFrom S_asked S_askedCount S_askedBits S_first S_foundSo S_foundNot S_fought S_needed L_n L_code n)) court_shoeCount court_claimCount court_suitCount court_shoePerson court_shoeOther court_shoeSort court_shoeDay court_suits court_laws S_who S_against S_kind S_won S_day S_land S_undoneFrom S_asked S_askedCount S_askedBits S_first S_foundSo S_foundNot S_fought S_needed L_n L_code x1 x2 x3 inq_day inq_land inq_shoeLeftOut inq_names inq_stack inq_judgedShoes inq_bindingShoes inq_boundAs inq_standing inq_arriving
set_option maxHeartbeats 4000000 in
set_option maxRecDepth 100000 in
theorem L_X11_need_69 {p : Program} {l : Launch} {e : Env} {s : State} {m : MethodId} {args : Array Value} {below : List Frame} {meth : Method} {c : Code} {A : Nat → Prop} {D : va_G} {cs : Nat → ClassId} {ad : Nat → Nat} {PL : va_W} {S_a : Nat → Nat} {S_b : Nat → Nat} {L_a : Nat → Nat} {L_b : Nat → Nat} {court_shoeCount : Int32} {court_claimCount : Int32} {court_suitCount : Int32} {court_shoePerson : Nat → Int32} {court_shoeOther : Nat → Int32} {court_shoeSort : Nat → Int32} {court_shoeDay : Nat → Int32} {court_suits : Nat → Option Nat} {court_laws : Nat → Option Nat} {S_who : Nat → Int32} {S_against : Nat → Int32} {S_kind : Nat → Int32} {S_won : Nat → Int32} {S_day : Nat → Int32} {S_land : Nat → Int32} {S_undoneFrom : Nat → Int32} {S_asked : Nat → Nat → Int32} {S_askedCount : Nat → Int32} {S_askedBits : Nat → Int32} {S_first : Nat → Int32} {S_foundSo : Nat → Int32} {S_foundNot : Nat → Int32} {S_fought : Nat → Int32} {S_needed : Nat → Int32} {L_n : Nat → Nat} {L_code : Nat → Nat → Int32} {R : Int32 × Int32 × Int32 × Int32 × (Nat → Int32) × (Nat → Int32) × (Nat → Int64) × (Nat → Int64) × (Nat → Int32) × (Nat → Int32) × (Nat → Int32)} {g69 : Int32 → Int32 → Int32 → Int32 → Int32 → Int32 → Int32 → (Nat → Int32) → (Nat → Int32) → (Nat → Int64) → (Nat → Int64) → (Nat → Int32) → (Nat → Int32) → (Nat → Int32) → (Option (Int32 × Int32 × Int32 × Int32 × (Nat → Int32) × (Nat → Int32) × (Nat → Int64) × (Nat → Int64) × (Nat → Int32) × (Nat → Int32) × (Nat → Int32)))} (C0 : zC p s m args meth c cX11_need 6 (some .int) RX11 zW) (hK : va_K D classes (zT cs) s) (hA : ∀ q : Nat, s.heap.size ≤ q → A q) (hSU : PSu cs PL court_suitCount court_suits S_a S_b S_who S_against S_kind S_won S_day S_land S_undoneFrom S_asked S_askedCount S_askedBits S_first S_foundSo S_foundNot S_fought S_needed) (hLA : PLa cs PL court_laws L_a L_b L_n L_code) (ih69 : ∀ (x1 : Int32) (x2 : Int32) (x4 : Int32) (x5 : Int32) (inq_day : Int32) (inq_land : Int32) (inq_shoeLeftOut : Int32) (inq_names : Nat → Int32) (inq_stack : Nat → Int32) (inq_judgedShoes : Nat → Int64) (inq_bindingShoes : Nat → Int64) (inq_boundAs : Nat → Int32) (inq_standing : Nat → Int32) (inq_arriving : Nat → Int32) (h : g69 x1 x2 x4 x5 inq_day inq_land inq_shoeLeftOut inq_names inq_stack inq_judgedShoes inq_bindingShoes inq_boundAs inq_standing inq_arriving = some R) (H : Heap) (locs : List Loc) (ls : Array Slot) (hP : va_P D classes (wl_X11_need ad cs PL S_a S_b L_a L_b court_shoeCount court_claimCount court_suitCount court_shoePerson court_shoeOther court_shoeSort court_shoeDay court_suits court_laws inq_day inq_land inq_shoeLeftOut inq_names inq_stack inq_judgedShoes inq_bindingShoes inq_boundAs inq_standing inq_arriving S_who S_against S_kind S_won S_day S_land S_undoneFrom S_asked S_askedCount S_askedBits S_first S_foundSo S_foundNot S_fought S_needed L_n L_code) H) (hD : va_D A (wl_X11_need ad cs PL S_a S_b L_a L_b court_shoeCount court_claimCount court_suitCount court_shoePerson court_shoeOther court_shoeSort court_shoeDay court_suits court_laws inq_day inq_land inq_shoeLeftOut inq_names inq_stack inq_judgedShoes inq_bindingShoes inq_boundAs inq_standing inq_arriving S_who S_against S_kind S_won S_day S_land S_undoneFrom S_asked S_askedCount S_askedBits S_first S_foundSo S_foundNot S_fought S_needed L_n L_code)) (hS : va_S A s.heap H locs) (hl : lv_has ls 6 [(0, .ref (ad 0)), (1, .int x1), (2, .int x2), (4, .int x4), (5, .int x5)]), W p l e rm_X11_need s m args below meth c H locs 0 0 (MQ below (Q_X11_need D cs ad PL S_a S_b L_a L_b court_shoeCount court_claimCount court_suitCount court_shoePerson court_shoeOther court_shoeSort court_shoeDay court_suits court_laws S_who S_against S_kind S_won S_day S_land S_undoneFrom S_asked S_askedCount S_askedBits S_first S_foundSo S_foundNot S_fought S_needed L_n L_code A R) args s 0 0 A) (F0 m 69 ls [])) (x1 : Int32) (x2 : Int32) (x4 : Int32) (x5 : Int32) (inq_day : Int32) (inq_land : Int32) (inq_shoeLeftOut : Int32) (inq_names : Nat → Int32) (inq_stack : Nat → Int32) (inq_judgedShoes : Nat → Int64) (inq_bindingShoes : Nat → Int64) (inq_boundAs : Nat → Int32) (inq_standing : Nat → Int32) (inq_arriving : Nat → Int32) (h : B_X11_need_69 g69 court_shoeCount court_claimCount court_suitCount court_shoePerson court_shoeOther court_shoeSort court_shoeDay court_suits court_laws S_who S_against S_kind S_won S_day S_land S_undoneFrom S_asked S_askedCount S_askedBits S_first S_foundSo S_foundNot S_fought S_needed L_n L_code x1 x2 x4 x5 inq_day inq_land inq_shoeLeftOut inq_names inq_stack inq_judgedShoes inq_bindingShoes inq_boundAs inq_standing inq_arriving = some R) (H : Heap) (locs : List Loc) (ls : Array Slot) (hP : va_P D classes (wl_X11_need ad cs PL S_a S_b L_a L_b court_shoeCount court_claimCount court_suitCount court_shoePerson court_shoeOther court_shoeSort court_shoeDay court_suits court_laws inq_day inq_land inq_shoeLeftOut inq_names inq_stack inq_judgedShoes inq_bindingShoes inq_boundAs inq_standing inq_arriving S_who S_against S_kind S_won S_day S_land S_undoneFrom S_asked S_askedCount S_askedBits S_first S_foundSo S_foundNot S_fought S_needed L_n L_code) H) (hD : va_D A (wl_X11_need ad cs PL S_a S_b L_a L_b court_shoeCount court_claimCount court_suitCount court_shoePerson court_shoeOther court_shoeSort court_shoeDay court_suits court_laws inq_day inq_land inq_shoeLeftOut inq_names inq_stack inq_judgedShoes inq_bindingShoes inq_boundAs inq_standing inq_arriving S_who S_against S_kind S_won S_day S_land S_undoneFrom S_asked S_askedCount S_askedBits S_first S_foundSo S_foundNot S_fought S_needed L_n L_code)) (hS : va_S A s.heap H locs) (hl : lv_has ls 6 [(0, .ref (ad 0)), (1, .int x1), (2, .int x2), (4, .int x4), (5, .int x5)]) : W p l e rm_X11_need s m args below meth c H locs 0 0 (MQ below (Q_X11_need D cs ad PL S_a S_b L_a L_b court_shoeCount court_claimCount court_suitCount court_shoePerson court_shoeOther court_shoeSort court_shoeDay court_suits court_laws S_who S_against S_kind S_won S_day S_land S_undoneFrom S_asked S_askedCount S_askedBits S_first S_foundSo S_foundNot S_fought S_needed L_n L_code A R) args s 0 0 A) (F0 m 69 ls []) := by
  obtain ⟨hx, hb, hr, hml, hown, ht, hlocks⟩ := id C0
  refine lv_iload hx hb dX11_need_69 (lv_at hl 4 rfl) ?_
  refine lv_aload_n hx hb dX11_need_71 rfl (lv_at hl 0 rfl) ?_
  refine va_get (D := D) (ci := 11) (v := .ref (ad 4)) (C := RX11) (T := TX11) (N := 11) hx hb ht iX11 hown hK hP 0 rfl rfl 0 (by decide) (ht _ kw_696) (fun _ h9 => h9) rfl dX11_need_72 ?_
  refine va_get (D := D) (ci := 2) (v := .int court_suitCount) (C := RX2) (T := TX2) (N := 13) hx hb ht iX2 hown hK hP 1 rfl rfl 12 (by decide) (ht _ kw_155) (fun _ h9 => h9) rfl dX11_need_75 ?_
  refine lv_icmp_ge (tgt := 115) hx hb dX11_need_78 (by decide) (fun c_30 => ?_) (fun c_30 => ?_)
  · have h := zk_t c_30 h
    refine lv_bipush (v := (-2 : Int32)) hx hb dX11_need_115 (by decide) ?_
    exact W.iret (v := (-2 : Int32)) hx hb hr (fun t ht2 hW => ⟨⟨(-2 : Int32), (inq_day, inq_land, inq_shoeLeftOut, inq_names, inq_stack, inq_judgedShoes, inq_bindingShoes, inq_boundAs, inq_standing, inq_arriving), rfl, Option.some.inj h, by rw [ht2]; exact hP, hD⟩, hS.F ht2⟩) hS.2.2 dX11_need_117 hlocks
  · have h := zk_f c_30 h
    refine lv_aload_n hx hb dX11_need_81 rfl (lv_at hl 0 rfl) ?_
    refine va_get (D := D) (ci := 11) (v := .ref (ad 15)) (C := RX11) (T := TX11) (N := 11) hx hb ht iX11 hown hK hP 0 rfl rfl 1 (by decide) (ht _ kw_697) (fun _ h9 => h9) rfl dX11_need_82 ?_
    refine lv_iload_n hx hb dX11_need_85 rfl (lv_at hl 1 rfl) ?_
    refine lv_iload_n hx hb dX11_need_86 rfl (lv_at hl 2 rfl) ?_
    refine lv_bipush (v := (100 : Int32)) hx hb dX11_need_87 (by decide) ?_
    refine lv_idiv hx hb dX11_need_89 (by decide) ?_
    refine lv_iload_n hx hb dX11_need_90 rfl (lv_at hl 2 rfl) ?_
    refine lv_bipush (v := (100 : Int32)) hx hb dX11_need_91 (by decide) ?_
    refine lv_irem hx hb dX11_need_93 (by decide) ?_
    refine lv_iload hx hb dX11_need_94 (lv_at hl 4 rfl) ?_
    obtain ⟨r_31, u_32, u_33, hc_34, h⟩ := zk_o3 h
    refine zz_viP (post := (fun r u => (r, u) = (r_31, u_32, u_33))) (w1 := fun u => (wx_X3_findPoint ad cs PL S_a S_b L_a L_b court_shoeCount court_claimCount court_suitCount court_suits court_laws inq_day inq_land inq_shoeLeftOut u.1 u.2 inq_boundAs S_who S_against S_kind S_won S_day S_land S_undoneFrom S_asked S_askedCount S_askedBits S_first S_foundSo S_foundNot S_fought S_needed L_n L_code)) (PL := PL) (As := [.int x1, .int (x2 / (100 : Int32)), .int (x2 - x2 / (100 : Int32) * (100 : Int32)), .int x5]) (rest := []) (c_X3_findPoint l D cs ad PL S_a S_b L_a L_b H.size 100000 x1 (x2 / (100 : Int32)) (x2 - x2 / (100 : Int32) * (100 : Int32)) x5 court_shoeCount court_claimCount court_suitCount court_suits court_laws inq_day inq_land inq_shoeLeftOut inq_names inq_stack inq_boundAs S_who S_against S_kind S_won S_day S_land S_undoneFrom S_asked S_askedCount S_askedBits S_first S_foundSo S_foundNot S_fought S_needed L_n L_code hSU hLA (r_31, u_32, u_33) hc_34) ⟨hx, hb, hml, hown, ht⟩ (cwV 4 ht g_X11_255 rfl rfl rfl ⟨rfl, hd_X3_findPoint⟩ ⟨Nat.le_of_ble_eq_true rfl, Nat.le_of_ble_eq_true rfl⟩) (va_recv hK hP (ci := 3) (q0 := 8) rfl rfl) hP hD hS hK hA [1, 6, 7, 8, 9, 10, 13] rfl rfl [(ad 4), (ad 13), (ad 14), (ad 15), (ad 16), (ad 17), (ad 20)] rfl (fun _ => rfl) rfl hl.1 (Nat.le_of_ble_eq_true rfl) dX11_need_96 ⟨Nat.zero_le _, Nat.zero_le _⟩ (fun r u H locs hq hP hS => ?_)
    cases hq
    have hP : va_P D classes (wl_X11_need ad cs PL S_a S_b L_a L_b court_shoeCount court_claimCount court_suitCount court_shoePerson court_shoeOther court_shoeSort court_shoeDay court_suits court_laws inq_day inq_land inq_shoeLeftOut u_32 u_33 inq_judgedShoes inq_bindingShoes inq_boundAs inq_standing inq_arriving S_who S_against S_kind S_won S_day S_land S_undoneFrom S_asked S_askedCount S_askedBits S_first S_foundSo S_foundNot S_fought S_needed L_n L_code) H := hP
    have hD : va_D A (wl_X11_need ad cs PL S_a S_b L_a L_b court_shoeCount court_claimCount court_suitCount court_shoePerson court_shoeOther court_shoeSort court_shoeDay court_suits court_laws inq_day inq_land inq_shoeLeftOut u_32 u_33 inq_judgedShoes inq_bindingShoes inq_boundAs inq_standing inq_arriving S_who S_against S_kind S_won S_day S_land S_undoneFrom S_asked S_askedCount S_askedBits S_first S_foundSo S_foundNot S_fought S_needed L_n L_code) := zDkp hD [(ad 0), (ad 4), (ad 5), (ad 6), (ad 7), (ad 8), (ad 13), (ad 14), (ad 15), (ad 16), (ad 17), (ad 18), (ad 19), (ad 20), (ad 21), (ad 22)] rfl rfl
    refine lv_iconst (v := (3 : Int32)) hx hb dX11_need_99 (by decide) ?_
    refine lv_iand hx hb dX11_need_100 ?_
    refine lv_iload hx hb dX11_need_101 (lv_at hl 3 rfl) ?_
    refine lv_icmp_eq (tgt := 109) hx hb dX11_need_103 (by decide) (fun c_35 => ?_) (fun c_35 => ?_)
    · have h := zk_t c_35 h
      obtain ⟨v_36, ev_36, h⟩ := zk_lt h
      refine lv_iinc (v := v_36) (lv' := [(5, .int v_36), (0, .ref (ad 0)), (1, .int x1), (2, .int x2), (4, .int x4)]) hx hb dX11_need_109 hl (k := 4) rfl (by rw [ev_36]; rfl) (by decide) rfl (fun ls hl => ?_)
      refine lv_goto (tgt := 69) hx hb dX11_need_112 (by decide) ?_
      exact ih69 x1 x2 x4 v_36 inq_day inq_land inq_shoeLeftOut u_32 u_33 inq_judgedShoes inq_bindingShoes inq_boundAs inq_standing inq_arriving h H locs ls hP hD hS (lv_sub hl [1, 2, 3, 4, 0] rfl)
    · have h := zk_f c_35 h
      refine lv_iload hx hb dX11_need_106 (lv_at hl 4 rfl) ?_
      exact W.iret (v := x5) hx hb hr (fun t ht2 hW => ⟨⟨x5, (inq_day, inq_land, inq_shoeLeftOut, u_32, u_33, inq_judgedShoes, inq_bindingShoes, inq_boundAs, inq_standing, inq_arriving), rfl, Option.some.inj h, by rw [ht2]; exact hP, hD⟩, hS.F ht2⟩) hS.2.2 dX11_need_108 hlocks
set_option maxHeartbeats 4000000 in
set_option maxRecDepth 100000 in
theorem L_X11_need_0 {p : Program} {l : Launch} {e : Env} {s : State} {m : MethodId} {args : Array Value} {below : List Frame} {meth : Method} {c : Code} {A : Nat → Prop} {D : va_G} {cs : Nat → ClassId} {ad : Nat → Nat} {PL : va_W} {S_a : Nat → Nat} {S_b : Nat → Nat} {L_a : Nat → Nat} {L_b : Nat → Nat} {court_shoeCount : Int32} {court_claimCount : Int32} {court_suitCount : Int32} {court_shoePerson : Nat → Int32} {court_shoeOther : Nat → Int32} {court_shoeSort : Nat → Int32} {court_shoeDay : Nat → Int32} {court_suits : Nat → Option Nat} {court_laws : Nat → Option Nat} {S_who : Nat → Int32} {S_against : Nat → Int32} {S_kind : Nat → Int32} {S_won : Nat → Int32} {S_day : Nat → Int32} {S_land : Nat → Int32} {S_undoneFrom : Nat → Int32} {S_asked : Nat → Nat → Int32} {S_askedCount : Nat → Int32} {S_askedBits : Nat → Int32} {S_first : Nat → Int32} {S_foundSo : Nat → Int32} {S_foundNot : Nat → Int32} {S_fought : Nat → Int32} {S_needed : Nat → Int32} {L_n : Nat → Nat} {L_code : Nat → Nat → Int32} {R : Int32 × Int32 × Int32 × Int32 × (Nat → Int32) × (Nat → Int32) × (Nat → Int64) × (Nat → Int64) × (Nat → Int32) × (Nat → Int32) × (Nat → Int32)} {g69 : Int32 → Int32 → Int32 → Int32 → Int32 → Int32 → Int32 → (Nat → Int32) → (Nat → Int32) → (Nat → Int64) → (Nat → Int64) → (Nat → Int32) → (Nat → Int32) → (Nat → Int32) → (Option (Int32 × Int32 × Int32 × Int32 × (Nat → Int32) × (Nat → Int32) × (Nat → Int64) × (Nat → Int64) × (Nat → Int32) × (Nat → Int32) × (Nat → Int32)))} (C0 : zC p s m args meth c cX11_need 6 (some .int) RX11 zW) (hK : va_K D classes (zT cs) s) (hA : ∀ q : Nat, s.heap.size ≤ q → A q) (hSU : PSu cs PL court_suitCount court_suits S_a S_b S_who S_against S_kind S_won S_day S_land S_undoneFrom S_asked S_askedCount S_askedBits S_first S_foundSo S_foundNot S_fought S_needed) (hLA : PLa cs PL court_laws L_a L_b L_n L_code) (ih69 : ∀ (x1 : Int32) (x2 : Int32) (x4 : Int32) (x5 : Int32) (inq_day : Int32) (inq_land : Int32) (inq_shoeLeftOut : Int32) (inq_names : Nat → Int32) (inq_stack : Nat → Int32) (inq_judgedShoes : Nat → Int64) (inq_bindingShoes : Nat → Int64) (inq_boundAs : Nat → Int32) (inq_standing : Nat → Int32) (inq_arriving : Nat → Int32) (h : g69 x1 x2 x4 x5 inq_day inq_land inq_shoeLeftOut inq_names inq_stack inq_judgedShoes inq_bindingShoes inq_boundAs inq_standing inq_arriving = some R) (H : Heap) (locs : List Loc) (ls : Array Slot) (hP : va_P D classes (wl_X11_need ad cs PL S_a S_b L_a L_b court_shoeCount court_claimCount court_suitCount court_shoePerson court_shoeOther court_shoeSort court_shoeDay court_suits court_laws inq_day inq_land inq_shoeLeftOut inq_names inq_stack inq_judgedShoes inq_bindingShoes inq_boundAs inq_standing inq_arriving S_who S_against S_kind S_won S_day S_land S_undoneFrom S_asked S_askedCount S_askedBits S_first S_foundSo S_foundNot S_fought S_needed L_n L_code) H) (hD : va_D A (wl_X11_need ad cs PL S_a S_b L_a L_b court_shoeCount court_claimCount court_suitCount court_shoePerson court_shoeOther court_shoeSort court_shoeDay court_suits court_laws inq_day inq_land inq_shoeLeftOut inq_names inq_stack inq_judgedShoes inq_bindingShoes inq_boundAs inq_standing inq_arriving S_who S_against S_kind S_won S_day S_land S_undoneFrom S_asked S_askedCount S_askedBits S_first S_foundSo S_foundNot S_fought S_needed L_n L_code)) (hS : va_S A s.heap H locs) (hl : lv_has ls 6 [(0, .ref (ad 0)), (1, .int x1), (2, .int x2), (4, .int x4), (5, .int x5)]), W p l e rm_X11_need s m args below meth c H locs 0 0 (MQ below (Q_X11_need D cs ad PL S_a S_b L_a L_b court_shoeCount court_claimCount court_suitCount court_shoePerson court_shoeOther court_shoeSort court_shoeDay court_suits court_laws S_who S_against S_kind S_won S_day S_land S_undoneFrom S_asked S_askedCount S_askedBits S_first S_foundSo S_foundNot S_fought S_needed L_n L_code A R) args s 0 0 A) (F0 m 69 ls [])) (x1 : Int32) (x2 : Int32) (x3 : Int32) (inq_day : Int32) (inq_land : Int32) (inq_shoeLeftOut : Int32) (inq_names : Nat → Int32) (inq_stack : Nat → Int32) (inq_judgedShoes : Nat → Int64) (inq_bindingShoes : Nat → Int64) (inq_boundAs : Nat → Int32) (inq_standing : Nat → Int32) (inq_arriving : Nat → Int32) (h : B_X11_need_0 g69 court_shoeCount court_claimCount court_suitCount court_shoePerson court_shoeOther court_shoeSort court_shoeDay court_suits court_laws S_who S_against S_kind S_won S_day S_land S_undoneFrom S_asked S_askedCount S_askedBits S_first S_foundSo S_foundNot S_fought S_needed L_n L_code x1 x2 x3 inq_day inq_land inq_shoeLeftOut inq_names inq_stack inq_judgedShoes inq_bindingShoes inq_boundAs inq_standing inq_arriving = some R) (H : Heap) (locs : List Loc) (ls : Array Slot) (hP : va_P D classes (wl_X11_need ad cs PL S_a S_b L_a L_b court_shoeCount court_claimCount court_suitCount court_shoePerson court_shoeOther court_shoeSort court_shoeDay court_suits court_laws inq_day inq_land inq_shoeLeftOut inq_names inq_stack inq_judgedShoes inq_bindingShoes inq_boundAs inq_standing inq_arriving S_who S_against S_kind S_won S_day S_land S_undoneFrom S_asked S_askedCount S_askedBits S_first S_foundSo S_foundNot S_fought S_needed L_n L_code) H) (hD : va_D A (wl_X11_need ad cs PL S_a S_b L_a L_b court_shoeCount court_claimCount court_suitCount court_shoePerson court_shoeOther court_shoeSort court_shoeDay court_suits court_laws inq_day inq_land inq_shoeLeftOut inq_names inq_stack inq_judgedShoes inq_bindingShoes inq_boundAs inq_standing inq_arriving S_who S_against S_kind S_won S_day S_land S_undoneFrom S_asked S_askedCount S_askedBits S_first S_foundSo S_foundNot S_fought S_needed L_n L_code)) (hS : va_S A s.heap H locs) (hl : lv_has ls 6 [(0, .ref (ad 0)), (1, .int x1), (2, .int x2), (3, .int x3)]) : W p l e rm_X11_need s m args below meth c H locs 0 0 (MQ below (Q_X11_need D cs ad PL S_a S_b L_a L_b court_shoeCount court_claimCount court_suitCount court_shoePerson court_shoeOther court_shoeSort court_shoeDay court_suits court_laws S_who S_against S_kind S_won S_day S_land S_undoneFrom S_asked S_askedCount S_askedBits S_first S_foundSo S_foundNot S_fought S_needed L_n L_code A R) args s 0 0 A) (F0 m 0 ls []) := by
  obtain ⟨hx, hb, hr, hml, hown, ht, hlocks⟩ := id C0
  refine lv_iload_n hx hb dX11_need_0 rfl (lv_at hl 1 rfl) ?_
  obtain ⟨r_1, u_2, hc_3, h⟩ := zk_o2 h
  refine zz_siQ (post := (fun r u => (r, u) = (r_1, u_2))) (w1 := fun u => (wl_X11_isPoint ad cs )) (As := [.int x1]) (rest := []) (c_X11_isPoint l D cs ad  H.size x1 (r_1, u_2) hc_3) ⟨hx, hb, hml, hown, ht⟩ (va_cwS 1 ht g_X11_252 rfl rfl rfl hd_X11_isPoint ⟨Nat.le_of_ble_eq_true rfl, Nat.le_of_ble_eq_true rfl⟩) hP hD hS hK hA [] rfl rfl [] rfl (fun _ => rfl) rfl hl.1 (Nat.le_of_ble_eq_true rfl) dX11_need_1 ⟨Nat.zero_le _, Nat.zero_le _⟩ (fun r u H locs hq hP hS => ?_)
  cases hq
  have hP : va_P D classes (wl_X11_need ad cs PL S_a S_b L_a L_b court_shoeCount court_claimCount court_suitCount court_shoePerson court_shoeOther court_shoeSort court_shoeDay court_suits court_laws inq_day inq_land inq_shoeLeftOut inq_names inq_stack inq_judgedShoes inq_bindingShoes inq_boundAs inq_standing inq_arriving S_who S_against S_kind S_won S_day S_land S_undoneFrom S_asked S_askedCount S_askedBits S_first S_foundSo S_foundNot S_fought S_needed L_n L_code) H := hP
  refine lv_if_eq (tgt := 21) hx hb dX11_need_4 (by decide) (fun c_4 => ?_) (fun c_4 => ?_)
  · have h := zk_t c_4 h
    refine lv_iconst (v := (-1 : Int32)) hx hb dX11_need_21 (by decide) ?_
    exact W.iret (v := (-1 : Int32)) hx hb hr (fun t ht2 hW => ⟨⟨(-1 : Int32), (inq_day, inq_land, inq_shoeLeftOut, inq_names, inq_stack, inq_judgedShoes, inq_bindingShoes, inq_boundAs, inq_standing, inq_arriving), rfl, Option.some.inj h, by rw [ht2]; exact hP, hD⟩, hS.F ht2⟩) hS.2.2 dX11_need_22 hlocks
  · have h := zk_f c_4 h
    refine lv_iload_n hx hb dX11_need_7 rfl (lv_at hl 2 rfl) ?_
    obtain ⟨r_5, u_6, hc_7, h⟩ := zk_o2 h
    refine zz_siQ (post := (fun r u => (r, u) = (r_5, u_6))) (w1 := fun u => (wl_X11_isPair ad cs )) (As := [.int x2]) (rest := []) (c_X11_isPair l D cs ad  H.size x2 (r_5, u_6) hc_7) ⟨hx, hb, hml, hown, ht⟩ (va_cwS 1 ht g_X11_148 rfl rfl rfl hd_X11_isPair ⟨Nat.le_of_ble_eq_true rfl, Nat.le_of_ble_eq_true rfl⟩) hP hD hS hK hA [] rfl rfl [] rfl (fun _ => rfl) rfl hl.1 (Nat.le_of_ble_eq_true rfl) dX11_need_8 ⟨Nat.zero_le _, Nat.zero_le _⟩ (fun r u H locs hq hP hS => ?_)
    cases hq
    have hP : va_P D classes (wl_X11_need ad cs PL S_a S_b L_a L_b court_shoeCount court_claimCount court_suitCount court_shoePerson court_shoeOther court_shoeSort court_shoeDay court_suits court_laws inq_day inq_land inq_shoeLeftOut inq_names inq_stack inq_judgedShoes inq_bindingShoes inq_boundAs inq_standing inq_arriving S_who S_against S_kind S_won S_day S_land S_undoneFrom S_asked S_askedCount S_askedBits S_first S_foundSo S_foundNot S_fought S_needed L_n L_code) H := hP
    refine lv_if_eq (tgt := 21) hx hb dX11_need_11 (by decide) (fun c_8 => ?_) (fun c_8 => ?_)
    · have h := zk_t c_8 h
      refine lv_iconst (v := (-1 : Int32)) hx hb dX11_need_21 (by decide) ?_
      exact W.iret (v := (-1 : Int32)) hx hb hr (fun t ht2 hW => ⟨⟨(-1 : Int32), (inq_day, inq_land, inq_shoeLeftOut, inq_names, inq_stack, inq_judgedShoes, inq_bindingShoes, inq_boundAs, inq_standing, inq_arriving), rfl, Option.some.inj h, by rw [ht2]; exact hP, hD⟩, hS.F ht2⟩) hS.2.2 dX11_need_22 hlocks
    · have h := zk_f c_8 h
      refine lv_iload_n hx hb dX11_need_14 rfl (lv_at hl 3 rfl) ?_
      obtain ⟨r_9, u_10, hc_11, h⟩ := zk_o2 h
      refine zz_siQ (post := (fun r u => (r, u) = (r_9, u_10))) (w1 := fun u => (wl_X11_isWhen ad cs )) (As := [.int x3]) (rest := []) (c_X11_isWhen l D cs ad  H.size x3 (r_9, u_10) hc_11) ⟨hx, hb, hml, hown, ht⟩ (va_cwS 1 ht g_X11_243 rfl rfl rfl hd_X11_isWhen ⟨Nat.le_of_ble_eq_true rfl, Nat.le_of_ble_eq_true rfl⟩) hP hD hS hK hA [] rfl rfl [] rfl (fun _ => rfl) rfl hl.1 (Nat.le_of_ble_eq_true rfl) dX11_need_15 ⟨Nat.zero_le _, Nat.zero_le _⟩ (fun r u H locs hq hP hS => ?_)
      cases hq
      have hP : va_P D classes (wl_X11_need ad cs PL S_a S_b L_a L_b court_shoeCount court_claimCount court_suitCount court_shoePerson court_shoeOther court_shoeSort court_shoeDay court_suits court_laws inq_day inq_land inq_shoeLeftOut inq_names inq_stack inq_judgedShoes inq_bindingShoes inq_boundAs inq_standing inq_arriving S_who S_against S_kind S_won S_day S_land S_undoneFrom S_asked S_askedCount S_askedBits S_first S_foundSo S_foundNot S_fought S_needed L_n L_code) H := hP
      refine lv_if_ne (tgt := 23) hx hb dX11_need_18 (by decide) (fun c_12 => ?_) (fun c_12 => ?_)
      · have h := zk_f c_12 h
        refine lv_aload_n hx hb dX11_need_23 rfl (lv_at hl 0 rfl) ?_
        refine va_get (D := D) (ci := 11) (v := .ref (ad 15)) (C := RX11) (T := TX11) (N := 11) hx hb ht iX11 hown hK hP 0 rfl rfl 1 (by decide) (ht _ kw_697) (fun _ h9 => h9) rfl dX11_need_24 ?_
        refine lv_iload_n hx hb dX11_need_27 rfl (lv_at hl 3 rfl) ?_
        refine lv_bipush (v := (10 : Int32)) hx hb dX11_need_28 (by decide) ?_
        refine lv_idiv hx hb dX11_need_30 (by decide) ?_
        refine lv_iload_n hx hb dX11_need_31 rfl (lv_at hl 3 rfl) ?_
        refine lv_bipush (v := (10 : Int32)) hx hb dX11_need_32 (by decide) ?_
        refine lv_irem hx hb dX11_need_34 (by decide) ?_
        obtain ⟨u_13, u_14, u_15, u_16, u_17, u_18, u_19, u_20, u_21, u_22, hc_23, h⟩ := zk_o10 h
        refine zz_vvP (post := (fun u => u = (u_13, u_14, u_15, u_16, u_17, u_18, u_19, u_20, u_21, u_22))) (w1 := fun u => (wx_X3_open ad cs PL L_a L_b court_shoeCount court_claimCount court_suitCount court_shoePerson court_shoeOther court_shoeSort court_shoeDay court_laws u.1 u.2.1 u.2.2.1 u.2.2.2.1 u.2.2.2.2.1 u.2.2.2.2.2.1 u.2.2.2.2.2.2.1 u.2.2.2.2.2.2.2.1 u.2.2.2.2.2.2.2.2.1 u.2.2.2.2.2.2.2.2.2 L_n L_code)) (PL := PL) (As := [.int (x3 / (10 : Int32)), .int (x3 - x3 / (10 : Int32) * (10 : Int32))]) (rest := []) (c_X3_open l D cs ad PL L_a L_b H.size (x3 / (10 : Int32)) (x3 - x3 / (10 : Int32) * (10 : Int32)) court_shoeCount court_claimCount court_suitCount court_shoePerson court_shoeOther court_shoeSort court_shoeDay court_laws inq_day inq_land inq_shoeLeftOut inq_names inq_stack inq_judgedShoes inq_bindingShoes inq_boundAs inq_standing inq_arriving L_n L_code hLA (u_13, u_14, u_15, u_16, u_17, u_18, u_19, u_20, u_21, u_22) hc_23) ⟨hx, hb, hml, hown, ht⟩ (cwV 2 ht g_X11_246 rfl rfl rfl ⟨rfl, hd_X3_open⟩ ⟨Nat.le_of_ble_eq_true rfl, Nat.le_of_ble_eq_true rfl⟩) (va_recv hK hP (ci := 3) (q0 := 8) rfl rfl) hP hD hS hK hA [1, 2, 3, 4, 5, 7, 8, 9, 10, 11, 12, 13, 14, 15] rfl rfl [(ad 4), (ad 5), (ad 6), (ad 7), (ad 8), (ad 14), (ad 15), (ad 16), (ad 17), (ad 18), (ad 19), (ad 20), (ad 21), (ad 22)] rfl (fun _ => rfl) rfl hl.1 (Nat.le_of_ble_eq_true rfl) dX11_need_35 ⟨Nat.zero_le _, Nat.zero_le _⟩ (fun u H locs hq hP hS => ?_)
        cases hq
        have hP : va_P D classes (wl_X11_need ad cs PL S_a S_b L_a L_b court_shoeCount court_claimCount court_suitCount court_shoePerson court_shoeOther court_shoeSort court_shoeDay court_suits court_laws u_13 u_14 u_15 u_16 u_17 u_18 u_19 u_20 u_21 u_22 S_who S_against S_kind S_won S_day S_land S_undoneFrom S_asked S_askedCount S_askedBits S_first S_foundSo S_foundNot S_fought S_needed L_n L_code) H := hP
        have hD : va_D A (wl_X11_need ad cs PL S_a S_b L_a L_b court_shoeCount court_claimCount court_suitCount court_shoePerson court_shoeOther court_shoeSort court_shoeDay court_suits court_laws u_13 u_14 u_15 u_16 u_17 u_18 u_19 u_20 u_21 u_22 S_who S_against S_kind S_won S_day S_land S_undoneFrom S_asked S_askedCount S_askedBits S_first S_foundSo S_foundNot S_fought S_needed L_n L_code) := zDkp hD [(ad 0), (ad 4), (ad 5), (ad 6), (ad 7), (ad 8), (ad 13), (ad 14), (ad 15), (ad 16), (ad 17), (ad 18), (ad 19), (ad 20), (ad 21), (ad 22)] rfl rfl
        refine lv_aload_n hx hb dX11_need_38 rfl (lv_at hl 0 rfl) ?_
        refine va_get (D := D) (ci := 11) (v := .ref (ad 15)) (C := RX11) (T := TX11) (N := 11) hx hb ht iX11 hown hK hP 0 rfl rfl 1 (by decide) (ht _ kw_697) (fun _ h9 => h9) rfl dX11_need_39 ?_
        refine lv_iload_n hx hb dX11_need_42 rfl (lv_at hl 1 rfl) ?_
        refine lv_iload_n hx hb dX11_need_43 rfl (lv_at hl 2 rfl) ?_
        refine lv_bipush (v := (100 : Int32)) hx hb dX11_need_44 (by decide) ?_
        refine lv_idiv hx hb dX11_need_46 (by decide) ?_
        refine lv_iload_n hx hb dX11_need_47 rfl (lv_at hl 2 rfl) ?_
        refine lv_bipush (v := (100 : Int32)) hx hb dX11_need_48 (by decide) ?_
        refine lv_irem hx hb dX11_need_50 (by decide) ?_
        refine lv_iconst (v := (-1 : Int32)) hx hb dX11_need_51 (by decide) ?_
        obtain ⟨r_24, u_25, u_26, hc_27, h⟩ := zk_o3 h
        refine zz_viP (post := (fun r u => (r, u) = (r_24, u_25, u_26))) (w1 := fun u => (wx_X3_findPoint ad cs PL S_a S_b L_a L_b court_shoeCount court_claimCount court_suitCount court_suits court_laws u_13 u_14 u_15 u.1 u.2 u_20 S_who S_against S_kind S_won S_day S_land S_undoneFrom S_asked S_askedCount S_askedBits S_first S_foundSo S_foundNot S_fought S_needed L_n L_code)) (PL := PL) (As := [.int x1, .int (x2 / (100 : Int32)), .int (x2 - x2 / (100 : Int32) * (100 : Int32)), .int (-1 : Int32)]) (rest := []) (c_X3_findPoint l D cs ad PL S_a S_b L_a L_b H.size 100000 x1 (x2 / (100 : Int32)) (x2 - x2 / (100 : Int32) * (100 : Int32)) (-1 : Int32) court_shoeCount court_claimCount court_suitCount court_suits court_laws u_13 u_14 u_15 u_16 u_17 u_20 S_who S_against S_kind S_won S_day S_land S_undoneFrom S_asked S_askedCount S_askedBits S_first S_foundSo S_foundNot S_fought S_needed L_n L_code hSU hLA (r_24, u_25, u_26) hc_27) ⟨hx, hb, hml, hown, ht⟩ (cwV 4 ht g_X11_255 rfl rfl rfl ⟨rfl, hd_X3_findPoint⟩ ⟨Nat.le_of_ble_eq_true rfl, Nat.le_of_ble_eq_true rfl⟩) (va_recv hK hP (ci := 3) (q0 := 8) rfl rfl) hP hD hS hK hA [1, 6, 7, 8, 9, 10, 13] rfl rfl [(ad 4), (ad 13), (ad 14), (ad 15), (ad 16), (ad 17), (ad 20)] rfl (fun _ => rfl) rfl hl.1 (Nat.le_of_ble_eq_true rfl) dX11_need_52 ⟨Nat.zero_le _, Nat.zero_le _⟩ (fun r u H locs hq hP hS => ?_)
        cases hq
        have hP : va_P D classes (wl_X11_need ad cs PL S_a S_b L_a L_b court_shoeCount court_claimCount court_suitCount court_shoePerson court_shoeOther court_shoeSort court_shoeDay court_suits court_laws u_13 u_14 u_15 u_25 u_26 u_18 u_19 u_20 u_21 u_22 S_who S_against S_kind S_won S_day S_land S_undoneFrom S_asked S_askedCount S_askedBits S_first S_foundSo S_foundNot S_fought S_needed L_n L_code) H := hP
        have hD : va_D A (wl_X11_need ad cs PL S_a S_b L_a L_b court_shoeCount court_claimCount court_suitCount court_shoePerson court_shoeOther court_shoeSort court_shoeDay court_suits court_laws u_13 u_14 u_15 u_25 u_26 u_18 u_19 u_20 u_21 u_22 S_who S_against S_kind S_won S_day S_land S_undoneFrom S_asked S_askedCount S_askedBits S_first S_foundSo S_foundNot S_fought S_needed L_n L_code) := zDkp hD [(ad 0), (ad 4), (ad 5), (ad 6), (ad 7), (ad 8), (ad 13), (ad 14), (ad 15), (ad 16), (ad 17), (ad 18), (ad 19), (ad 20), (ad 21), (ad 22)] rfl rfl
        refine lv_iconst (v := (3 : Int32)) hx hb dX11_need_55 (by decide) ?_
        refine lv_iand hx hb dX11_need_56 ?_
        obtain ⟨v_28, ev_28, h⟩ := zk_lt h
        refine W.eq (g2 := F0 m 57 ls [.int v_28]) (by rw [ev_28]) ?_
        refine lv_istore (lv' := [(4, .int v_28), (0, .ref (ad 0)), (1, .int x1), (2, .int x2), (3, .int x3)]) hx hb dX11_need_57 hl (by decide) rfl (fun ls hl => ?_)
        refine lv_iload hx hb dX11_need_59 (lv_at hl 0 rfl) ?_
        refine lv_if_ne (tgt := 66) hx hb dX11_need_61 (by decide) (fun c_29 => ?_) (fun c_29 => ?_)
        · have h := zk_f c_29 h
          refine lv_iconst (v := (0 : Int32)) hx hb dX11_need_66 (by decide) ?_
          refine lv_istore (lv' := [(5, .int (0 : Int32)), (4, .int v_28), (0, .ref (ad 0)), (1, .int x1), (2, .int x2), (3, .int x3)]) hx hb dX11_need_67 hl (by decide) rfl (fun ls hl => ?_)
          exact ih69 x1 x2 v_28 (0 : Int32) u_13 u_14 u_15 u_25 u_26 u_18 u_19 u_20 u_21 u_22 h H locs ls hP hD hS (lv_sub hl [2, 3, 4, 1, 0] rfl)
        · have h := zk_t c_29 h
          refine lv_iconst (v := (-1 : Int32)) hx hb dX11_need_64 (by decide) ?_
          exact W.iret (v := (-1 : Int32)) hx hb hr (fun t ht2 hW => ⟨⟨(-1 : Int32), (u_13, u_14, u_15, u_25, u_26, u_18, u_19, u_20, u_21, u_22), rfl, Option.some.inj h, by rw [ht2]; exact hP, hD⟩, hS.F ht2⟩) hS.2.2 dX11_need_65 hlocks
      · have h := zk_t c_12 h
        refine lv_iconst (v := (-1 : Int32)) hx hb dX11_need_21 (by decide) ?_
        exact W.iret (v := (-1 : Int32)) hx hb hr (fun t ht2 hW => ⟨⟨(-1 : Int32), (inq_day, inq_land, inq_shoeLeftOut, inq_names, inq_stack, inq_judgedShoes, inq_bindingShoes, inq_boundAs, inq_standing, inq_arriving), rfl, Option.some.inj h, by rw [ht2]; exact hP, hD⟩, hS.F ht2⟩) hS.2.2 dX11_need_22 hlocks
theorem LG_X11_need {p : Program} {l : Launch} {e : Env} {s : State} {m : MethodId} {args : Array Value} {below : List Frame} {meth : Method} {c : Code} {A : Nat → Prop} {D : va_G} {cs : Nat → ClassId} {ad : Nat → Nat} {PL : va_W} {S_a : Nat → Nat} {S_b : Nat → Nat} {L_a : Nat → Nat} {L_b : Nat → Nat} {court_shoeCount : Int32} {court_claimCount : Int32} {court_suitCount : Int32} {court_shoePerson : Nat → Int32} {court_shoeOther : Nat → Int32} {court_shoeSort : Nat → Int32} {court_shoeDay : Nat → Int32} {court_suits : Nat → Option Nat} {court_laws : Nat → Option Nat} {S_who : Nat → Int32} {S_against : Nat → Int32} {S_kind : Nat → Int32} {S_won : Nat → Int32} {S_day : Nat → Int32} {S_land : Nat → Int32} {S_undoneFrom : Nat → Int32} {S_asked : Nat → Nat → Int32} {S_askedCount : Nat → Int32} {S_askedBits : Nat → Int32} {S_first : Nat → Int32} {S_foundSo : Nat → Int32} {S_foundNot : Nat → Int32} {S_fought : Nat → Int32} {S_needed : Nat → Int32} {L_n : Nat → Nat} {L_code : Nat → Nat → Int32} {R : Int32 × Int32 × Int32 × Int32 × (Nat → Int32) × (Nat → Int32) × (Nat → Int64) × (Nat → Int64) × (Nat → Int32) × (Nat → Int32) × (Nat → Int32)} (C0 : zC p s m args meth c cX11_need 6 (some .int) RX11 zW) (hK : va_K D classes (zT cs) s) (hA : ∀ q : Nat, s.heap.size ≤ q → A q) (hSU : PSu cs PL court_suitCount court_suits S_a S_b S_who S_against S_kind S_won S_day S_land S_undoneFrom S_asked S_askedCount S_askedBits S_first S_foundSo S_foundNot S_fought S_needed) (hLA : PLa cs PL court_laws L_a L_b L_n L_code) : ∀ n : Nat, (∀ (x1 : Int32) (x2 : Int32) (x4 : Int32) (x5 : Int32) (inq_day : Int32) (inq_land : Int32) (inq_shoeLeftOut : Int32) (inq_names : Nat → Int32) (inq_stack : Nat → Int32) (inq_judgedShoes : Nat → Int64) (inq_bindingShoes : Nat → Int64) (inq_boundAs : Nat → Int32) (inq_standing : Nat → Int32) (inq_arriving : Nat → Int32) (h : (G_X11_need   court_shoeCount court_claimCount court_suitCount court_shoePerson court_shoeOther court_shoeSort court_shoeDay court_suits court_laws S_who S_against S_kind S_won S_day S_land S_undoneFrom S_asked S_askedCount S_askedBits S_first S_foundSo S_foundNot S_fought S_needed L_n L_code n) x1 x2 x4 x5 inq_day inq_land inq_shoeLeftOut inq_names inq_stack inq_judgedShoes inq_bindingShoes inq_boundAs inq_standing inq_arriving = some R) (H : Heap) (locs : List Loc) (ls : Array Slot) (hP : va_P D classes (wl_X11_need ad cs PL S_a S_b L_a L_b court_shoeCount court_claimCount court_suitCount court_shoePerson court_shoeOther court_shoeSort court_shoeDay court_suits court_laws inq_day inq_land inq_shoeLeftOut inq_names inq_stack inq_judgedShoes inq_bindingShoes inq_boundAs inq_standing inq_arriving S_who S_against S_kind S_won S_day S_land S_undoneFrom S_asked S_askedCount S_askedBits S_first S_foundSo S_foundNot S_fought S_needed L_n L_code) H) (hD : va_D A (wl_X11_need ad cs PL S_a S_b L_a L_b court_shoeCount court_claimCount court_suitCount court_shoePerson court_shoeOther court_shoeSort court_shoeDay court_suits court_laws inq_day inq_land inq_shoeLeftOut inq_names inq_stack inq_judgedShoes inq_bindingShoes inq_boundAs inq_standing inq_arriving S_who S_against S_kind S_won S_day S_land S_undoneFrom S_asked S_askedCount S_askedBits S_first S_foundSo S_foundNot S_fought S_needed L_n L_code)) (hS : va_S A s.heap H locs) (hl : lv_has ls 6 [(0, .ref (ad 0)), (1, .int x1), (2, .int x2), (4, .int x4), (5, .int x5)]), W p l e rm_X11_need s m args below meth c H locs 0 0 (MQ below (Q_X11_need D cs ad PL S_a S_b L_a L_b court_shoeCount court_claimCount court_suitCount court_shoePerson court_shoeOther court_shoeSort court_shoeDay court_suits court_laws S_who S_against S_kind S_won S_day S_land S_undoneFrom S_asked S_askedCount S_askedBits S_first S_foundSo S_foundNot S_fought S_needed L_n L_code A R) args s 0 0 A) (F0 m 69 ls [])) := by
  intro n
  induction n with
  | zero =>
    refine ?_ <;> (intros; rename_i h _ _ _ _ _ _ _; cases h)
  | succ n ih =>
    exact L_X11_need_69 C0 hK hA hSU hLA  ih
set_option maxHeartbeats 4000000 in
set_option maxRecDepth 100000 in
theorem c_X11_need (l : Launch) (D : va_G) (cs : Nat → ClassId) (ad : Nat → Nat) (PL : va_W) (S_a : Nat → Nat) (S_b : Nat → Nat) (L_a : Nat → Nat) (L_b : Nat → Nat) (sz : Nat) (n : Nat) (x1 : Int32) (x2 : Int32) (x3 : Int32) (court_shoeCount : Int32) (court_claimCount : Int32) (court_suitCount : Int32) (court_shoePerson : Nat → Int32) (court_shoeOther : Nat → Int32) (court_shoeSort : Nat → Int32) (court_shoeDay : Nat → Int32) (court_suits : Nat → Option Nat) (court_laws : Nat → Option Nat) (inq_day : Int32) (inq_land : Int32) (inq_shoeLeftOut : Int32) (inq_names : Nat → Int32) (inq_stack : Nat → Int32) (inq_judgedShoes : Nat → Int64) (inq_bindingShoes : Nat → Int64) (inq_boundAs : Nat → Int32) (inq_standing : Nat → Int32) (inq_arriving : Nat → Int32) (S_who : Nat → Int32) (S_against : Nat → Int32) (S_kind : Nat → Int32) (S_won : Nat → Int32) (S_day : Nat → Int32) (S_land : Nat → Int32) (S_undoneFrom : Nat → Int32) (S_asked : Nat → Nat → Int32) (S_askedCount : Nat → Int32) (S_askedBits : Nat → Int32) (S_first : Nat → Int32) (S_foundSo : Nat → Int32) (S_foundNot : Nat → Int32) (S_fought : Nat → Int32) (S_needed : Nat → Int32) (L_n : Nat → Nat) (L_code : Nat → Nat → Int32) (hSU : PSu cs PL court_suitCount court_suits S_a S_b S_who S_against S_kind S_won S_day S_land S_undoneFrom S_asked S_askedCount S_askedBits S_first S_foundSo S_foundNot S_fought S_needed) (hLA : PLa cs PL court_laws L_a L_b L_n L_code) (R : Int32 × Int32 × Int32 × Int32 × (Nat → Int32) × (Nat → Int32) × (Nat → Int64) × (Nat → Int64) × (Nat → Int32) × (Nat → Int32) × (Nat → Int32)) (h : f_X11_need   n x1 x2 x3 court_shoeCount court_claimCount court_suitCount court_shoePerson court_shoeOther court_shoeSort court_shoeDay court_suits court_laws inq_day inq_land inq_shoeLeftOut inq_names inq_stack inq_judgedShoes inq_bindingShoes inq_boundAs inq_standing inq_arriving S_who S_against S_kind S_won S_day S_land S_undoneFrom S_asked S_askedCount S_askedBits S_first S_foundSo S_foundNot S_fought S_needed L_n L_code = some R) : Met l yX11_need (z_X11_need) rm_X11_need (va_Pc [.ref (ad 0), .int x1, .int x2, .int x3] (zPre D cs (wl_X11_need ad cs PL S_a S_b L_a L_b court_shoeCount court_claimCount court_suitCount court_shoePerson court_shoeOther court_shoeSort court_shoeDay court_suits court_laws inq_day inq_land inq_shoeLeftOut inq_names inq_stack inq_judgedShoes inq_bindingShoes inq_boundAs inq_standing inq_arriving S_who S_against S_kind S_won S_day S_land S_undoneFrom S_asked S_askedCount S_askedBits S_first S_foundSo S_foundNot S_fought S_needed L_n L_code) sz)) (Q_X11_need D cs ad PL S_a S_b L_a L_b court_shoeCount court_claimCount court_suitCount court_shoePerson court_shoeOther court_shoeSort court_shoeDay court_suits court_laws S_who S_against S_kind S_won S_day S_land S_undoneFrom S_asked S_askedCount S_askedBits S_first S_foundSo S_foundNot S_fought S_needed L_n L_code (va_A (wl_X11_need ad cs PL S_a S_b L_a L_b court_shoeCount court_claimCount court_suitCount court_shoePerson court_shoeOther court_shoeSort court_shoeDay court_suits court_laws inq_day inq_land inq_shoeLeftOut inq_names inq_stack inq_judgedShoes inq_bindingShoes inq_boundAs inq_standing inq_arriving S_who S_against S_kind S_won S_day S_land S_undoneFrom S_asked S_askedCount S_askedBits S_first S_foundSo S_foundNot S_fought S_needed L_n L_code) sz) R) 0 0 (va_A (wl_X11_need ad cs PL S_a S_b L_a L_b court_shoeCount court_claimCount court_suitCount court_shoePerson court_shoeOther court_shoeSort court_shoeDay court_suits court_laws inq_day inq_land inq_shoeLeftOut inq_names inq_stack inq_judgedShoes inq_bindingShoes inq_boundAs inq_standing inq_arriving S_who S_against S_kind S_won S_day S_land S_undoneFrom S_asked S_askedCount S_askedBits S_first S_foundSo S_foundNot S_fought S_needed L_n L_code) sz) := by
  refine Met.ofW (cc := cX11_need) (maxL := 6) (ret := (some .int)) (by decide) rfl ?_
  intro p e s m args below meth c s₁ B hml hv
  obtain ⟨rfl, hsz, hP, hK, hD0⟩ := hv
  subst hsz
  have hD := hD0.self (sz := s.heap.size)
  have C0 : zC p s m _ meth c cX11_need 6 (some .int) RX11 zW := ⟨B.exec, B.bytes, B.returns, hml, findClass_of_methodNamed B.named, fun w hw => atoms_spec (ws := z_X11_need) B.pre w (List.mem_cons_of_mem _ hw), B.notSynchronized⟩
  have hA : ∀ q : Nat, s.heap.size ≤ q → va_A (wl_X11_need ad cs PL S_a S_b L_a L_b court_shoeCount court_claimCount court_suitCount court_shoePerson court_shoeOther court_shoeSort court_shoeDay court_suits court_laws inq_day inq_land inq_shoeLeftOut inq_names inq_stack inq_judgedShoes inq_bindingShoes inq_boundAs inq_standing inq_arriving S_who S_against S_kind S_won S_day S_land S_undoneFrom S_asked S_askedCount S_askedBits S_first S_foundSo S_foundNot S_fought S_needed L_n L_code) s.heap.size q := fun q h => Or.inr h
  have hl := lv_entry ([.ref (ad 0), .int x1, .int x2, .int x3]) (n := 6) (Nat.le_of_ble_eq_true rfl)
  rw [lg_entry_eq]
  generalize (lg_sl ([.ref (ad 0), .int x1, .int x2, .int x3]) ++ List.replicate (6 - (lg_sl ([.ref (ad 0), .int x1, .int x2, .int x3])).length) Slot.unset).toArray = ls at hl ⊢
  exact L_X11_need_0 C0 hK hA hSU hLA  ((LG_X11_need C0 hK hA hSU hLA  n)) x1 x2 x3 inq_day inq_land inq_shoeLeftOut inq_names inq_stack inq_judgedShoes inq_bindingShoes inq_boundAs inq_standing inq_arriving h s.heap [] ls hP hD va_S.rf hl
theorem kw_1190 : Cond.methodLink RX11 321 yX1_back ∈ zW := zwC (i := 156) zc_5 rfl rfl
theorem kw_1191 : Cond.instanceMethod yX1_back ∈ zW := zwC (i := 157) zc_5 rfl rfl
theorem kw_1192 : Cond.selects RX1 yX1_back yX1_back ∈ zW := zwC (i := 158) zc_5 rfl rfl
theorem kw_1193 : Cond.code yX1_back cX1_back 1 (some .int) ∈ zW := zwC (i := 159) zc_5 rfl rfl
theorem zh_cX11_undo_0 : zck [42, 180, 0, 58, 182, 1, 65, 172] (zdu 0 cX11_undo.data.toList) = true := by decide +kernel
theorem dX11_undo_0 : decode cX11_undo 0 = .ok (.aload_n 0, 1) := zo_42 zh_cX11_undo_0 0 rfl
theorem dX11_undo_1 : decode cX11_undo 1 = .ok (.getfield 58, 3) := zo_180 zh_cX11_undo_0 1 rfl
theorem dX11_undo_4 : decode cX11_undo 4 = .ok (.invokevirtual 321, 3) := zo_182 zh_cX11_undo_0 4 rfl
theorem dX11_undo_7 : decode cX11_undo 7 = .ok (.ireturn, 1) := zo_172 zh_cX11_undo_0 7 rfl
abbrev z_X11_undo : List Cond := .code yX11_undo cX11_undo 1 (some .int) :: zW
abbrev wx_X11_undo (ad : Nat → Nat) (cs : Nat → ClassId) (LP : va_W) (S_a : Nat → Nat) (S_b : Nat → Nat) (court_shoeCount : Int32) (court_claimCount : Int32) (court_suitCount : Int32) (court_shoeDay : Nat → Int32) (court_suits : Nat → Option Nat) (chg_done : Int32) (chg_size : Int32) (chg_sorts : Nat → Int32) (chg_numbers : Nat → Int32) (chg_befores : Nat → Int32) (S_who : Nat → Int32) (S_against : Nat → Int32) (S_kind : Nat → Int32) (S_won : Nat → Int32) (S_day : Nat → Int32) (S_land : Nat → Int32) (S_undoneFrom : Nat → Int32) (S_asked : Nat → Nat → Int32) (S_askedCount : Nat → Int32) (S_askedBits : Nat → Int32) (S_first : Nat → Int32) (S_foundSo : Nat → Int32) (S_foundNot : Nat → Int32) (S_fought : Nat → Int32) (S_needed : Nat → Int32) : va_W := [((ad 0), .inr (11, [.ref (ad 4), .ref (ad 15), .ref (ad 23), .ref (ad 25), .ref (ad 26), .ref (ad 28), .ref (ad 34), .ref (ad 39), .ref (ad 1), .ref (ad 2), .ref (ad 3)])), ((ad 4), .inr (2, [.ref (ad 5), .ref (ad 6), .ref (ad 7), .ref (ad 8), .ref (ad 9), .ref (ad 10), .ref (ad 11), .ref (ad 12), .ref (ad 13), .ref (ad 14), .int court_shoeCount, .int court_claimCount, .int court_suitCount])), ((ad 8), .inl (cs 0, 40, .inl court_shoeDay)), ((ad 13), .inl (cs 5, 40, .inr (.inr (.inr (.inr court_suits))))), ((ad 34), .inr (1, [.ref (ad 4), .ref (ad 35), .ref (ad 36), .ref (ad 37), .ref (ad 38), .int chg_done, .int chg_size])), ((ad 35), .inl (cs 0, 40, .inl chg_sorts)), ((ad 36), .inl (cs 0, 40, .inl chg_numbers)), ((ad 37), .inl (cs 0, 40, .inl chg_befores))]
abbrev wl_X11_undo (ad : Nat → Nat) (cs : Nat → ClassId) (LP : va_W) (S_a : Nat → Nat) (S_b : Nat → Nat) (court_shoeCount : Int32) (court_claimCount : Int32) (court_suitCount : Int32) (court_shoeDay : Nat → Int32) (court_suits : Nat → Option Nat) (chg_done : Int32) (chg_size : Int32) (chg_sorts : Nat → Int32) (chg_numbers : Nat → Int32) (chg_befores : Nat → Int32) (S_who : Nat → Int32) (S_against : Nat → Int32) (S_kind : Nat → Int32) (S_won : Nat → Int32) (S_day : Nat → Int32) (S_land : Nat → Int32) (S_undoneFrom : Nat → Int32) (S_asked : Nat → Nat → Int32) (S_askedCount : Nat → Int32) (S_askedBits : Nat → Int32) (S_first : Nat → Int32) (S_foundSo : Nat → Int32) (S_foundNot : Nat → Int32) (S_fought : Nat → Int32) (S_needed : Nat → Int32) : va_W := wx_X11_undo ad cs LP S_a S_b court_shoeCount court_claimCount court_suitCount court_shoeDay court_suits chg_done chg_size chg_sorts chg_numbers chg_befores S_who S_against S_kind S_won S_day S_land S_undoneFrom S_asked S_askedCount S_askedBits S_first S_foundSo S_foundNot S_fought S_needed ++ (zSu cs S_a S_b court_suitCount.toInt.toNat S_who S_against S_kind S_won S_day S_land S_undoneFrom S_asked S_askedCount S_askedBits S_first S_foundSo S_foundNot S_fought S_needed ++ LP)
def Q_X11_undo (D : va_G) (cs : Nat → ClassId) (ad : Nat → Nat) (LP : va_W) (S_a : Nat → Nat) (S_b : Nat → Nat) (court_shoeCount : Int32) (court_claimCount : Int32) (court_suitCount : Int32) (court_suits : Nat → Option Nat) (chg_size : Int32) (chg_sorts : Nat → Int32) (chg_numbers : Nat → Int32) (chg_befores : Nat → Int32) (S_who : Nat → Int32) (S_against : Nat → Int32) (S_kind : Nat → Int32) (S_day : Nat → Int32) (S_land : Nat → Int32) (S_asked : Nat → Nat → Int32) (S_askedCount : Nat → Int32) (S_askedBits : Nat → Int32) (S_first : Nat → Int32) (S_foundSo : Nat → Int32) (S_foundNot : Nat → Int32) (S_fought : Nat → Int32) (S_needed : Nat → Int32) (A : Nat → Prop) (R : Int32 × (Nat → Int32) × Int32 × (Nat → Int32) × (Nat → Int32)) : Array Value → State → Outcome → State → Prop :=
  va_Qi (fun (r : Int32) (u : (Nat → Int32) × Int32 × (Nat → Int32) × (Nat → Int32)) => (r, u) = R) (fun (u : (Nat → Int32) × Int32 × (Nat → Int32) × (Nat → Int32)) (t : State) => va_P D classes (wl_X11_undo ad cs LP S_a S_b court_shoeCount court_claimCount court_suitCount u.1 court_suits u.2.1 chg_size chg_sorts chg_numbers chg_befores S_who S_against S_kind u.2.2.1 S_day S_land u.2.2.2 S_asked S_askedCount S_askedBits S_first S_foundSo S_foundNot S_fought S_needed) t.heap ∧ va_D A (wl_X11_undo ad cs LP S_a S_b court_shoeCount court_claimCount court_suitCount u.1 court_suits u.2.1 chg_size chg_sorts chg_numbers chg_befores S_who S_against S_kind u.2.2.1 S_day S_land u.2.2.2 S_asked S_askedCount S_askedBits S_first S_foundSo S_foundNot S_fought S_needed)) A
abbrev rm_X11_undo : Room := { frames := 3, cells := 0, slots := 0, locals := 65 }
theorem g_X11_321 : GoodIn zW (wsV RX11 321 RX1 yX1_back z_X1_back) := zGV kw_1190 kw_1191 kw_1192 kw_83 kw_1193
theorem hd_X1_back : yX1_back.cls ≠ "java/lang/invoke/MethodHandle" ∧ yX1_back.cls ≠ "java/lang/invoke/VarHandle" ∧ (parseMethodDescriptor yX1_back.desc).map (fun d => d.parameters.length) = some 0 := by decide +kernel
def B_X11_undo_0    (court_shoeCount : Int32) (court_claimCount : Int32) (court_suitCount : Int32) (court_suits : Nat → Option Nat) (chg_size : Int32) (chg_sorts : Nat → Int32) (chg_numbers : Nat → Int32) (chg_befores : Nat → Int32) (S_who : Nat → Int32) (S_against : Nat → Int32) (S_kind : Nat → Int32) (S_day : Nat → Int32) (S_land : Nat → Int32) (S_asked : Nat → Nat → Int32) (S_askedCount : Nat → Int32) (S_askedBits : Nat → Int32) (S_first : Nat → Int32) (S_foundSo : Nat → Int32) (S_foundNot : Nat → Int32) (S_fought : Nat → Int32) (S_needed : Nat → Int32) (court_shoeDay : Nat → Int32) (chg_done : Int32) (S_won : Nat → Int32) (S_undoneFrom : Nat → Int32) : Option (Int32 × (Nat → Int32) × Int32 × (Nat → Int32) × (Nat → Int32)) :=
  (zk_b5 (f_X1_back court_shoeCount court_claimCount court_suitCount court_shoeDay court_suits chg_done chg_size chg_sorts chg_numbers chg_befores S_who S_against S_kind S_won S_day S_land S_undoneFrom S_asked S_askedCount S_askedBits S_first S_foundSo S_foundNot S_fought S_needed) (fun r_1 u_2 u_3 u_4 u_5 => (some (r_1, u_2, u_3, u_4, u_5))))
def f_X11_undo    (court_shoeCount : Int32) (court_claimCount : Int32) (court_suitCount : Int32) (court_shoeDay : Nat → Int32) (court_suits : Nat → Option Nat) (chg_done : Int32) (chg_size : Int32) (chg_sorts : Nat → Int32) (chg_numbers : Nat → Int32) (chg_befores : Nat → Int32) (S_who : Nat → Int32) (S_against : Nat → Int32) (S_kind : Nat → Int32) (S_won : Nat → Int32) (S_day : Nat → Int32) (S_land : Nat → Int32) (S_undoneFrom : Nat → Int32) (S_asked : Nat → Nat → Int32) (S_askedCount : Nat → Int32) (S_askedBits : Nat → Int32) (S_first : Nat → Int32) (S_foundSo : Nat → Int32) (S_foundNot : Nat → Int32) (S_fought : Nat → Int32) (S_needed : Nat → Int32) : Option (Int32 × (Nat → Int32) × Int32 × (Nat → Int32) × (Nat → Int32)) := B_X11_undo_0   court_shoeCount court_claimCount court_suitCount court_suits chg_size chg_sorts chg_numbers chg_befores S_who S_against S_kind S_day S_land S_asked S_askedCount S_askedBits S_first S_foundSo S_foundNot S_fought S_needed  court_shoeDay chg_done S_won S_undoneFrom
set_option maxHeartbeats 4000000 in
set_option maxRecDepth 100000 in
theorem L_X11_undo_0 {p : Program} {l : Launch} {e : Env} {s : State} {m : MethodId} {args : Array Value} {below : List Frame} {meth : Method} {c : Code} {A : Nat → Prop} {D : va_G} {cs : Nat → ClassId} {ad : Nat → Nat} {LP : va_W} {S_a : Nat → Nat} {S_b : Nat → Nat} {court_shoeCount : Int32} {court_claimCount : Int32} {court_suitCount : Int32} {court_suits : Nat → Option Nat} {chg_size : Int32} {chg_sorts : Nat → Int32} {chg_numbers : Nat → Int32} {chg_befores : Nat → Int32} {S_who : Nat → Int32} {S_against : Nat → Int32} {S_kind : Nat → Int32} {S_day : Nat → Int32} {S_land : Nat → Int32} {S_asked : Nat → Nat → Int32} {S_askedCount : Nat → Int32} {S_askedBits : Nat → Int32} {S_first : Nat → Int32} {S_foundSo : Nat → Int32} {S_foundNot : Nat → Int32} {S_fought : Nat → Int32} {S_needed : Nat → Int32} {R : Int32 × (Nat → Int32) × Int32 × (Nat → Int32) × (Nat → Int32)} (C0 : zC p s m args meth c cX11_undo 1 (some .int) RX11 zW) (hK : va_K D classes (zT cs) s) (hA : ∀ q : Nat, s.heap.size ≤ q → A q) (hSA : ∀ i, i < court_suitCount.toInt.toNat → court_suits i = some (S_a i)) (court_shoeDay : Nat → Int32) (chg_done : Int32) (S_won : Nat → Int32) (S_undoneFrom : Nat → Int32) (h : B_X11_undo_0 court_shoeCount court_claimCount court_suitCount court_suits chg_size chg_sorts chg_numbers chg_befores S_who S_against S_kind S_day S_land S_asked S_askedCount S_askedBits S_first S_foundSo S_foundNot S_fought S_needed court_shoeDay chg_done S_won S_undoneFrom = some R) (H : Heap) (locs : List Loc) (ls : Array Slot) (hP : va_P D classes (wl_X11_undo ad cs LP S_a S_b court_shoeCount court_claimCount court_suitCount court_shoeDay court_suits chg_done chg_size chg_sorts chg_numbers chg_befores S_who S_against S_kind S_won S_day S_land S_undoneFrom S_asked S_askedCount S_askedBits S_first S_foundSo S_foundNot S_fought S_needed) H) (hD : va_D A (wl_X11_undo ad cs LP S_a S_b court_shoeCount court_claimCount court_suitCount court_shoeDay court_suits chg_done chg_size chg_sorts chg_numbers chg_befores S_who S_against S_kind S_won S_day S_land S_undoneFrom S_asked S_askedCount S_askedBits S_first S_foundSo S_foundNot S_fought S_needed)) (hS : va_S A s.heap H locs) (hl : lv_has ls 1 [(0, .ref (ad 0))]) : W p l e rm_X11_undo s m args below meth c H locs 0 0 (MQ below (Q_X11_undo D cs ad LP S_a S_b court_shoeCount court_claimCount court_suitCount court_suits chg_size chg_sorts chg_numbers chg_befores S_who S_against S_kind S_day S_land S_asked S_askedCount S_askedBits S_first S_foundSo S_foundNot S_fought S_needed A R) args s 0 0 A) (F0 m 0 ls []) := by
  obtain ⟨hx, hb, hr, hml, hown, ht, hlocks⟩ := id C0
  refine lv_aload_n hx hb dX11_undo_0 rfl (lv_at hl 0 rfl) ?_
  refine va_get (D := D) (ci := 11) (v := .ref (ad 34)) (C := RX11) (T := TX11) (N := 11) hx hb ht iX11 hown hK hP 0 rfl rfl 6 (by decide) (ht _ kw_702) (fun _ h9 => h9) rfl dX11_undo_1 ?_
  obtain ⟨r_1, u_2, u_3, u_4, u_5, hc_6, h⟩ := zk_o5 h
  refine zk_viP (post := (fun r u => (r, u) = (r_1, u_2, u_3, u_4, u_5))) (w1 := fun u => (wx_X1_back ad cs LP S_a S_b court_shoeCount court_claimCount court_suitCount u.1 court_suits u.2.1 chg_size chg_sorts chg_numbers chg_befores S_who S_against S_kind u.2.2.1 S_day S_land u.2.2.2 S_asked S_askedCount S_askedBits S_first S_foundSo S_foundNot S_fought S_needed)) (pl1 := fun u => (zSu cs S_a S_b court_suitCount.toInt.toNat S_who S_against S_kind u.2.2.1 S_day S_land u.2.2.2 S_asked S_askedCount S_askedBits S_first S_foundSo S_foundNot S_fought S_needed ++ LP)) (As := []) (rest := []) (c_X1_back l D cs ad LP S_a S_b H.size court_shoeCount court_claimCount court_suitCount court_shoeDay court_suits chg_done chg_size chg_sorts chg_numbers chg_befores S_who S_against S_kind S_won S_day S_land S_undoneFrom S_asked S_askedCount S_askedBits S_first S_foundSo S_foundNot S_fought S_needed hSA (r_1, u_2, u_3, u_4, u_5) hc_6) ⟨hx, hb, hml, hown, ht⟩ (cwV 0 ht g_X11_321 rfl rfl rfl ⟨rfl, hd_X1_back⟩ ⟨Nat.le_of_ble_eq_true rfl, Nat.le_of_ble_eq_true rfl⟩) (va_recv hK hP (ci := 1) (q0 := 4) rfl rfl) hP hD hS hK hA [1, 2, 3, 4, 5, 6, 7] [0] rfl rfl rfl rfl (by decide) rfl hl.1 (Nat.le_of_ble_eq_true rfl) dX11_undo_4 ⟨Nat.zero_le _, Nat.zero_le _⟩ (fun r u H locs hq hP hD hS => ?_)
  cases hq
  have hP : va_P D classes (wl_X11_undo ad cs LP S_a S_b court_shoeCount court_claimCount court_suitCount u_2 court_suits u_3 chg_size chg_sorts chg_numbers chg_befores S_who S_against S_kind u_4 S_day S_land u_5 S_asked S_askedCount S_askedBits S_first S_foundSo S_foundNot S_fought S_needed) H := hP.part [0, 1, 2, 3, 4, 5, 6, 7] rfl
  have hD : va_D A (wl_X11_undo ad cs LP S_a S_b court_shoeCount court_claimCount court_suitCount u_2 court_suits u_3 chg_size chg_sorts chg_numbers chg_befores S_who S_against S_kind u_4 S_day S_land u_5 S_asked S_askedCount S_askedBits S_first S_foundSo S_foundNot S_fought S_needed) := hD.part [0, 1, 2, 3, 4, 5, 6, 7] rfl rfl
  exact W.iret (v := r_1) hx hb hr (fun t ht2 hW => ⟨⟨r_1, (u_2, u_3, u_4, u_5), rfl, Option.some.inj h, by rw [ht2]; exact hP, hD⟩, hS.F ht2⟩) hS.2.2 dX11_undo_7 hlocks
set_option maxHeartbeats 4000000 in
set_option maxRecDepth 100000 in
theorem c_X11_undo (l : Launch) (D : va_G) (cs : Nat → ClassId) (ad : Nat → Nat) (LP : va_W) (S_a : Nat → Nat) (S_b : Nat → Nat) (sz : Nat)  (court_shoeCount : Int32) (court_claimCount : Int32) (court_suitCount : Int32) (court_shoeDay : Nat → Int32) (court_suits : Nat → Option Nat) (chg_done : Int32) (chg_size : Int32) (chg_sorts : Nat → Int32) (chg_numbers : Nat → Int32) (chg_befores : Nat → Int32) (S_who : Nat → Int32) (S_against : Nat → Int32) (S_kind : Nat → Int32) (S_won : Nat → Int32) (S_day : Nat → Int32) (S_land : Nat → Int32) (S_undoneFrom : Nat → Int32) (S_asked : Nat → Nat → Int32) (S_askedCount : Nat → Int32) (S_askedBits : Nat → Int32) (S_first : Nat → Int32) (S_foundSo : Nat → Int32) (S_foundNot : Nat → Int32) (S_fought : Nat → Int32) (S_needed : Nat → Int32) (hSA : ∀ i, i < court_suitCount.toInt.toNat → court_suits i = some (S_a i)) (R : Int32 × (Nat → Int32) × Int32 × (Nat → Int32) × (Nat → Int32)) (h : f_X11_undo    court_shoeCount court_claimCount court_suitCount court_shoeDay court_suits chg_done chg_size chg_sorts chg_numbers chg_befores S_who S_against S_kind S_won S_day S_land S_undoneFrom S_asked S_askedCount S_askedBits S_first S_foundSo S_foundNot S_fought S_needed = some R) : Met l yX11_undo (z_X11_undo) rm_X11_undo (va_Pc [.ref (ad 0)] (zPre D cs (wl_X11_undo ad cs LP S_a S_b court_shoeCount court_claimCount court_suitCount court_shoeDay court_suits chg_done chg_size chg_sorts chg_numbers chg_befores S_who S_against S_kind S_won S_day S_land S_undoneFrom S_asked S_askedCount S_askedBits S_first S_foundSo S_foundNot S_fought S_needed) sz)) (Q_X11_undo D cs ad LP S_a S_b court_shoeCount court_claimCount court_suitCount court_suits chg_size chg_sorts chg_numbers chg_befores S_who S_against S_kind S_day S_land S_asked S_askedCount S_askedBits S_first S_foundSo S_foundNot S_fought S_needed (va_A (wl_X11_undo ad cs LP S_a S_b court_shoeCount court_claimCount court_suitCount court_shoeDay court_suits chg_done chg_size chg_sorts chg_numbers chg_befores S_who S_against S_kind S_won S_day S_land S_undoneFrom S_asked S_askedCount S_askedBits S_first S_foundSo S_foundNot S_fought S_needed) sz) R) 0 0 (va_A (wl_X11_undo ad cs LP S_a S_b court_shoeCount court_claimCount court_suitCount court_shoeDay court_suits chg_done chg_size chg_sorts chg_numbers chg_befores S_who S_against S_kind S_won S_day S_land S_undoneFrom S_asked S_askedCount S_askedBits S_first S_foundSo S_foundNot S_fought S_needed) sz) := by
  refine Met.ofW (cc := cX11_undo) (maxL := 1) (ret := (some .int)) (by decide) rfl ?_
  intro p e s m args below meth c s₁ B hml hv
  obtain ⟨rfl, hsz, hP, hK, hD0⟩ := hv
  subst hsz
  have hD := hD0.self (sz := s.heap.size)
  have C0 : zC p s m _ meth c cX11_undo 1 (some .int) RX11 zW := ⟨B.exec, B.bytes, B.returns, hml, findClass_of_methodNamed B.named, fun w hw => atoms_spec (ws := z_X11_undo) B.pre w (List.mem_cons_of_mem _ hw), B.notSynchronized⟩
  have hA : ∀ q : Nat, s.heap.size ≤ q → va_A (wl_X11_undo ad cs LP S_a S_b court_shoeCount court_claimCount court_suitCount court_shoeDay court_suits chg_done chg_size chg_sorts chg_numbers chg_befores S_who S_against S_kind S_won S_day S_land S_undoneFrom S_asked S_askedCount S_askedBits S_first S_foundSo S_foundNot S_fought S_needed) s.heap.size q := fun q h => Or.inr h
  have hl := lv_entry ([.ref (ad 0)]) (n := 1) (Nat.le_of_ble_eq_true rfl)
  rw [lg_entry_eq]
  generalize (lg_sl ([.ref (ad 0)]) ++ List.replicate (1 - (lg_sl ([.ref (ad 0)])).length) Slot.unset).toArray = ls at hl ⊢
  exact L_X11_undo_0 C0 hK hA hSA    court_shoeDay chg_done S_won S_undoneFrom h s.heap [] ls hP hD va_S.rf hl
theorem kw_1198 : Cond.methodLink RX11 325 yX1_again ∈ zW := zwC (i := 164) zc_5 rfl rfl
theorem kw_1199 : Cond.instanceMethod yX1_again ∈ zW := zwC (i := 165) zc_5 rfl rfl
theorem kw_1200 : Cond.selects RX1 yX1_again yX1_again ∈ zW := zwC (i := 166) zc_5 rfl rfl
theorem kw_1201 : Cond.code yX1_again cX1_again 1 (some .int) ∈ zW := zwC (i := 167) zc_5 rfl rfl
theorem zh_cX11_redo_0 : zck [42, 180, 0, 58, 182, 1, 69, 172] (zdu 0 cX11_redo.data.toList) = true := by decide +kernel
theorem dX11_redo_0 : decode cX11_redo 0 = .ok (.aload_n 0, 1) := zo_42 zh_cX11_redo_0 0 rfl
theorem dX11_redo_1 : decode cX11_redo 1 = .ok (.getfield 58, 3) := zo_180 zh_cX11_redo_0 1 rfl
theorem dX11_redo_4 : decode cX11_redo 4 = .ok (.invokevirtual 325, 3) := zo_182 zh_cX11_redo_0 4 rfl
theorem dX11_redo_7 : decode cX11_redo 7 = .ok (.ireturn, 1) := zo_172 zh_cX11_redo_0 7 rfl
abbrev z_X11_redo : List Cond := .code yX11_redo cX11_redo 1 (some .int) :: zW
abbrev wx_X11_redo (ad : Nat → Nat) (cs : Nat → ClassId) (LP : va_W) (S_a : Nat → Nat) (S_b : Nat → Nat) (court_shoeCount : Int32) (court_claimCount : Int32) (court_suitCount : Int32) (court_shoeDay : Nat → Int32) (court_suits : Nat → Option Nat) (chg_done : Int32) (chg_size : Int32) (chg_sorts : Nat → Int32) (chg_numbers : Nat → Int32) (chg_afters : Nat → Int32) (S_who : Nat → Int32) (S_against : Nat → Int32) (S_kind : Nat → Int32) (S_won : Nat → Int32) (S_day : Nat → Int32) (S_land : Nat → Int32) (S_undoneFrom : Nat → Int32) (S_asked : Nat → Nat → Int32) (S_askedCount : Nat → Int32) (S_askedBits : Nat → Int32) (S_first : Nat → Int32) (S_foundSo : Nat → Int32) (S_foundNot : Nat → Int32) (S_fought : Nat → Int32) (S_needed : Nat → Int32) : va_W := [((ad 0), .inr (11, [.ref (ad 4), .ref (ad 15), .ref (ad 23), .ref (ad 25), .ref (ad 26), .ref (ad 28), .ref (ad 34), .ref (ad 39), .ref (ad 1), .ref (ad 2), .ref (ad 3)])), ((ad 4), .inr (2, [.ref (ad 5), .ref (ad 6), .ref (ad 7), .ref (ad 8), .ref (ad 9), .ref (ad 10), .ref (ad 11), .ref (ad 12), .ref (ad 13), .ref (ad 14), .int court_shoeCount, .int court_claimCount, .int court_suitCount])), ((ad 8), .inl (cs 0, 40, .inl court_shoeDay)), ((ad 13), .inl (cs 5, 40, .inr (.inr (.inr (.inr court_suits))))), ((ad 34), .inr (1, [.ref (ad 4), .ref (ad 35), .ref (ad 36), .ref (ad 37), .ref (ad 38), .int chg_done, .int chg_size])), ((ad 35), .inl (cs 0, 40, .inl chg_sorts)), ((ad 36), .inl (cs 0, 40, .inl chg_numbers)), ((ad 38), .inl (cs 0, 40, .inl chg_afters))]
abbrev wl_X11_redo (ad : Nat → Nat) (cs : Nat → ClassId) (LP : va_W) (S_a : Nat → Nat) (S_b : Nat → Nat) (court_shoeCount : Int32) (court_claimCount : Int32) (court_suitCount : Int32) (court_shoeDay : Nat → Int32) (court_suits : Nat → Option Nat) (chg_done : Int32) (chg_size : Int32) (chg_sorts : Nat → Int32) (chg_numbers : Nat → Int32) (chg_afters : Nat → Int32) (S_who : Nat → Int32) (S_against : Nat → Int32) (S_kind : Nat → Int32) (S_won : Nat → Int32) (S_day : Nat → Int32) (S_land : Nat → Int32) (S_undoneFrom : Nat → Int32) (S_asked : Nat → Nat → Int32) (S_askedCount : Nat → Int32) (S_askedBits : Nat → Int32) (S_first : Nat → Int32) (S_foundSo : Nat → Int32) (S_foundNot : Nat → Int32) (S_fought : Nat → Int32) (S_needed : Nat → Int32) : va_W := wx_X11_redo ad cs LP S_a S_b court_shoeCount court_claimCount court_suitCount court_shoeDay court_suits chg_done chg_size chg_sorts chg_numbers chg_afters S_who S_against S_kind S_won S_day S_land S_undoneFrom S_asked S_askedCount S_askedBits S_first S_foundSo S_foundNot S_fought S_needed ++ (zSu cs S_a S_b court_suitCount.toInt.toNat S_who S_against S_kind S_won S_day S_land S_undoneFrom S_asked S_askedCount S_askedBits S_first S_foundSo S_foundNot S_fought S_needed ++ LP)
def Q_X11_redo (D : va_G) (cs : Nat → ClassId) (ad : Nat → Nat) (LP : va_W) (S_a : Nat → Nat) (S_b : Nat → Nat) (court_shoeCount : Int32) (court_claimCount : Int32) (court_suitCount : Int32) (court_suits : Nat → Option Nat) (chg_size : Int32) (chg_sorts : Nat → Int32) (chg_numbers : Nat → Int32) (chg_afters : Nat → Int32) (S_who : Nat → Int32) (S_against : Nat → Int32) (S_kind : Nat → Int32) (S_day : Nat → Int32) (S_land : Nat → Int32) (S_asked : Nat → Nat → Int32) (S_askedCount : Nat → Int32) (S_askedBits : Nat → Int32) (S_first : Nat → Int32) (S_foundSo : Nat → Int32) (S_foundNot : Nat → Int32) (S_fought : Nat → Int32) (S_needed : Nat → Int32) (A : Nat → Prop) (R : Int32 × (Nat → Int32) × Int32 × (Nat → Int32) × (Nat → Int32)) : Array Value → State → Outcome → State → Prop :=
  va_Qi (fun (r : Int32) (u : (Nat → Int32) × Int32 × (Nat → Int32) × (Nat → Int32)) => (r, u) = R) (fun (u : (Nat → Int32) × Int32 × (Nat → Int32) × (Nat → Int32)) (t : State) => va_P D classes (wl_X11_redo ad cs LP S_a S_b court_shoeCount court_claimCount court_suitCount u.1 court_suits u.2.1 chg_size chg_sorts chg_numbers chg_afters S_who S_against S_kind u.2.2.1 S_day S_land u.2.2.2 S_asked S_askedCount S_askedBits S_first S_foundSo S_foundNot S_fought S_needed) t.heap ∧ va_D A (wl_X11_redo ad cs LP S_a S_b court_shoeCount court_claimCount court_suitCount u.1 court_suits u.2.1 chg_size chg_sorts chg_numbers chg_afters S_who S_against S_kind u.2.2.1 S_day S_land u.2.2.2 S_asked S_askedCount S_askedBits S_first S_foundSo S_foundNot S_fought S_needed)) A
abbrev rm_X11_redo : Room := { frames := 3, cells := 0, slots := 0, locals := 65 }
theorem g_X11_325 : GoodIn zW (wsV RX11 325 RX1 yX1_again z_X1_again) := zGV kw_1198 kw_1199 kw_1200 kw_83 kw_1201
theorem hd_X1_again : yX1_again.cls ≠ "java/lang/invoke/MethodHandle" ∧ yX1_again.cls ≠ "java/lang/invoke/VarHandle" ∧ (parseMethodDescriptor yX1_again.desc).map (fun d => d.parameters.length) = some 0 := by decide +kernel
def B_X11_redo_0    (court_shoeCount : Int32) (court_claimCount : Int32) (court_suitCount : Int32) (court_suits : Nat → Option Nat) (chg_size : Int32) (chg_sorts : Nat → Int32) (chg_numbers : Nat → Int32) (chg_afters : Nat → Int32) (S_who : Nat → Int32) (S_against : Nat → Int32) (S_kind : Nat → Int32) (S_day : Nat → Int32) (S_land : Nat → Int32) (S_asked : Nat → Nat → Int32) (S_askedCount : Nat → Int32) (S_askedBits : Nat → Int32) (S_first : Nat → Int32) (S_foundSo : Nat → Int32) (S_foundNot : Nat → Int32) (S_fought : Nat → Int32) (S_needed : Nat → Int32) (court_shoeDay : Nat → Int32) (chg_done : Int32) (S_won : Nat → Int32) (S_undoneFrom : Nat → Int32) : Option (Int32 × (Nat → Int32) × Int32 × (Nat → Int32) × (Nat → Int32)) :=
  (zk_b5 (f_X1_again court_shoeCount court_claimCount court_suitCount court_shoeDay court_suits chg_done chg_size chg_sorts chg_numbers chg_afters S_who S_against S_kind S_won S_day S_land S_undoneFrom S_asked S_askedCount S_askedBits S_first S_foundSo S_foundNot S_fought S_needed) (fun r_1 u_2 u_3 u_4 u_5 => (some (r_1, u_2, u_3, u_4, u_5))))
def f_X11_redo    (court_shoeCount : Int32) (court_claimCount : Int32) (court_suitCount : Int32) (court_shoeDay : Nat → Int32) (court_suits : Nat → Option Nat) (chg_done : Int32) (chg_size : Int32) (chg_sorts : Nat → Int32) (chg_numbers : Nat → Int32) (chg_afters : Nat → Int32) (S_who : Nat → Int32) (S_against : Nat → Int32) (S_kind : Nat → Int32) (S_won : Nat → Int32) (S_day : Nat → Int32) (S_land : Nat → Int32) (S_undoneFrom : Nat → Int32) (S_asked : Nat → Nat → Int32) (S_askedCount : Nat → Int32) (S_askedBits : Nat → Int32) (S_first : Nat → Int32) (S_foundSo : Nat → Int32) (S_foundNot : Nat → Int32) (S_fought : Nat → Int32) (S_needed : Nat → Int32) : Option (Int32 × (Nat → Int32) × Int32 × (Nat → Int32) × (Nat → Int32)) := B_X11_redo_0   court_shoeCount court_claimCount court_suitCount court_suits chg_size chg_sorts chg_numbers chg_afters S_who S_against S_kind S_day S_land S_asked S_askedCount S_askedBits S_first S_foundSo S_foundNot S_fought S_needed  court_shoeDay chg_done S_won S_undoneFrom
set_option maxHeartbeats 4000000 in
set_option maxRecDepth 100000 in
theorem L_X11_redo_0 {p : Program} {l : Launch} {e : Env} {s : State} {m : MethodId} {args : Array Value} {below : List Frame} {meth : Method} {c : Code} {A : Nat → Prop} {D : va_G} {cs : Nat → ClassId} {ad : Nat → Nat} {LP : va_W} {S_a : Nat → Nat} {S_b : Nat → Nat} {court_shoeCount : Int32} {court_claimCount : Int32} {court_suitCount : Int32} {court_suits : Nat → Option Nat} {chg_size : Int32} {chg_sorts : Nat → Int32} {chg_numbers : Nat → Int32} {chg_afters : Nat → Int32} {S_who : Nat → Int32} {S_against : Nat → Int32} {S_kind : Nat → Int32} {S_day : Nat → Int32} {S_land : Nat → Int32} {S_asked : Nat → Nat → Int32} {S_askedCount : Nat → Int32} {S_askedBits : Nat → Int32} {S_first : Nat → Int32} {S_foundSo : Nat → Int32} {S_foundNot : Nat → Int32} {S_fought : Nat → Int32} {S_needed : Nat → Int32} {R : Int32 × (Nat → Int32) × Int32 × (Nat → Int32) × (Nat → Int32)} (C0 : zC p s m args meth c cX11_redo 1 (some .int) RX11 zW) (hK : va_K D classes (zT cs) s) (hA : ∀ q : Nat, s.heap.size ≤ q → A q) (hSA : ∀ i, i < court_suitCount.toInt.toNat → court_suits i = some (S_a i)) (court_shoeDay : Nat → Int32) (chg_done : Int32) (S_won : Nat → Int32) (S_undoneFrom : Nat → Int32) (h : B_X11_redo_0 court_shoeCount court_claimCount court_suitCount court_suits chg_size chg_sorts chg_numbers chg_afters S_who S_against S_kind S_day S_land S_asked S_askedCount S_askedBits S_first S_foundSo S_foundNot S_fought S_needed court_shoeDay chg_done S_won S_undoneFrom = some R) (H : Heap) (locs : List Loc) (ls : Array Slot) (hP : va_P D classes (wl_X11_redo ad cs LP S_a S_b court_shoeCount court_claimCount court_suitCount court_shoeDay court_suits chg_done chg_size chg_sorts chg_numbers chg_afters S_who S_against S_kind S_won S_day S_land S_undoneFrom S_asked S_askedCount S_askedBits S_first S_foundSo S_foundNot S_fought S_needed) H) (hD : va_D A (wl_X11_redo ad cs LP S_a S_b court_shoeCount court_claimCount court_suitCount court_shoeDay court_suits chg_done chg_size chg_sorts chg_numbers chg_afters S_who S_against S_kind S_won S_day S_land S_undoneFrom S_asked S_askedCount S_askedBits S_first S_foundSo S_foundNot S_fought S_needed)) (hS : va_S A s.heap H locs) (hl : lv_has ls 1 [(0, .ref (ad 0))]) : W p l e rm_X11_redo s m args below meth c H locs 0 0 (MQ below (Q_X11_redo D cs ad LP S_a S_b court_shoeCount court_claimCount court_suitCount court_suits chg_size chg_sorts chg_numbers chg_afters S_who S_against S_kind S_day S_land S_asked S_askedCount S_askedBits S_first S_foundSo S_foundNot S_fought S_needed A R) args s 0 0 A) (F0 m 0 ls []) := by
  obtain ⟨hx, hb, hr, hml, hown, ht, hlocks⟩ := id C0
  refine lv_aload_n hx hb dX11_redo_0 rfl (lv_at hl 0 rfl) ?_
  refine va_get (D := D) (ci := 11) (v := .ref (ad 34)) (C := RX11) (T := TX11) (N := 11) hx hb ht iX11 hown hK hP 0 rfl rfl 6 (by decide) (ht _ kw_702) (fun _ h9 => h9) rfl dX11_redo_1 ?_
  obtain ⟨r_1, u_2, u_3, u_4, u_5, hc_6, h⟩ := zk_o5 h
  refine zk_viP (post := (fun r u => (r, u) = (r_1, u_2, u_3, u_4, u_5))) (w1 := fun u => (wx_X1_again ad cs LP S_a S_b court_shoeCount court_claimCount court_suitCount u.1 court_suits u.2.1 chg_size chg_sorts chg_numbers chg_afters S_who S_against S_kind u.2.2.1 S_day S_land u.2.2.2 S_asked S_askedCount S_askedBits S_first S_foundSo S_foundNot S_fought S_needed)) (pl1 := fun u => (zSu cs S_a S_b court_suitCount.toInt.toNat S_who S_against S_kind u.2.2.1 S_day S_land u.2.2.2 S_asked S_askedCount S_askedBits S_first S_foundSo S_foundNot S_fought S_needed ++ LP)) (As := []) (rest := []) (c_X1_again l D cs ad LP S_a S_b H.size court_shoeCount court_claimCount court_suitCount court_shoeDay court_suits chg_done chg_size chg_sorts chg_numbers chg_afters S_who S_against S_kind S_won S_day S_land S_undoneFrom S_asked S_askedCount S_askedBits S_first S_foundSo S_foundNot S_fought S_needed hSA (r_1, u_2, u_3, u_4, u_5) hc_6) ⟨hx, hb, hml, hown, ht⟩ (cwV 0 ht g_X11_325 rfl rfl rfl ⟨rfl, hd_X1_again⟩ ⟨Nat.le_of_ble_eq_true rfl, Nat.le_of_ble_eq_true rfl⟩) (va_recv hK hP (ci := 1) (q0 := 4) rfl rfl) hP hD hS hK hA [1, 2, 3, 4, 5, 6, 7] [0] rfl rfl rfl rfl (by decide) rfl hl.1 (Nat.le_of_ble_eq_true rfl) dX11_redo_4 ⟨Nat.zero_le _, Nat.zero_le _⟩ (fun r u H locs hq hP hD hS => ?_)
  cases hq
  have hP : va_P D classes (wl_X11_redo ad cs LP S_a S_b court_shoeCount court_claimCount court_suitCount u_2 court_suits u_3 chg_size chg_sorts chg_numbers chg_afters S_who S_against S_kind u_4 S_day S_land u_5 S_asked S_askedCount S_askedBits S_first S_foundSo S_foundNot S_fought S_needed) H := hP.part [0, 1, 2, 3, 4, 5, 6, 7] rfl
  have hD : va_D A (wl_X11_redo ad cs LP S_a S_b court_shoeCount court_claimCount court_suitCount u_2 court_suits u_3 chg_size chg_sorts chg_numbers chg_afters S_who S_against S_kind u_4 S_day S_land u_5 S_asked S_askedCount S_askedBits S_first S_foundSo S_foundNot S_fought S_needed) := hD.part [0, 1, 2, 3, 4, 5, 6, 7] rfl rfl
  exact W.iret (v := r_1) hx hb hr (fun t ht2 hW => ⟨⟨r_1, (u_2, u_3, u_4, u_5), rfl, Option.some.inj h, by rw [ht2]; exact hP, hD⟩, hS.F ht2⟩) hS.2.2 dX11_redo_7 hlocks
set_option maxHeartbeats 4000000 in
set_option maxRecDepth 100000 in
theorem c_X11_redo (l : Launch) (D : va_G) (cs : Nat → ClassId) (ad : Nat → Nat) (LP : va_W) (S_a : Nat → Nat) (S_b : Nat → Nat) (sz : Nat)  (court_shoeCount : Int32) (court_claimCount : Int32) (court_suitCount : Int32) (court_shoeDay : Nat → Int32) (court_suits : Nat → Option Nat) (chg_done : Int32) (chg_size : Int32) (chg_sorts : Nat → Int32) (chg_numbers : Nat → Int32) (chg_afters : Nat → Int32) (S_who : Nat → Int32) (S_against : Nat → Int32) (S_kind : Nat → Int32) (S_won : Nat → Int32) (S_day : Nat → Int32) (S_land : Nat → Int32) (S_undoneFrom : Nat → Int32) (S_asked : Nat → Nat → Int32) (S_askedCount : Nat → Int32) (S_askedBits : Nat → Int32) (S_first : Nat → Int32) (S_foundSo : Nat → Int32) (S_foundNot : Nat → Int32) (S_fought : Nat → Int32) (S_needed : Nat → Int32) (hSA : ∀ i, i < court_suitCount.toInt.toNat → court_suits i = some (S_a i)) (R : Int32 × (Nat → Int32) × Int32 × (Nat → Int32) × (Nat → Int32)) (h : f_X11_redo    court_shoeCount court_claimCount court_suitCount court_shoeDay court_suits chg_done chg_size chg_sorts chg_numbers chg_afters S_who S_against S_kind S_won S_day S_land S_undoneFrom S_asked S_askedCount S_askedBits S_first S_foundSo S_foundNot S_fought S_needed = some R) : Met l yX11_redo (z_X11_redo) rm_X11_redo (va_Pc [.ref (ad 0)] (zPre D cs (wl_X11_redo ad cs LP S_a S_b court_shoeCount court_claimCount court_suitCount court_shoeDay court_suits chg_done chg_size chg_sorts chg_numbers chg_afters S_who S_against S_kind S_won S_day S_land S_undoneFrom S_asked S_askedCount S_askedBits S_first S_foundSo S_foundNot S_fought S_needed) sz)) (Q_X11_redo D cs ad LP S_a S_b court_shoeCount court_claimCount court_suitCount court_suits chg_size chg_sorts chg_numbers chg_afters S_who S_against S_kind S_day S_land S_asked S_askedCount S_askedBits S_first S_foundSo S_foundNot S_fought S_needed (va_A (wl_X11_redo ad cs LP S_a S_b court_shoeCount court_claimCount court_suitCount court_shoeDay court_suits chg_done chg_size chg_sorts chg_numbers chg_afters S_who S_against S_kind S_won S_day S_land S_undoneFrom S_asked S_askedCount S_askedBits S_first S_foundSo S_foundNot S_fought S_needed) sz) R) 0 0 (va_A (wl_X11_redo ad cs LP S_a S_b court_shoeCount court_claimCount court_suitCount court_shoeDay court_suits chg_done chg_size chg_sorts chg_numbers chg_afters S_who S_against S_kind S_won S_day S_land S_undoneFrom S_asked S_askedCount S_askedBits S_first S_foundSo S_foundNot S_fought S_needed) sz) := by
  refine Met.ofW (cc := cX11_redo) (maxL := 1) (ret := (some .int)) (by decide) rfl ?_
  intro p e s m args below meth c s₁ B hml hv
  obtain ⟨rfl, hsz, hP, hK, hD0⟩ := hv
  subst hsz
  have hD := hD0.self (sz := s.heap.size)
  have C0 : zC p s m _ meth c cX11_redo 1 (some .int) RX11 zW := ⟨B.exec, B.bytes, B.returns, hml, findClass_of_methodNamed B.named, fun w hw => atoms_spec (ws := z_X11_redo) B.pre w (List.mem_cons_of_mem _ hw), B.notSynchronized⟩
  have hA : ∀ q : Nat, s.heap.size ≤ q → va_A (wl_X11_redo ad cs LP S_a S_b court_shoeCount court_claimCount court_suitCount court_shoeDay court_suits chg_done chg_size chg_sorts chg_numbers chg_afters S_who S_against S_kind S_won S_day S_land S_undoneFrom S_asked S_askedCount S_askedBits S_first S_foundSo S_foundNot S_fought S_needed) s.heap.size q := fun q h => Or.inr h
  have hl := lv_entry ([.ref (ad 0)]) (n := 1) (Nat.le_of_ble_eq_true rfl)
  rw [lg_entry_eq]
  generalize (lg_sl ([.ref (ad 0)]) ++ List.replicate (1 - (lg_sl ([.ref (ad 0)])).length) Slot.unset).toArray = ls at hl ⊢
  exact L_X11_redo_0 C0 hK hA hSA    court_shoeDay chg_done S_won S_undoneFrom h s.heap [] ls hP hD va_S.rf hl
theorem kw_456 : Cond.fieldLink RX11 328 "AlreadyJudged$Acts" "ran" "I" ∈ zW := zwC (i := 142) zc_2 rfl rfl
theorem kw_458 : Cond.fieldLink RX11 338 "AlreadyJudged$Acts" "kind" "I" ∈ zW := zwC (i := 144) zc_2 rfl rfl
theorem kw_703 : Cond.fieldLink RX11 65 "AlreadyJudged" "acts" "LAlreadyJudged$Acts;" ∈ zW := zwC (i := 149) zc_3 rfl rfl
theorem kw_1206 : Cond.methodLink RX11 331 yX7_bodyKind ∈ zW := zwC (i := 172) zc_5 rfl rfl
theorem kw_1207 : Cond.methodLink RX11 334 yX0_begin ∈ zW := zwC (i := 173) zc_5 rfl rfl
theorem kw_1208 : Cond.instanceMethod yX0_begin ∈ zW := zwC (i := 174) zc_5 rfl rfl
theorem kw_1209 : Cond.selects RX0 yX0_begin yX0_begin ∈ zW := zwC (i := 175) zc_5 rfl rfl
theorem kw_1210 : Cond.code yX0_begin cX0_begin 4 none ∈ zW := zwC (i := 176) zc_5 rfl rfl
theorem zh_cX11_act_0 : zck [42, 180, 0, 65, 3, 181, 1, 72, 42, 180, 0, 10, 27, 182, 0, 207, 58, 4, 25, 4, 199, 0] (zdu 0 cX11_act.data.toList) = true := by decide +kernel
theorem dX11_act_0 : decode cX11_act 0 = .ok (.aload_n 0, 1) := zo_42 zh_cX11_act_0 0 rfl
theorem dX11_act_1 : decode cX11_act 1 = .ok (.getfield 65, 3) := zo_180 zh_cX11_act_0 1 rfl
theorem dX11_act_4 : decode cX11_act 4 = .ok (.iconst 0, 1) := zo_3 zh_cX11_act_0 4 rfl
theorem dX11_act_5 : decode cX11_act 5 = .ok (.putfield 328, 3) := zo_181 zh_cX11_act_0 5 rfl
theorem dX11_act_8 : decode cX11_act 8 = .ok (.aload_n 0, 1) := zo_42 zh_cX11_act_0 8 rfl
theorem dX11_act_9 : decode cX11_act 9 = .ok (.getfield 10, 3) := zo_180 zh_cX11_act_0 9 rfl
theorem dX11_act_12 : decode cX11_act 12 = .ok (.iload_n 1, 1) := zo_27 zh_cX11_act_0 12 rfl
theorem dX11_act_13 : decode cX11_act 13 = .ok (.invokevirtual 207, 3) := zo_182 zh_cX11_act_0 13 rfl
theorem dX11_act_16 : decode cX11_act 16 = .ok (.astore 4, 2) := zo_58 zh_cX11_act_0 16 rfl
theorem dX11_act_18 : decode cX11_act 18 = .ok (.aload 4, 2) := zo_25 zh_cX11_act_0 18 rfl
theorem zh_cX11_act_1 : zck [199, 0, 5, 3, 172, 42, 180, 0, 65, 25, 4, 182, 1, 75, 27, 25, 4, 180, 0, 216, 182, 1] (zdu 20 cX11_act.data.toList) = true := by decide +kernel
theorem dX11_act_20 : decode cX11_act 20 = .ok (.ifnonnull 5, 3) := zo_p199 zh_cX11_act_1 0 5 rfl rfl
theorem dX11_act_23 : decode cX11_act 23 = .ok (.iconst 0, 1) := zo_3 zh_cX11_act_1 3 rfl
theorem dX11_act_24 : decode cX11_act 24 = .ok (.ireturn, 1) := zo_172 zh_cX11_act_1 4 rfl
theorem dX11_act_25 : decode cX11_act 25 = .ok (.aload_n 0, 1) := zo_42 zh_cX11_act_1 5 rfl
theorem dX11_act_26 : decode cX11_act 26 = .ok (.getfield 65, 3) := zo_180 zh_cX11_act_1 6 rfl
theorem dX11_act_29 : decode cX11_act 29 = .ok (.aload 4, 2) := zo_25 zh_cX11_act_1 9 rfl
theorem dX11_act_31 : decode cX11_act 31 = .ok (.invokevirtual 331, 3) := zo_182 zh_cX11_act_1 11 rfl
theorem dX11_act_34 : decode cX11_act 34 = .ok (.iload_n 1, 1) := zo_27 zh_cX11_act_1 14 rfl
theorem dX11_act_35 : decode cX11_act 35 = .ok (.aload 4, 2) := zo_25 zh_cX11_act_1 15 rfl
theorem dX11_act_37 : decode cX11_act 37 = .ok (.getfield 216, 3) := zo_180 zh_cX11_act_1 17 rfl
theorem zh_cX11_act_2 : zck [182, 1, 78, 28, 170, 0, 0, 0, 0, 0, 0, 96, 0, 0, 0, 0, 0, 0, 0, 3, 0, 0] (zdu 40 cX11_act.data.toList) = true := by decide +kernel
theorem dX11_act_40 : decode cX11_act 40 = .ok (.invokevirtual 334, 3) := zo_182 zh_cX11_act_2 0 rfl
theorem dX11_act_43 : decode cX11_act 43 = .ok (.iload_n 2, 1) := zo_28 zh_cX11_act_2 3 rfl
theorem dX11_act_44 : decode cX11_act 44 = .ok (.tableswitch 96 0 3 #[32, 48, 64, 80], 32) := by decide +kernel
theorem zh_cX11_act_3 : zck [0, 0, 0, 32, 0, 0, 0, 48, 0, 0, 0, 64, 0, 0, 0, 80, 42, 180, 0, 65, 42, 180] (zdu 60 cX11_act.data.toList) = true := by decide +kernel
theorem dX11_act_76 : decode cX11_act 76 = .ok (.aload_n 0, 1) := zo_42 zh_cX11_act_3 16 rfl
theorem dX11_act_77 : decode cX11_act 77 = .ok (.getfield 65, 3) := zo_180 zh_cX11_act_3 17 rfl
theorem zh_cX11_act_4 : zck [42, 180, 0, 65, 180, 1, 82, 29, 182, 1, 85, 172, 42, 180, 0, 65, 42, 180, 0, 65, 180, 1] (zdu 80 cX11_act.data.toList) = true := by decide +kernel
theorem dX11_act_80 : decode cX11_act 80 = .ok (.aload_n 0, 1) := zo_42 zh_cX11_act_4 0 rfl
theorem dX11_act_81 : decode cX11_act 81 = .ok (.getfield 65, 3) := zo_180 zh_cX11_act_4 1 rfl
theorem dX11_act_84 : decode cX11_act 84 = .ok (.getfield 338, 3) := zo_180 zh_cX11_act_4 4 rfl
theorem dX11_act_87 : decode cX11_act 87 = .ok (.iload_n 3, 1) := zo_29 zh_cX11_act_4 7 rfl
theorem dX11_act_88 : decode cX11_act 88 = .ok (.invokevirtual 341, 3) := zo_182 zh_cX11_act_4 8 rfl
theorem dX11_act_91 : decode cX11_act 91 = .ok (.ireturn, 1) := zo_172 zh_cX11_act_4 11 rfl
theorem dX11_act_92 : decode cX11_act 92 = .ok (.aload_n 0, 1) := zo_42 zh_cX11_act_4 12 rfl
theorem dX11_act_93 : decode cX11_act 93 = .ok (.getfield 65, 3) := zo_180 zh_cX11_act_4 13 rfl
theorem dX11_act_96 : decode cX11_act 96 = .ok (.aload_n 0, 1) := zo_42 zh_cX11_act_4 16 rfl
theorem dX11_act_97 : decode cX11_act 97 = .ok (.getfield 65, 3) := zo_180 zh_cX11_act_4 17 rfl
theorem zh_cX11_act_5 : zck [180, 1, 82, 29, 182, 1, 88, 172, 42, 180, 0, 65, 42, 180, 0, 65, 180, 1, 82, 29, 182, 1] (zdu 100 cX11_act.data.toList) = true := by decide +kernel
theorem dX11_act_100 : decode cX11_act 100 = .ok (.getfield 338, 3) := zo_180 zh_cX11_act_5 0 rfl
theorem dX11_act_103 : decode cX11_act 103 = .ok (.iload_n 3, 1) := zo_29 zh_cX11_act_5 3 rfl
theorem dX11_act_104 : decode cX11_act 104 = .ok (.invokevirtual 344, 3) := zo_182 zh_cX11_act_5 4 rfl
theorem dX11_act_107 : decode cX11_act 107 = .ok (.ireturn, 1) := zo_172 zh_cX11_act_5 7 rfl
theorem dX11_act_108 : decode cX11_act 108 = .ok (.aload_n 0, 1) := zo_42 zh_cX11_act_5 8 rfl
theorem dX11_act_109 : decode cX11_act 109 = .ok (.getfield 65, 3) := zo_180 zh_cX11_act_5 9 rfl
theorem dX11_act_112 : decode cX11_act 112 = .ok (.aload_n 0, 1) := zo_42 zh_cX11_act_5 12 rfl
theorem dX11_act_113 : decode cX11_act 113 = .ok (.getfield 65, 3) := zo_180 zh_cX11_act_5 13 rfl
theorem dX11_act_116 : decode cX11_act 116 = .ok (.getfield 338, 3) := zo_180 zh_cX11_act_5 16 rfl
theorem dX11_act_119 : decode cX11_act 119 = .ok (.iload_n 3, 1) := zo_29 zh_cX11_act_5 19 rfl
theorem zh_cX11_act_6 : zck [182, 1, 91, 172, 42, 180, 0, 65, 42, 180, 0, 65, 180, 1, 82, 29, 182, 1, 94, 172, 3, 172] (zdu 120 cX11_act.data.toList) = true := by decide +kernel
theorem dX11_act_120 : decode cX11_act 120 = .ok (.invokevirtual 347, 3) := zo_182 zh_cX11_act_6 0 rfl
theorem dX11_act_123 : decode cX11_act 123 = .ok (.ireturn, 1) := zo_172 zh_cX11_act_6 3 rfl
theorem dX11_act_124 : decode cX11_act 124 = .ok (.aload_n 0, 1) := zo_42 zh_cX11_act_6 4 rfl
theorem dX11_act_125 : decode cX11_act 125 = .ok (.getfield 65, 3) := zo_180 zh_cX11_act_6 5 rfl
theorem dX11_act_128 : decode cX11_act 128 = .ok (.aload_n 0, 1) := zo_42 zh_cX11_act_6 8 rfl
theorem dX11_act_129 : decode cX11_act 129 = .ok (.getfield 65, 3) := zo_180 zh_cX11_act_6 9 rfl
theorem dX11_act_132 : decode cX11_act 132 = .ok (.getfield 338, 3) := zo_180 zh_cX11_act_6 12 rfl
theorem dX11_act_135 : decode cX11_act 135 = .ok (.iload_n 3, 1) := zo_29 zh_cX11_act_6 15 rfl
theorem dX11_act_136 : decode cX11_act 136 = .ok (.invokevirtual 350, 3) := zo_182 zh_cX11_act_6 16 rfl
theorem dX11_act_139 : decode cX11_act 139 = .ok (.ireturn, 1) := zo_172 zh_cX11_act_6 19 rfl
theorem zh_cX11_act_7 : zck [3, 172] (zdu 140 cX11_act.data.toList) = true := by decide +kernel
theorem dX11_act_140 : decode cX11_act 140 = .ok (.iconst 0, 1) := zo_3 zh_cX11_act_7 0 rfl
theorem dX11_act_141 : decode cX11_act 141 = .ok (.ireturn, 1) := zo_172 zh_cX11_act_7 1 rfl
abbrev z_X11_act : List Cond := .code yX11_act cX11_act 5 (some .int) :: zW
abbrev wx_X11_act (ad : Nat → Nat) (cs : Nat → ClassId) (PL : va_W) (S_a : Nat → Nat) (S_b : Nat → Nat) (court_shoeCount : Int32) (court_claimCount : Int32) (court_suitCount : Int32) (court_suits : Nat → Option Nat) (acts_ran : Int32) (acts_kind : Int32) (acts_number : Int32) (acts_claims : Int32) (acts_bodies : Nat → Int32) (S_who : Nat → Int32) (S_against : Nat → Int32) (S_kind : Nat → Int32) (S_won : Nat → Int32) (S_day : Nat → Int32) (S_land : Nat → Int32) (S_undoneFrom : Nat → Int32) (S_asked : Nat → Nat → Int32) (S_askedCount : Nat → Int32) (S_askedBits : Nat → Int32) (S_first : Nat → Int32) (S_foundSo : Nat → Int32) (S_foundNot : Nat → Int32) (S_fought : Nat → Int32) (S_needed : Nat → Int32) : va_W := [((ad 0), .inr (11, [.ref (ad 4), .ref (ad 15), .ref (ad 23), .ref (ad 25), .ref (ad 26), .ref (ad 28), .ref (ad 34), .ref (ad 39), .ref (ad 1), .ref (ad 2), .ref (ad 3)])), ((ad 4), .inr (2, [.ref (ad 5), .ref (ad 6), .ref (ad 7), .ref (ad 8), .ref (ad 9), .ref (ad 10), .ref (ad 11), .ref (ad 12), .ref (ad 13), .ref (ad 14), .int court_shoeCount, .int court_claimCount, .int court_suitCount])), ((ad 13), .inl (cs 5, 40, .inr (.inr (.inr (.inr court_suits))))), ((ad 39), .inr (0, [.ref (ad 40), .int acts_ran, .int acts_kind, .int acts_number, .int acts_claims])), ((ad 40), .inl (cs 0, 24, .inl acts_bodies))]
abbrev wl_X11_act (ad : Nat → Nat) (cs : Nat → ClassId) (PL : va_W) (S_a : Nat → Nat) (S_b : Nat → Nat) (court_shoeCount : Int32) (court_claimCount : Int32) (court_suitCount : Int32) (court_suits : Nat → Option Nat) (acts_ran : Int32) (acts_kind : Int32) (acts_number : Int32) (acts_claims : Int32) (acts_bodies : Nat → Int32) (S_who : Nat → Int32) (S_against : Nat → Int32) (S_kind : Nat → Int32) (S_won : Nat → Int32) (S_day : Nat → Int32) (S_land : Nat → Int32) (S_undoneFrom : Nat → Int32) (S_asked : Nat → Nat → Int32) (S_askedCount : Nat → Int32) (S_askedBits : Nat → Int32) (S_first : Nat → Int32) (S_foundSo : Nat → Int32) (S_foundNot : Nat → Int32) (S_fought : Nat → Int32) (S_needed : Nat → Int32) : va_W := wx_X11_act ad cs PL S_a S_b court_shoeCount court_claimCount court_suitCount court_suits acts_ran acts_kind acts_number acts_claims acts_bodies S_who S_against S_kind S_won S_day S_land S_undoneFrom S_asked S_askedCount S_askedBits S_first S_foundSo S_foundNot S_fought S_needed ++ PL
def Q_X11_act (D : va_G) (cs : Nat → ClassId) (ad : Nat → Nat) (PL : va_W) (S_a : Nat → Nat) (S_b : Nat → Nat) (court_shoeCount : Int32) (court_claimCount : Int32) (court_suitCount : Int32) (court_suits : Nat → Option Nat) (S_who : Nat → Int32) (S_against : Nat → Int32) (S_kind : Nat → Int32) (S_won : Nat → Int32) (S_day : Nat → Int32) (S_land : Nat → Int32) (S_undoneFrom : Nat → Int32) (S_asked : Nat → Nat → Int32) (S_askedCount : Nat → Int32) (S_askedBits : Nat → Int32) (S_first : Nat → Int32) (S_foundSo : Nat → Int32) (S_foundNot : Nat → Int32) (S_fought : Nat → Int32) (S_needed : Nat → Int32) (A : Nat → Prop) (R : Int32 × Int32 × Int32 × Int32 × Int32 × (Nat → Int32)) : Array Value → State → Outcome → State → Prop :=
  va_Qi (fun (r : Int32) (u : Int32 × Int32 × Int32 × Int32 × (Nat → Int32)) => (r, u) = R) (fun (u : Int32 × Int32 × Int32 × Int32 × (Nat → Int32)) (t : State) => va_P D classes (wl_X11_act ad cs PL S_a S_b court_shoeCount court_claimCount court_suitCount court_suits u.1 u.2.1 u.2.2.1 u.2.2.2.1 u.2.2.2.2 S_who S_against S_kind S_won S_day S_land S_undoneFrom S_asked S_askedCount S_askedBits S_first S_foundSo S_foundNot S_fought S_needed) t.heap ∧ va_D A (wl_X11_act ad cs PL S_a S_b court_shoeCount court_claimCount court_suitCount court_suits u.1 u.2.1 u.2.2.1 u.2.2.2.1 u.2.2.2.2 S_who S_against S_kind S_won S_day S_land S_undoneFrom S_asked S_askedCount S_askedBits S_first S_foundSo S_foundNot S_fought S_needed)) A
abbrev rm_X11_act : Room := { frames := 400, cells := 0, slots := 0, locals := 8800 }
theorem g_X11_331 : GoodIn zW (wsV RX11 331 RX7 yX7_bodyKind z_X7_bodyKind) := zGV kw_1206 kw_953 kw_954 kw_82 kw_955
theorem g_X11_334 : GoodIn zW (wsV RX11 334 RX0 yX0_begin z_X0_begin) := zGV kw_1207 kw_1208 kw_1209 kw_84 kw_1210
theorem g_X11_341 : GoodIn zW (z_X0_closes) := zGN kw_1214
theorem g_X11_344 : GoodIn zW (z_X0_settles) := zGN kw_1226
theorem g_X11_347 : GoodIn zW (z_X0_binds) := zGN kw_1231
theorem g_X11_350 : GoodIn zW (z_X0_tells) := zGN kw_1236
theorem hd_X0_begin : yX0_begin.cls ≠ "java/lang/invoke/MethodHandle" ∧ yX0_begin.cls ≠ "java/lang/invoke/VarHandle" ∧ (parseMethodDescriptor yX0_begin.desc).map (fun d => d.parameters.length) = some 3 := by decide +kernel
def B_X11_act_0    (court_shoeCount : Int32) (court_claimCount : Int32) (court_suitCount : Int32) (court_suits : Nat → Option Nat) (S_who : Nat → Int32) (S_against : Nat → Int32) (S_kind : Nat → Int32) (S_won : Nat → Int32) (S_day : Nat → Int32) (S_land : Nat → Int32) (S_undoneFrom : Nat → Int32) (S_asked : Nat → Nat → Int32) (S_askedCount : Nat → Int32) (S_askedBits : Nat → Int32) (S_first : Nat → Int32) (S_foundSo : Nat → Int32) (S_foundNot : Nat → Int32) (S_fought : Nat → Int32) (S_needed : Nat → Int32) (x1 : Int32) (x2 : Int32) (x3 : Int32) (acts_ran : Int32) (acts_kind : Int32) (acts_number : Int32) (acts_claims : Int32) (acts_bodies : Nat → Int32) : Option (Int32 × Int32 × Int32 × Int32 × Int32 × (Nat → Int32)) :=
  (zk_b2 (f_X2_suitAt x1 court_shoeCount court_claimCount court_suitCount court_suits S_who S_against S_kind S_won S_day S_land S_undoneFrom S_asked S_askedCount S_askedBits S_first S_foundSo S_foundNot S_fought S_needed) (fun r_1 u_2 => (if r_1 < 0 then (some ((0 : Int32), (0 : Int32), acts_kind, acts_number, acts_claims, acts_bodies)) else (if (r_1 < 0 ∨ court_suitCount ≤ r_1) then none else (zk_b2 (f_X7_bodyKind (S_who r_1.toNatClampNeg) (S_against r_1.toNatClampNeg) (S_kind r_1.toNatClampNeg) (S_won r_1.toNatClampNeg) (S_day r_1.toNatClampNeg) (S_land r_1.toNatClampNeg) (S_undoneFrom r_1.toNatClampNeg) (S_askedCount r_1.toNatClampNeg) (S_askedBits r_1.toNatClampNeg) (S_first r_1.toNatClampNeg) (S_foundSo r_1.toNatClampNeg) (S_foundNot r_1.toNatClampNeg) (S_fought r_1.toNatClampNeg) (S_needed r_1.toNatClampNeg)) (fun r_9 u_10 => (if (r_1 < 0 ∨ court_suitCount ≤ r_1) then none else (zk_b4 (f_X0_begin r_9 x1 (S_askedCount r_1.toNatClampNeg) (0 : Int32) acts_kind acts_number acts_claims) (fun u_16 u_17 u_18 u_19 => (if x2 = (0 : Int32) then (zk_b3 ((grp_grp138 7) u_17 x3 u_16 u_17 u_18 u_19 acts_bodies) (fun r_21 u_22 u_23 => (some (r_21, u_22, u_17, u_18, u_19, u_23)))) else (if x2 = (1 : Int32) then (zk_b3 ((grp_grp140 7) u_17 x3 u_16 u_17 u_18 u_19 acts_bodies) (fun r_25 u_26 u_27 => (some (r_25, u_26, u_17, u_18, u_19, u_27)))) else (if x2 = (2 : Int32) then (zk_b3 ((grp_grp139 7) u_17 x3 u_16 u_17 u_18 u_19 acts_bodies) (fun r_29 u_30 u_31 => (some (r_29, u_30, u_17, u_18, u_19, u_31)))) else (if x2 = (3 : Int32) then (zk_b3 ((grp_grp141 7) u_17 x3 u_16 u_17 u_18 u_19 acts_bodies) (fun r_33 u_34 u_35 => (some (r_33, u_34, u_17, u_18, u_19, u_35)))) else (some ((0 : Int32), u_16, u_17, u_18, u_19, acts_bodies)))))))))))))))
def f_X11_act   (x1 : Int32) (x2 : Int32) (x3 : Int32) (court_shoeCount : Int32) (court_claimCount : Int32) (court_suitCount : Int32) (court_suits : Nat → Option Nat) (acts_ran : Int32) (acts_kind : Int32) (acts_number : Int32) (acts_claims : Int32) (acts_bodies : Nat → Int32) (S_who : Nat → Int32) (S_against : Nat → Int32) (S_kind : Nat → Int32) (S_won : Nat → Int32) (S_day : Nat → Int32) (S_land : Nat → Int32) (S_undoneFrom : Nat → Int32) (S_asked : Nat → Nat → Int32) (S_askedCount : Nat → Int32) (S_askedBits : Nat → Int32) (S_first : Nat → Int32) (S_foundSo : Nat → Int32) (S_foundNot : Nat → Int32) (S_fought : Nat → Int32) (S_needed : Nat → Int32) : Option (Int32 × Int32 × Int32 × Int32 × Int32 × (Nat → Int32)) := B_X11_act_0   court_shoeCount court_claimCount court_suitCount court_suits S_who S_against S_kind S_won S_day S_land S_undoneFrom S_asked S_askedCount S_askedBits S_first S_foundSo S_foundNot S_fought S_needed x1 x2 x3 acts_ran acts_kind acts_number acts_claims acts_bodies
set_option maxHeartbeats 4000000 in
set_option maxRecDepth 100000 in
theorem L_X11_act_0 {p : Program} {l : Launch} {e : Env} {s : State} {m : MethodId} {args : Array Value} {below : List Frame} {meth : Method} {c : Code} {A : Nat → Prop} {D : va_G} {cs : Nat → ClassId} {ad : Nat → Nat} {PL : va_W} {S_a : Nat → Nat} {S_b : Nat → Nat} {court_shoeCount : Int32} {court_claimCount : Int32} {court_suitCount : Int32} {court_suits : Nat → Option Nat} {S_who : Nat → Int32} {S_against : Nat → Int32} {S_kind : Nat → Int32} {S_won : Nat → Int32} {S_day : Nat → Int32} {S_land : Nat → Int32} {S_undoneFrom : Nat → Int32} {S_asked : Nat → Nat → Int32} {S_askedCount : Nat → Int32} {S_askedBits : Nat → Int32} {S_first : Nat → Int32} {S_foundSo : Nat → Int32} {S_foundNot : Nat → Int32} {S_fought : Nat → Int32} {S_needed : Nat → Int32} {R : Int32 × Int32 × Int32 × Int32 × Int32 × (Nat → Int32)} (C0 : zC p s m args meth c cX11_act 5 (some .int) RX11 zW) (hK : va_K D classes (zT cs) s) (hO : zO s) (hA : ∀ q : Nat, s.heap.size ≤ q → A q) (hSU : PSu cs PL court_suitCount court_suits S_a S_b S_who S_against S_kind S_won S_day S_land S_undoneFrom S_asked S_askedCount S_askedBits S_first S_foundSo S_foundNot S_fought S_needed) (x1 : Int32) (x2 : Int32) (x3 : Int32) (acts_ran : Int32) (acts_kind : Int32) (acts_number : Int32) (acts_claims : Int32) (acts_bodies : Nat → Int32) (h : B_X11_act_0 court_shoeCount court_claimCount court_suitCount court_suits S_who S_against S_kind S_won S_day S_land S_undoneFrom S_asked S_askedCount S_askedBits S_first S_foundSo S_foundNot S_fought S_needed x1 x2 x3 acts_ran acts_kind acts_number acts_claims acts_bodies = some R) (H : Heap) (locs : List Loc) (ls : Array Slot) (hP : va_P D classes (wl_X11_act ad cs PL S_a S_b court_shoeCount court_claimCount court_suitCount court_suits acts_ran acts_kind acts_number acts_claims acts_bodies S_who S_against S_kind S_won S_day S_land S_undoneFrom S_asked S_askedCount S_askedBits S_first S_foundSo S_foundNot S_fought S_needed) H) (hD : va_D A (wl_X11_act ad cs PL S_a S_b court_shoeCount court_claimCount court_suitCount court_suits acts_ran acts_kind acts_number acts_claims acts_bodies S_who S_against S_kind S_won S_day S_land S_undoneFrom S_asked S_askedCount S_askedBits S_first S_foundSo S_foundNot S_fought S_needed)) (hS : va_S A s.heap H locs) (hl : lv_has ls 5 [(0, .ref (ad 0)), (1, .int x1), (2, .int x2), (3, .int x3)]) : W p l e rm_X11_act s m args below meth c H locs 0 0 (MQ below (Q_X11_act D cs ad PL S_a S_b court_shoeCount court_claimCount court_suitCount court_suits S_who S_against S_kind S_won S_day S_land S_undoneFrom S_asked S_askedCount S_askedBits S_first S_foundSo S_foundNot S_fought S_needed A R) args s 0 0 A) (F0 m 0 ls []) := by
  obtain ⟨hx, hb, hr, hml, hown, ht, hlocks⟩ := id C0
  refine lv_aload_n hx hb dX11_act_0 rfl (lv_at hl 0 rfl) ?_
  refine va_get (D := D) (ci := 11) (v := .ref (ad 39)) (C := RX11) (T := TX11) (N := 11) hx hb ht iX11 hown hK hP 0 rfl rfl 7 (by decide) (ht _ kw_703) (fun _ h9 => h9) rfl dX11_act_1 ?_
  refine lv_iconst (v := (0 : Int32)) hx hb dX11_act_4 (by decide) ?_
  refine va_put (D := D) (ci := 0) (v := .int (0 : Int32)) (ty := .int) (C := RX0) (T := TX0) (N := 5) hx hb ht iX0 tyX0 tyX0_ok nmX0 hown hK hP hD hS 3 rfl rfl 1 (by decide) (ht _ kw_456) (fun _ h9 => h9) rfl (by decide +kernel) rfl rfl (Nat.le_of_ble_eq_true rfl) dX11_act_5 (fun H locs hP hD hS => ?_)
  have hP : va_P D classes (wl_X11_act ad cs PL S_a S_b court_shoeCount court_claimCount court_suitCount court_suits (0 : Int32) acts_kind acts_number acts_claims acts_bodies S_who S_against S_kind S_won S_day S_land S_undoneFrom S_asked S_askedCount S_askedBits S_first S_foundSo S_foundNot S_fought S_needed) H := hP
  have hD : va_D A (wl_X11_act ad cs PL S_a S_b court_shoeCount court_claimCount court_suitCount court_suits (0 : Int32) acts_kind acts_number acts_claims acts_bodies S_who S_against S_kind S_won S_day S_land S_undoneFrom S_asked S_askedCount S_askedBits S_first S_foundSo S_foundNot S_fought S_needed) := hD
  refine lv_aload_n hx hb dX11_act_8 rfl (lv_at hl 0 rfl) ?_
  refine va_get (D := D) (ci := 11) (v := .ref (ad 4)) (C := RX11) (T := TX11) (N := 11) hx hb ht iX11 hown hK hP 0 rfl rfl 0 (by decide) (ht _ kw_696) (fun _ h9 => h9) rfl dX11_act_9 ?_
  refine lv_iload_n hx hb dX11_act_12 rfl (lv_at hl 1 rfl) ?_
  obtain ⟨r_1, u_2, hc_3, h⟩ := zk_o2 h
  refine zz_vqP (post := (fun r u => r = (if r_1 < 0 then none else some (S_a r_1.toNatClampNeg)) ∧ u = (u_2))) (w1 := fun u => (wx_X2_suitAt ad cs PL S_a S_b court_shoeCount court_claimCount court_suitCount court_suits S_who S_against S_kind S_won S_day S_land S_undoneFrom S_asked S_askedCount S_askedBits S_first S_foundSo S_foundNot S_fought S_needed)) (PL := PL) (As := [.int x1]) (rest := []) (c_X2_suitAt l D cs ad PL S_a S_b H.size x1 court_shoeCount court_claimCount court_suitCount court_suits S_who S_against S_kind S_won S_day S_land S_undoneFrom S_asked S_askedCount S_askedBits S_first S_foundSo S_foundNot S_fought S_needed hSU (r_1, u_2) hc_3) ⟨hx, hb, hml, hown, ht⟩ (cwV 1 ht g_X11_207 rfl rfl rfl ⟨rfl, hd_X2_suitAt⟩ ⟨Nat.le_of_ble_eq_true rfl, Nat.le_of_ble_eq_true rfl⟩) (va_recv hK hP (ci := 2) (q0 := 1) rfl rfl) hP hD hS hK hA [1, 2] rfl rfl [(ad 4), (ad 13)] rfl (fun _ => rfl) rfl hl.1 (Nat.le_of_ble_eq_true rfl) dX11_act_13 ⟨Nat.zero_le _, Nat.zero_le _⟩ (fun r u H locs hq hP hS => ?_)
  obtain ⟨hq1, hq2⟩ := hq; cases hq2; subst hq1
  have hP : va_P D classes (wl_X11_act ad cs PL S_a S_b court_shoeCount court_claimCount court_suitCount court_suits (0 : Int32) acts_kind acts_number acts_claims acts_bodies S_who S_against S_kind S_won S_day S_land S_undoneFrom S_asked S_askedCount S_askedBits S_first S_foundSo S_foundNot S_fought S_needed) H := hP
  have hD : va_D A (wl_X11_act ad cs PL S_a S_b court_shoeCount court_claimCount court_suitCount court_suits (0 : Int32) acts_kind acts_number acts_claims acts_bodies S_who S_against S_kind S_won S_day S_land S_undoneFrom S_asked S_askedCount S_askedBits S_first S_foundSo S_foundNot S_fought S_needed) := zDkp hD [(ad 0), (ad 4), (ad 13), (ad 39), (ad 40)] rfl rfl
  by_cases c_4 : r_1 < 0
  · have h := zk_t c_4 h
    refine W.eq (g2 := F0 m 16 ls [.null]) (by rw [if_pos c_4]; rfl) ?_
    refine lv_astoreN (lv' := [(4, .null), (0, .ref (ad 0)), (1, .int x1), (2, .int x2), (3, .int x3)]) hx hb dX11_act_16 hl (by decide) rfl (fun ls hl => ?_)
    refine lv_aloadN hx hb dX11_act_18 (lv_at hl 0 rfl) ?_
    refine lv_ifnonnullN hx hb dX11_act_20 ?_
    refine lv_iconst (v := (0 : Int32)) hx hb dX11_act_23 (by decide) ?_
    exact W.iret (v := (0 : Int32)) hx hb hr (fun t ht2 hW => ⟨⟨(0 : Int32), ((0 : Int32), acts_kind, acts_number, acts_claims, acts_bodies), rfl, Option.some.inj h, by rw [ht2]; exact hP, hD⟩, hS.F ht2⟩) hS.2.2 dX11_act_24 hlocks
  · have h := zk_f c_4 h
    refine W.eq (g2 := F0 m 16 ls [.ref (S_a r_1.toNatClampNeg)]) (by rw [if_neg c_4]; rfl) ?_
    refine lv_astore (lv' := [(4, .ref (S_a r_1.toNatClampNeg)), (0, .ref (ad 0)), (1, .int x1), (2, .int x2), (3, .int x3)]) hx hb dX11_act_16 hl (by decide) rfl (fun ls hl => ?_)
    refine lv_aload hx hb dX11_act_18 (lv_at hl 0 rfl) ?_
    refine lv_ifnonnull (tgt := 25) hx hb dX11_act_20 (by decide) ?_
    refine lv_aload_n hx hb dX11_act_25 rfl (lv_at hl 1 rfl) ?_
    refine va_get (D := D) (ci := 11) (v := .ref (ad 39)) (C := RX11) (T := TX11) (N := 11) hx hb ht iX11 hown hK hP 0 rfl rfl 7 (by decide) (ht _ kw_703) (fun _ h9 => h9) rfl dX11_act_26 ?_
    refine lv_aload hx hb dX11_act_29 (lv_at hl 0 rfl) ?_
    obtain ⟨g_5, h⟩ := zk_gd h
    obtain ⟨hs_6, ⟨_, hj_7⟩, ⟨_, hj_8⟩⟩ := hSU _ (zs_lt2 g_5)
    obtain ⟨r_9, u_10, hc_11, h⟩ := zk_o2 h
    refine zk_viM (post := (fun r u => (r, u) = (r_9, u_10))) (As := []) (rest := [.ref (ad 39)]) (c_X7_bodyKind l D cs ad (S_a r_1.toNatClampNeg) (S_b r_1.toNatClampNeg) H.size (S_who r_1.toNatClampNeg) (S_against r_1.toNatClampNeg) (S_kind r_1.toNatClampNeg) (S_won r_1.toNatClampNeg) (S_day r_1.toNatClampNeg) (S_land r_1.toNatClampNeg) (S_undoneFrom r_1.toNatClampNeg) (S_askedCount r_1.toNatClampNeg) (S_askedBits r_1.toNatClampNeg) (S_first r_1.toNatClampNeg) (S_foundSo r_1.toNatClampNeg) (S_foundNot r_1.toNatClampNeg) (S_fought r_1.toNatClampNeg) (S_needed r_1.toNatClampNeg) (r_9, u_10) hc_11) ⟨hx, hb, hml, hown, ht⟩ (cwV 0 ht g_X11_331 rfl rfl rfl ⟨rfl, hd_X7_bodyKind⟩ ⟨Nat.le_of_ble_eq_true rfl, Nat.le_of_ble_eq_true rfl⟩) (va_recv hK hP (ci := 7) (q0 := _) rfl (zPm hj_7 rfl)) hP hD hS hK hA _ (zPm hj_7 rfl) rfl hl.1 (Nat.le_of_ble_eq_true rfl) dX11_act_31 ⟨Nat.zero_le _, Nat.zero_le _⟩ (fun r u H locs hq hP hD hS => ?_)
    cases hq
    have hP : va_P D classes (wl_X11_act ad cs PL S_a S_b court_shoeCount court_claimCount court_suitCount court_suits (0 : Int32) acts_kind acts_number acts_claims acts_bodies S_who S_against S_kind S_won S_day S_land S_undoneFrom S_asked S_askedCount S_askedBits S_first S_foundSo S_foundNot S_fought S_needed) H := hP
    have hD : va_D A (wl_X11_act ad cs PL S_a S_b court_shoeCount court_claimCount court_suitCount court_suits (0 : Int32) acts_kind acts_number acts_claims acts_bodies S_who S_against S_kind S_won S_day S_land S_undoneFrom S_asked S_askedCount S_askedBits S_first S_foundSo S_foundNot S_fought S_needed) := hD
    refine lv_iload_n hx hb dX11_act_34 rfl (lv_at hl 2 rfl) ?_
    refine lv_aload hx hb dX11_act_35 (lv_at hl 0 rfl) ?_
    obtain ⟨g_12, h⟩ := zk_gd h
    obtain ⟨hs_13, ⟨_, hj_14⟩, ⟨_, hj_15⟩⟩ := hSU _ (zs_lt2 g_12)
    refine va_get (D := D) (ci := 7) (v := .int (S_askedCount r_1.toNatClampNeg)) (C := RX7) (T := TX7) (N := 15) hx hb ht iX7 hown hK hP _ (zPm hj_14 rfl) rfl 8 (by decide) (ht _ kw_340) (fun _ h9 => h9) rfl dX11_act_37 ?_
    obtain ⟨u_16, u_17, u_18, u_19, hc_20, h⟩ := zk_o4 h
    refine zz_vvQ (post := (fun u => u = (u_16, u_17, u_18, u_19))) (w1 := fun u => (wl_X0_begin ad cs u.1 u.2.1 u.2.2.1 u.2.2.2)) (As := [.int r_9, .int x1, .int (S_askedCount r_1.toNatClampNeg)]) (rest := []) (c_X0_begin l D cs ad  H.size r_9 x1 (S_askedCount r_1.toNatClampNeg) (0 : Int32) acts_kind acts_number acts_claims (u_16, u_17, u_18, u_19) hc_20) ⟨hx, hb, hml, hown, ht⟩ (cwV 3 ht g_X11_334 rfl rfl rfl ⟨rfl, hd_X0_begin⟩ ⟨Nat.le_of_ble_eq_true rfl, Nat.le_of_ble_eq_true rfl⟩) (va_recv hK hP (ci := 0) (q0 := 3) rfl rfl) hP hD hS hK hA [3] rfl rfl [(ad 39)] rfl (fun _ => rfl) rfl hl.1 (Nat.le_of_ble_eq_true rfl) dX11_act_40 ⟨Nat.zero_le _, Nat.zero_le _⟩ (fun u H locs hq hP hS => ?_)
    cases hq
    have hP : va_P D classes (wl_X11_act ad cs PL S_a S_b court_shoeCount court_claimCount court_suitCount court_suits u_16 u_17 u_18 u_19 acts_bodies S_who S_against S_kind S_won S_day S_land S_undoneFrom S_asked S_askedCount S_askedBits S_first S_foundSo S_foundNot S_fought S_needed) H := hP
    have hD : va_D A (wl_X11_act ad cs PL S_a S_b court_shoeCount court_claimCount court_suitCount court_suits u_16 u_17 u_18 u_19 acts_bodies S_who S_against S_kind S_won S_day S_land S_undoneFrom S_asked S_askedCount S_askedBits S_first S_foundSo S_foundNot S_fought S_needed) := zDkp hD [(ad 0), (ad 4), (ad 13), (ad 39), (ad 40)] rfl rfl
    refine lv_iload_n hx hb dX11_act_43 rfl (lv_at hl 3 rfl) ?_
    by_cases c_37 : x2 = (0 : Int32)
    · have h := zk_t c_37 h
      refine lv_tableIn (tgt := 76) hx hb dX11_act_44 (by rw [c_37]; decide) (by rw [c_37]; decide) (by rw [c_37]; rfl) (by decide) ?_
      refine lv_aload_n hx hb dX11_act_76 rfl (lv_at hl 1 rfl) ?_
      refine va_get (D := D) (ci := 11) (v := .ref (ad 39)) (C := RX11) (T := TX11) (N := 11) hx hb ht iX11 hown hK hP 0 rfl rfl 7 (by decide) (ht _ kw_703) (fun _ h9 => h9) rfl dX11_act_77 ?_
      refine lv_aload_n hx hb dX11_act_80 rfl (lv_at hl 1 rfl) ?_
      refine va_get (D := D) (ci := 11) (v := .ref (ad 39)) (C := RX11) (T := TX11) (N := 11) hx hb ht iX11 hown hK hP 0 rfl rfl 7 (by decide) (ht _ kw_703) (fun _ h9 => h9) rfl dX11_act_81 ?_
      refine va_get (D := D) (ci := 0) (v := .int u_17) (C := RX0) (T := TX0) (N := 5) hx hb ht iX0 hown hK hP 3 rfl rfl 2 (by decide) (ht _ kw_458) (fun _ h9 => h9) rfl dX11_act_84 ?_
      refine lv_iload_n hx hb dX11_act_87 rfl (lv_at hl 4 rfl) ?_
      obtain ⟨r_21, u_22, u_23, hc_24, h⟩ := zk_o3 h
      refine zz_niQ (post := (fun r u => (r, u) = (r_21, u_22, u_23))) (w1 := fun u => (wl_X0_closes ad cs u.1 u_17 u_18 u_19 u.2)) (As := [.int u_17, .int x3]) (rest := []) (((cg_grp138 l 7)) D cs ad  H.size u_17 x3 u_16 u_17 u_18 u_19 acts_bodies (r_21, u_22, u_23) hc_24) ⟨hx, hb, hml, hown, ht⟩ (⟨va_cnB 2 ht g_X11_341 rfl rfl rfl (zOn (q := (RX11, 341, yX0_closes)) hO 9 rfl) (ht _ kw_84) hd_X0_closes ⟨Nat.le_of_ble_eq_true rfl, Nat.le_of_ble_eq_true rfl⟩, ht _ kw_1213, ht _ kw_12⟩) (va_recv hK hP (ci := 0) (q0 := 3) rfl rfl) hP hD hS hK hA [3, 4] rfl rfl [(ad 39), (ad 40)] rfl (fun _ => rfl) rfl hl.1 (Nat.le_of_ble_eq_true rfl) dX11_act_88 ⟨Nat.zero_le _, Nat.zero_le _⟩ (fun r u H locs hq hP hS => ?_)
      cases hq
      have hP : va_P D classes (wl_X11_act ad cs PL S_a S_b court_shoeCount court_claimCount court_suitCount court_suits u_22 u_17 u_18 u_19 u_23 S_who S_against S_kind S_won S_day S_land S_undoneFrom S_asked S_askedCount S_askedBits S_first S_foundSo S_foundNot S_fought S_needed) H := hP
      have hD : va_D A (wl_X11_act ad cs PL S_a S_b court_shoeCount court_claimCount court_suitCount court_suits u_22 u_17 u_18 u_19 u_23 S_who S_against S_kind S_won S_day S_land S_undoneFrom S_asked S_askedCount S_askedBits S_first S_foundSo S_foundNot S_fought S_needed) := zDkp hD [(ad 0), (ad 4), (ad 13), (ad 39), (ad 40)] rfl rfl
      exact W.iret (v := r_21) hx hb hr (fun t ht2 hW => ⟨⟨r_21, (u_22, u_17, u_18, u_19, u_23), rfl, Option.some.inj h, by rw [ht2]; exact hP, hD⟩, hS.F ht2⟩) hS.2.2 dX11_act_91 hlocks
    · have h := zk_f c_37 h
      by_cases c_38 : x2 = (1 : Int32)
      · have h := zk_t c_38 h
        refine lv_tableIn (tgt := 92) hx hb dX11_act_44 (by rw [c_38]; decide) (by rw [c_38]; decide) (by rw [c_38]; rfl) (by decide) ?_
        refine lv_aload_n hx hb dX11_act_92 rfl (lv_at hl 1 rfl) ?_
        refine va_get (D := D) (ci := 11) (v := .ref (ad 39)) (C := RX11) (T := TX11) (N := 11) hx hb ht iX11 hown hK hP 0 rfl rfl 7 (by decide) (ht _ kw_703) (fun _ h9 => h9) rfl dX11_act_93 ?_
        refine lv_aload_n hx hb dX11_act_96 rfl (lv_at hl 1 rfl) ?_
        refine va_get (D := D) (ci := 11) (v := .ref (ad 39)) (C := RX11) (T := TX11) (N := 11) hx hb ht iX11 hown hK hP 0 rfl rfl 7 (by decide) (ht _ kw_703) (fun _ h9 => h9) rfl dX11_act_97 ?_
        refine va_get (D := D) (ci := 0) (v := .int u_17) (C := RX0) (T := TX0) (N := 5) hx hb ht iX0 hown hK hP 3 rfl rfl 2 (by decide) (ht _ kw_458) (fun _ h9 => h9) rfl dX11_act_100 ?_
        refine lv_iload_n hx hb dX11_act_103 rfl (lv_at hl 4 rfl) ?_
        obtain ⟨r_25, u_26, u_27, hc_28, h⟩ := zk_o3 h
        refine zz_niQ (post := (fun r u => (r, u) = (r_25, u_26, u_27))) (w1 := fun u => (wl_X0_settles ad cs u.1 u_17 u_18 u_19 u.2)) (As := [.int u_17, .int x3]) (rest := []) (((cg_grp140 l 7)) D cs ad  H.size u_17 x3 u_16 u_17 u_18 u_19 acts_bodies (r_25, u_26, u_27) hc_28) ⟨hx, hb, hml, hown, ht⟩ (⟨va_cnB 2 ht g_X11_344 rfl rfl rfl (zOn (q := (RX11, 344, yX0_settles)) hO 10 rfl) (ht _ kw_84) hd_X0_settles ⟨Nat.le_of_ble_eq_true rfl, Nat.le_of_ble_eq_true rfl⟩, ht _ kw_1225, ht _ kw_13⟩) (va_recv hK hP (ci := 0) (q0 := 3) rfl rfl) hP hD hS hK hA [3, 4] rfl rfl [(ad 39), (ad 40)] rfl (fun _ => rfl) rfl hl.1 (Nat.le_of_ble_eq_true rfl) dX11_act_104 ⟨Nat.zero_le _, Nat.zero_le _⟩ (fun r u H locs hq hP hS => ?_)
        cases hq
        have hP : va_P D classes (wl_X11_act ad cs PL S_a S_b court_shoeCount court_claimCount court_suitCount court_suits u_26 u_17 u_18 u_19 u_27 S_who S_against S_kind S_won S_day S_land S_undoneFrom S_asked S_askedCount S_askedBits S_first S_foundSo S_foundNot S_fought S_needed) H := hP
        have hD : va_D A (wl_X11_act ad cs PL S_a S_b court_shoeCount court_claimCount court_suitCount court_suits u_26 u_17 u_18 u_19 u_27 S_who S_against S_kind S_won S_day S_land S_undoneFrom S_asked S_askedCount S_askedBits S_first S_foundSo S_foundNot S_fought S_needed) := zDkp hD [(ad 0), (ad 4), (ad 13), (ad 39), (ad 40)] rfl rfl
        exact W.iret (v := r_25) hx hb hr (fun t ht2 hW => ⟨⟨r_25, (u_26, u_17, u_18, u_19, u_27), rfl, Option.some.inj h, by rw [ht2]; exact hP, hD⟩, hS.F ht2⟩) hS.2.2 dX11_act_107 hlocks
      · have h := zk_f c_38 h
        by_cases c_39 : x2 = (2 : Int32)
        · have h := zk_t c_39 h
          refine lv_tableIn (tgt := 108) hx hb dX11_act_44 (by rw [c_39]; decide) (by rw [c_39]; decide) (by rw [c_39]; rfl) (by decide) ?_
          refine lv_aload_n hx hb dX11_act_108 rfl (lv_at hl 1 rfl) ?_
          refine va_get (D := D) (ci := 11) (v := .ref (ad 39)) (C := RX11) (T := TX11) (N := 11) hx hb ht iX11 hown hK hP 0 rfl rfl 7 (by decide) (ht _ kw_703) (fun _ h9 => h9) rfl dX11_act_109 ?_
          refine lv_aload_n hx hb dX11_act_112 rfl (lv_at hl 1 rfl) ?_
          refine va_get (D := D) (ci := 11) (v := .ref (ad 39)) (C := RX11) (T := TX11) (N := 11) hx hb ht iX11 hown hK hP 0 rfl rfl 7 (by decide) (ht _ kw_703) (fun _ h9 => h9) rfl dX11_act_113 ?_
          refine va_get (D := D) (ci := 0) (v := .int u_17) (C := RX0) (T := TX0) (N := 5) hx hb ht iX0 hown hK hP 3 rfl rfl 2 (by decide) (ht _ kw_458) (fun _ h9 => h9) rfl dX11_act_116 ?_
          refine lv_iload_n hx hb dX11_act_119 rfl (lv_at hl 4 rfl) ?_
          obtain ⟨r_29, u_30, u_31, hc_32, h⟩ := zk_o3 h
          refine zz_niQ (post := (fun r u => (r, u) = (r_29, u_30, u_31))) (w1 := fun u => (wl_X0_binds ad cs u.1 u_17 u_18 u_19 u.2)) (As := [.int u_17, .int x3]) (rest := []) (((cg_grp139 l 7)) D cs ad  H.size u_17 x3 u_16 u_17 u_18 u_19 acts_bodies (r_29, u_30, u_31) hc_32) ⟨hx, hb, hml, hown, ht⟩ (⟨va_cnB 2 ht g_X11_347 rfl rfl rfl (zOn (q := (RX11, 347, yX0_binds)) hO 11 rfl) (ht _ kw_84) hd_X0_binds ⟨Nat.le_of_ble_eq_true rfl, Nat.le_of_ble_eq_true rfl⟩, ht _ kw_1230, ht _ kw_14⟩) (va_recv hK hP (ci := 0) (q0 := 3) rfl rfl) hP hD hS hK hA [3, 4] rfl rfl [(ad 39), (ad 40)] rfl (fun _ => rfl) rfl hl.1 (Nat.le_of_ble_eq_true rfl) dX11_act_120 ⟨Nat.zero_le _, Nat.zero_le _⟩ (fun r u H locs hq hP hS => ?_)
          cases hq
          have hP : va_P D classes (wl_X11_act ad cs PL S_a S_b court_shoeCount court_claimCount court_suitCount court_suits u_30 u_17 u_18 u_19 u_31 S_who S_against S_kind S_won S_day S_land S_undoneFrom S_asked S_askedCount S_askedBits S_first S_foundSo S_foundNot S_fought S_needed) H := hP
          have hD : va_D A (wl_X11_act ad cs PL S_a S_b court_shoeCount court_claimCount court_suitCount court_suits u_30 u_17 u_18 u_19 u_31 S_who S_against S_kind S_won S_day S_land S_undoneFrom S_asked S_askedCount S_askedBits S_first S_foundSo S_foundNot S_fought S_needed) := zDkp hD [(ad 0), (ad 4), (ad 13), (ad 39), (ad 40)] rfl rfl
          exact W.iret (v := r_29) hx hb hr (fun t ht2 hW => ⟨⟨r_29, (u_30, u_17, u_18, u_19, u_31), rfl, Option.some.inj h, by rw [ht2]; exact hP, hD⟩, hS.F ht2⟩) hS.2.2 dX11_act_123 hlocks
        · have h := zk_f c_39 h
          by_cases c_40 : x2 = (3 : Int32)
          · have h := zk_t c_40 h
            refine lv_tableIn (tgt := 124) hx hb dX11_act_44 (by rw [c_40]; decide) (by rw [c_40]; decide) (by rw [c_40]; rfl) (by decide) ?_
            refine lv_aload_n hx hb dX11_act_124 rfl (lv_at hl 1 rfl) ?_
            refine va_get (D := D) (ci := 11) (v := .ref (ad 39)) (C := RX11) (T := TX11) (N := 11) hx hb ht iX11 hown hK hP 0 rfl rfl 7 (by decide) (ht _ kw_703) (fun _ h9 => h9) rfl dX11_act_125 ?_
            refine lv_aload_n hx hb dX11_act_128 rfl (lv_at hl 1 rfl) ?_
            refine va_get (D := D) (ci := 11) (v := .ref (ad 39)) (C := RX11) (T := TX11) (N := 11) hx hb ht iX11 hown hK hP 0 rfl rfl 7 (by decide) (ht _ kw_703) (fun _ h9 => h9) rfl dX11_act_129 ?_
            refine va_get (D := D) (ci := 0) (v := .int u_17) (C := RX0) (T := TX0) (N := 5) hx hb ht iX0 hown hK hP 3 rfl rfl 2 (by decide) (ht _ kw_458) (fun _ h9 => h9) rfl dX11_act_132 ?_
            refine lv_iload_n hx hb dX11_act_135 rfl (lv_at hl 4 rfl) ?_
            obtain ⟨r_33, u_34, u_35, hc_36, h⟩ := zk_o3 h
            refine zz_niQ (post := (fun r u => (r, u) = (r_33, u_34, u_35))) (w1 := fun u => (wl_X0_tells ad cs u.1 u_17 u_18 u_19 u.2)) (As := [.int u_17, .int x3]) (rest := []) (((cg_grp141 l 7)) D cs ad  H.size u_17 x3 u_16 u_17 u_18 u_19 acts_bodies (r_33, u_34, u_35) hc_36) ⟨hx, hb, hml, hown, ht⟩ (⟨va_cnB 2 ht g_X11_350 rfl rfl rfl (zOn (q := (RX11, 350, yX0_tells)) hO 12 rfl) (ht _ kw_84) hd_X0_tells ⟨Nat.le_of_ble_eq_true rfl, Nat.le_of_ble_eq_true rfl⟩, ht _ kw_1235, ht _ kw_15⟩) (va_recv hK hP (ci := 0) (q0 := 3) rfl rfl) hP hD hS hK hA [3, 4] rfl rfl [(ad 39), (ad 40)] rfl (fun _ => rfl) rfl hl.1 (Nat.le_of_ble_eq_true rfl) dX11_act_136 ⟨Nat.zero_le _, Nat.zero_le _⟩ (fun r u H locs hq hP hS => ?_)
            cases hq
            have hP : va_P D classes (wl_X11_act ad cs PL S_a S_b court_shoeCount court_claimCount court_suitCount court_suits u_34 u_17 u_18 u_19 u_35 S_who S_against S_kind S_won S_day S_land S_undoneFrom S_asked S_askedCount S_askedBits S_first S_foundSo S_foundNot S_fought S_needed) H := hP
            have hD : va_D A (wl_X11_act ad cs PL S_a S_b court_shoeCount court_claimCount court_suitCount court_suits u_34 u_17 u_18 u_19 u_35 S_who S_against S_kind S_won S_day S_land S_undoneFrom S_asked S_askedCount S_askedBits S_first S_foundSo S_foundNot S_fought S_needed) := zDkp hD [(ad 0), (ad 4), (ad 13), (ad 39), (ad 40)] rfl rfl
            exact W.iret (v := r_33) hx hb hr (fun t ht2 hW => ⟨⟨r_33, (u_34, u_17, u_18, u_19, u_35), rfl, Option.some.inj h, by rw [ht2]; exact hP, hD⟩, hS.F ht2⟩) hS.2.2 dX11_act_139 hlocks
          · have h := zk_f c_40 h
            refine lv_tableOut (tgt := 140) hx hb dX11_act_44 (zk_out (lo := 0) (hi := 3) [(0 : Int32), (1 : Int32), (2 : Int32), (3 : Int32)] (by decide +kernel) (List.forall_mem_cons.mpr ⟨c_37, List.forall_mem_cons.mpr ⟨c_38, List.forall_mem_cons.mpr ⟨c_39, List.forall_mem_cons.mpr ⟨c_40, fun _ h => absurd h List.not_mem_nil⟩⟩⟩⟩)) (by decide) ?_
            refine lv_iconst (v := (0 : Int32)) hx hb dX11_act_140 (by decide) ?_
            exact W.iret (v := (0 : Int32)) hx hb hr (fun t ht2 hW => ⟨⟨(0 : Int32), (u_16, u_17, u_18, u_19, acts_bodies), rfl, Option.some.inj h, by rw [ht2]; exact hP, hD⟩, hS.F ht2⟩) hS.2.2 dX11_act_141 hlocks
set_option maxHeartbeats 4000000 in
set_option maxRecDepth 100000 in
theorem c_X11_act (l : Launch) (D : va_G) (cs : Nat → ClassId) (ad : Nat → Nat) (PL : va_W) (S_a : Nat → Nat) (S_b : Nat → Nat) (sz : Nat) (x1 : Int32) (x2 : Int32) (x3 : Int32) (court_shoeCount : Int32) (court_claimCount : Int32) (court_suitCount : Int32) (court_suits : Nat → Option Nat) (acts_ran : Int32) (acts_kind : Int32) (acts_number : Int32) (acts_claims : Int32) (acts_bodies : Nat → Int32) (S_who : Nat → Int32) (S_against : Nat → Int32) (S_kind : Nat → Int32) (S_won : Nat → Int32) (S_day : Nat → Int32) (S_land : Nat → Int32) (S_undoneFrom : Nat → Int32) (S_asked : Nat → Nat → Int32) (S_askedCount : Nat → Int32) (S_askedBits : Nat → Int32) (S_first : Nat → Int32) (S_foundSo : Nat → Int32) (S_foundNot : Nat → Int32) (S_fought : Nat → Int32) (S_needed : Nat → Int32) (hSU : PSu cs PL court_suitCount court_suits S_a S_b S_who S_against S_kind S_won S_day S_land S_undoneFrom S_asked S_askedCount S_askedBits S_first S_foundSo S_foundNot S_fought S_needed) (R : Int32 × Int32 × Int32 × Int32 × Int32 × (Nat → Int32)) (h : f_X11_act   x1 x2 x3 court_shoeCount court_claimCount court_suitCount court_suits acts_ran acts_kind acts_number acts_claims acts_bodies S_who S_against S_kind S_won S_day S_land S_undoneFrom S_asked S_askedCount S_askedBits S_first S_foundSo S_foundNot S_fought S_needed = some R) : Met l yX11_act (z_X11_act) rm_X11_act (va_Pc [.ref (ad 0), .int x1, .int x2, .int x3] (zPreO D cs (wl_X11_act ad cs PL S_a S_b court_shoeCount court_claimCount court_suitCount court_suits acts_ran acts_kind acts_number acts_claims acts_bodies S_who S_against S_kind S_won S_day S_land S_undoneFrom S_asked S_askedCount S_askedBits S_first S_foundSo S_foundNot S_fought S_needed) sz)) (Q_X11_act D cs ad PL S_a S_b court_shoeCount court_claimCount court_suitCount court_suits S_who S_against S_kind S_won S_day S_land S_undoneFrom S_asked S_askedCount S_askedBits S_first S_foundSo S_foundNot S_fought S_needed (va_A (wl_X11_act ad cs PL S_a S_b court_shoeCount court_claimCount court_suitCount court_suits acts_ran acts_kind acts_number acts_claims acts_bodies S_who S_against S_kind S_won S_day S_land S_undoneFrom S_asked S_askedCount S_askedBits S_first S_foundSo S_foundNot S_fought S_needed) sz) R) 0 0 (va_A (wl_X11_act ad cs PL S_a S_b court_shoeCount court_claimCount court_suitCount court_suits acts_ran acts_kind acts_number acts_claims acts_bodies S_who S_against S_kind S_won S_day S_land S_undoneFrom S_asked S_askedCount S_askedBits S_first S_foundSo S_foundNot S_fought S_needed) sz) := by
  refine Met.ofW (cc := cX11_act) (maxL := 5) (ret := (some .int)) (by decide) rfl ?_
  intro p e s m args below meth c s₁ B hml hv
  obtain ⟨rfl, ⟨hsz, hP, hK, hD0⟩, hO⟩ := hv
  subst hsz
  have hD := hD0.self (sz := s.heap.size)
  have C0 : zC p s m _ meth c cX11_act 5 (some .int) RX11 zW := ⟨B.exec, B.bytes, B.returns, hml, findClass_of_methodNamed B.named, fun w hw => atoms_spec (ws := z_X11_act) B.pre w (List.mem_cons_of_mem _ hw), B.notSynchronized⟩
  have hA : ∀ q : Nat, s.heap.size ≤ q → va_A (wl_X11_act ad cs PL S_a S_b court_shoeCount court_claimCount court_suitCount court_suits acts_ran acts_kind acts_number acts_claims acts_bodies S_who S_against S_kind S_won S_day S_land S_undoneFrom S_asked S_askedCount S_askedBits S_first S_foundSo S_foundNot S_fought S_needed) s.heap.size q := fun q h => Or.inr h
  have hl := lv_entry ([.ref (ad 0), .int x1, .int x2, .int x3]) (n := 5) (Nat.le_of_ble_eq_true rfl)
  rw [lg_entry_eq]
  generalize (lg_sl ([.ref (ad 0), .int x1, .int x2, .int x3]) ++ List.replicate (5 - (lg_sl ([.ref (ad 0), .int x1, .int x2, .int x3])).length) Slot.unset).toArray = ls at hl ⊢
  exact L_X11_act_0 C0 hK hO hA hSU   x1 x2 x3 acts_ran acts_kind acts_number acts_claims acts_bodies h s.heap [] ls hP hD va_S.rf hl
theorem kw_454 : Cond.fieldLink RX11 353 "AlreadyJudged$Acts" "bodies" "[I" ∈ zW := zwC (i := 140) zc_2 rfl rfl
theorem zh_cX11_trace_0 : zck [27, 155, 0, 32, 27, 42, 180, 0, 65, 180, 1, 72, 162, 0, 21, 27, 16, 24, 162, 0, 15, 42] (zdu 0 cX11_trace.data.toList) = true := by decide +kernel
theorem dX11_trace_0 : decode cX11_trace 0 = .ok (.iload_n 1, 1) := zo_27 zh_cX11_trace_0 0 rfl
theorem dX11_trace_1 : decode cX11_trace 1 = .ok (.ifCond .lt 32, 3) := zo_p155 zh_cX11_trace_0 1 32 rfl rfl
theorem dX11_trace_4 : decode cX11_trace 4 = .ok (.iload_n 1, 1) := zo_27 zh_cX11_trace_0 4 rfl
theorem dX11_trace_5 : decode cX11_trace 5 = .ok (.aload_n 0, 1) := zo_42 zh_cX11_trace_0 5 rfl
theorem dX11_trace_6 : decode cX11_trace 6 = .ok (.getfield 65, 3) := zo_180 zh_cX11_trace_0 6 rfl
theorem dX11_trace_9 : decode cX11_trace 9 = .ok (.getfield 328, 3) := zo_180 zh_cX11_trace_0 9 rfl
theorem dX11_trace_12 : decode cX11_trace 12 = .ok (.if_icmp .ge 21, 3) := zo_p162 zh_cX11_trace_0 12 21 rfl rfl
theorem dX11_trace_15 : decode cX11_trace 15 = .ok (.iload_n 1, 1) := zo_27 zh_cX11_trace_0 15 rfl
theorem dX11_trace_16 : decode cX11_trace 16 = .ok (.bipush 24, 2) := zo_p16 zh_cX11_trace_0 16 24 rfl rfl
theorem dX11_trace_18 : decode cX11_trace 18 = .ok (.if_icmp .ge 15, 3) := zo_p162 zh_cX11_trace_0 18 15 rfl rfl
theorem zh_cX11_trace_1 : zck [15, 42, 180, 0, 65, 180, 1, 97, 27, 46, 167, 0, 4, 2, 172] (zdu 20 cX11_trace.data.toList) = true := by decide +kernel
theorem dX11_trace_21 : decode cX11_trace 21 = .ok (.aload_n 0, 1) := zo_42 zh_cX11_trace_1 1 rfl
theorem dX11_trace_22 : decode cX11_trace 22 = .ok (.getfield 65, 3) := zo_180 zh_cX11_trace_1 2 rfl
theorem dX11_trace_25 : decode cX11_trace 25 = .ok (.getfield 353, 3) := zo_180 zh_cX11_trace_1 5 rfl
theorem dX11_trace_28 : decode cX11_trace 28 = .ok (.iload_n 1, 1) := zo_27 zh_cX11_trace_1 8 rfl
theorem dX11_trace_29 : decode cX11_trace 29 = .ok (.iaload, 1) := zo_46 zh_cX11_trace_1 9 rfl
theorem dX11_trace_30 : decode cX11_trace 30 = .ok (.goto 4, 3) := zo_p167 zh_cX11_trace_1 10 4 rfl rfl
theorem dX11_trace_33 : decode cX11_trace 33 = .ok (.iconst (-1), 1) := zo_2 zh_cX11_trace_1 13 rfl
theorem dX11_trace_34 : decode cX11_trace 34 = .ok (.ireturn, 1) := zo_172 zh_cX11_trace_1 14 rfl
abbrev z_X11_trace : List Cond := .code yX11_trace cX11_trace 2 (some .int) :: zW
abbrev wl_X11_trace (ad : Nat → Nat) (cs : Nat → ClassId)  (acts_ran : Int32) (acts_kind : Int32) (acts_number : Int32) (acts_claims : Int32) (acts_bodies : Nat → Int32) : va_W := [((ad 0), .inr (11, [.ref (ad 4), .ref (ad 15), .ref (ad 23), .ref (ad 25), .ref (ad 26), .ref (ad 28), .ref (ad 34), .ref (ad 39), .ref (ad 1), .ref (ad 2), .ref (ad 3)])), ((ad 39), .inr (0, [.ref (ad 40), .int acts_ran, .int acts_kind, .int acts_number, .int acts_claims])), ((ad 40), .inl (cs 0, 24, .inl acts_bodies))]
def Q_X11_trace (D : va_G) (cs : Nat → ClassId) (ad : Nat → Nat)  (acts_ran : Int32) (acts_kind : Int32) (acts_number : Int32) (acts_claims : Int32) (acts_bodies : Nat → Int32) (A : Nat → Prop) (R : Int32 × Unit) : Array Value → State → Outcome → State → Prop :=
  va_Qi (fun (r : Int32) (u : Unit) => (r, u) = R) (fun (u : Unit) (t : State) => va_P D classes (wl_X11_trace ad cs acts_ran acts_kind acts_number acts_claims acts_bodies) t.heap ∧ va_D A (wl_X11_trace ad cs acts_ran acts_kind acts_number acts_claims acts_bodies)) A
abbrev rm_X11_trace : Room := { frames := 0, cells := 0, slots := 0, locals := 0 }
def B_X11_trace_0    (acts_ran : Int32) (acts_kind : Int32) (acts_number : Int32) (acts_claims : Int32) (acts_bodies : Nat → Int32) (x1 : Int32) : Option (Int32 × Unit) :=
  (if x1 < 0 then (some ((-1 : Int32), ())) else (if acts_ran ≤ x1 then (some ((-1 : Int32), ())) else (if (24 : Int32) ≤ x1 then (some ((-1 : Int32), ())) else (if (x1 < 0 ∨ 24 ≤ x1.toNatClampNeg) then none else (some (acts_bodies x1.toNatClampNeg, ()))))))
def f_X11_trace   (x1 : Int32) (acts_ran : Int32) (acts_kind : Int32) (acts_number : Int32) (acts_claims : Int32) (acts_bodies : Nat → Int32) : Option (Int32 × Unit) := B_X11_trace_0   acts_ran acts_kind acts_number acts_claims acts_bodies x1 
set_option maxHeartbeats 4000000 in
set_option maxRecDepth 100000 in
theorem L_X11_trace_0 {p : Program} {l : Launch} {e : Env} {s : State} {m : MethodId} {args : Array Value} {below : List Frame} {meth : Method} {c : Code} {A : Nat → Prop} {D : va_G} {cs : Nat → ClassId} {ad : Nat → Nat} {acts_ran : Int32} {acts_kind : Int32} {acts_number : Int32} {acts_claims : Int32} {acts_bodies : Nat → Int32} {R : Int32 × Unit} (C0 : zC p s m args meth c cX11_trace 2 (some .int) RX11 zW) (hK : va_K D classes (zT cs) s) (hA : ∀ q : Nat, s.heap.size ≤ q → A q) (x1 : Int32) (h : B_X11_trace_0 acts_ran acts_kind acts_number acts_claims acts_bodies x1 = some R) (H : Heap) (locs : List Loc) (ls : Array Slot) (hP : va_P D classes (wl_X11_trace ad cs acts_ran acts_kind acts_number acts_claims acts_bodies) H) (hD : va_D A (wl_X11_trace ad cs acts_ran acts_kind acts_number acts_claims acts_bodies)) (hS : va_S A s.heap H locs) (hl : lv_has ls 2 [(0, .ref (ad 0)), (1, .int x1)]) : W p l e rm_X11_trace s m args below meth c H locs 0 0 (MQ below (Q_X11_trace D cs ad acts_ran acts_kind acts_number acts_claims acts_bodies A R) args s 0 0 A) (F0 m 0 ls []) := by
  obtain ⟨hx, hb, hr, hml, hown, ht, hlocks⟩ := id C0
  refine lv_iload_n hx hb dX11_trace_0 rfl (lv_at hl 1 rfl) ?_
  refine lv_if_lt (tgt := 33) hx hb dX11_trace_1 (by decide) (fun c_1 => ?_) (fun c_1 => ?_)
  · have h := zk_t c_1 h
    refine lv_iconst (v := (-1 : Int32)) hx hb dX11_trace_33 (by decide) ?_
    exact W.iret (v := (-1 : Int32)) hx hb hr (fun t ht2 hW => ⟨⟨(-1 : Int32), (), rfl, Option.some.inj h, by rw [ht2]; exact hP, hD⟩, hS.F ht2⟩) hS.2.2 dX11_trace_34 hlocks
  · have h := zk_f c_1 h
    refine lv_iload_n hx hb dX11_trace_4 rfl (lv_at hl 1 rfl) ?_
    refine lv_aload_n hx hb dX11_trace_5 rfl (lv_at hl 0 rfl) ?_
    refine va_get (D := D) (ci := 11) (v := .ref (ad 39)) (C := RX11) (T := TX11) (N := 11) hx hb ht iX11 hown hK hP 0 rfl rfl 7 (by decide) (ht _ kw_703) (fun _ h9 => h9) rfl dX11_trace_6 ?_
    refine va_get (D := D) (ci := 0) (v := .int acts_ran) (C := RX0) (T := TX0) (N := 5) hx hb ht iX0 hown hK hP 1 rfl rfl 1 (by decide) (ht _ kw_456) (fun _ h9 => h9) rfl dX11_trace_9 ?_
    refine lv_icmp_ge (tgt := 33) hx hb dX11_trace_12 (by decide) (fun c_2 => ?_) (fun c_2 => ?_)
    · have h := zk_t c_2 h
      refine lv_iconst (v := (-1 : Int32)) hx hb dX11_trace_33 (by decide) ?_
      exact W.iret (v := (-1 : Int32)) hx hb hr (fun t ht2 hW => ⟨⟨(-1 : Int32), (), rfl, Option.some.inj h, by rw [ht2]; exact hP, hD⟩, hS.F ht2⟩) hS.2.2 dX11_trace_34 hlocks
    · have h := zk_f c_2 h
      refine lv_iload_n hx hb dX11_trace_15 rfl (lv_at hl 1 rfl) ?_
      refine lv_bipush (v := (24 : Int32)) hx hb dX11_trace_16 (by decide) ?_
      refine lv_icmp_ge (tgt := 33) hx hb dX11_trace_18 (by decide) (fun c_3 => ?_) (fun c_3 => ?_)
      · have h := zk_t c_3 h
        refine lv_iconst (v := (-1 : Int32)) hx hb dX11_trace_33 (by decide) ?_
        exact W.iret (v := (-1 : Int32)) hx hb hr (fun t ht2 hW => ⟨⟨(-1 : Int32), (), rfl, Option.some.inj h, by rw [ht2]; exact hP, hD⟩, hS.F ht2⟩) hS.2.2 dX11_trace_34 hlocks
      · have h := zk_f c_3 h
        refine lv_aload_n hx hb dX11_trace_21 rfl (lv_at hl 0 rfl) ?_
        refine va_get (D := D) (ci := 11) (v := .ref (ad 39)) (C := RX11) (T := TX11) (N := 11) hx hb ht iX11 hown hK hP 0 rfl rfl 7 (by decide) (ht _ kw_703) (fun _ h9 => h9) rfl dX11_trace_22 ?_
        refine va_get (D := D) (ci := 0) (v := .ref (ad 40)) (C := RX0) (T := TX0) (N := 5) hx hb ht iX0 hown hK hP 1 rfl rfl 0 (by decide) (ht _ kw_454) (fun _ h9 => h9) rfl dX11_trace_25 ?_
        refine lv_iload_n hx hb dX11_trace_28 rfl (lv_at hl 1 rfl) ?_
        obtain ⟨g_4, h⟩ := zk_gd h
        refine va_iald hx hb hK hP 2 0 rfl rfl g_4 dX11_trace_29 ?_
        refine lv_goto (tgt := 34) hx hb dX11_trace_30 (by decide) ?_
        exact W.iret (v := acts_bodies x1.toNatClampNeg) hx hb hr (fun t ht2 hW => ⟨⟨acts_bodies x1.toNatClampNeg, (), rfl, Option.some.inj h, by rw [ht2]; exact hP, hD⟩, hS.F ht2⟩) hS.2.2 dX11_trace_34 hlocks
set_option maxHeartbeats 4000000 in
set_option maxRecDepth 100000 in
theorem c_X11_trace (l : Launch) (D : va_G) (cs : Nat → ClassId) (ad : Nat → Nat) (sz : Nat) (x1 : Int32) (acts_ran : Int32) (acts_kind : Int32) (acts_number : Int32) (acts_claims : Int32) (acts_bodies : Nat → Int32) (R : Int32 × Unit) (h : f_X11_trace   x1 acts_ran acts_kind acts_number acts_claims acts_bodies = some R) : Met l yX11_trace (z_X11_trace) rm_X11_trace (va_Pc [.ref (ad 0), .int x1] (zPre D cs (wl_X11_trace ad cs acts_ran acts_kind acts_number acts_claims acts_bodies) sz)) (Q_X11_trace D cs ad acts_ran acts_kind acts_number acts_claims acts_bodies (va_A (wl_X11_trace ad cs acts_ran acts_kind acts_number acts_claims acts_bodies) sz) R) 0 0 (va_A (wl_X11_trace ad cs acts_ran acts_kind acts_number acts_claims acts_bodies) sz) := by
  refine Met.ofW (cc := cX11_trace) (maxL := 2) (ret := (some .int)) (by decide) rfl ?_
  intro p e s m args below meth c s₁ B hml hv
  obtain ⟨rfl, hsz, hP, hK, hD0⟩ := hv
  subst hsz
  have hD := hD0.self (sz := s.heap.size)
  have C0 : zC p s m _ meth c cX11_trace 2 (some .int) RX11 zW := ⟨B.exec, B.bytes, B.returns, hml, findClass_of_methodNamed B.named, fun w hw => atoms_spec (ws := z_X11_trace) B.pre w (List.mem_cons_of_mem _ hw), B.notSynchronized⟩
  have hA : ∀ q : Nat, s.heap.size ≤ q → va_A (wl_X11_trace ad cs acts_ran acts_kind acts_number acts_claims acts_bodies) s.heap.size q := fun q h => Or.inr h
  have hl := lv_entry ([.ref (ad 0), .int x1]) (n := 2) (Nat.le_of_ble_eq_true rfl)
  rw [lg_entry_eq]
  generalize (lg_sl ([.ref (ad 0), .int x1]) ++ List.replicate (2 - (lg_sl ([.ref (ad 0), .int x1])).length) Slot.unset).toArray = ls at hl ⊢
  exact L_X11_trace_0 C0 hK hA   x1  h s.heap [] ls hP hD va_S.rf hl
theorem kw_682 : Cond.fieldLink RX11 356 "AlreadyJudged$Place" "suit" "I" ∈ zW := zwC (i := 128) zc_3 rfl rfl
theorem zh_cX11_keep_0 : zck [42, 27, 182, 0, 111, 78, 45, 198, 0, 19, 28, 2, 159, 0, 16, 42, 180, 0, 10, 28, 182, 0] (zdu 0 cX11_keep.data.toList) = true := by decide +kernel
theorem dX11_keep_0 : decode cX11_keep 0 = .ok (.aload_n 0, 1) := zo_42 zh_cX11_keep_0 0 rfl
theorem dX11_keep_1 : decode cX11_keep 1 = .ok (.iload_n 1, 1) := zo_27 zh_cX11_keep_0 1 rfl
theorem dX11_keep_2 : decode cX11_keep 2 = .ok (.invokevirtual 111, 3) := zo_182 zh_cX11_keep_0 2 rfl
theorem dX11_keep_5 : decode cX11_keep 5 = .ok (.astore_n 3, 1) := zo_78 zh_cX11_keep_0 5 rfl
theorem dX11_keep_6 : decode cX11_keep 6 = .ok (.aload_n 3, 1) := zo_45 zh_cX11_keep_0 6 rfl
theorem dX11_keep_7 : decode cX11_keep 7 = .ok (.ifnull 19, 3) := zo_p198 zh_cX11_keep_0 7 19 rfl rfl
theorem dX11_keep_10 : decode cX11_keep 10 = .ok (.iload_n 2, 1) := zo_28 zh_cX11_keep_0 10 rfl
theorem dX11_keep_11 : decode cX11_keep 11 = .ok (.iconst (-1), 1) := zo_2 zh_cX11_keep_0 11 rfl
theorem dX11_keep_12 : decode cX11_keep 12 = .ok (.if_icmp .eq 16, 3) := zo_p159 zh_cX11_keep_0 12 16 rfl rfl
theorem dX11_keep_15 : decode cX11_keep 15 = .ok (.aload_n 0, 1) := zo_42 zh_cX11_keep_0 15 rfl
theorem dX11_keep_16 : decode cX11_keep 16 = .ok (.getfield 10, 3) := zo_180 zh_cX11_keep_0 16 rfl
theorem dX11_keep_19 : decode cX11_keep 19 = .ok (.iload_n 2, 1) := zo_28 zh_cX11_keep_0 19 rfl
theorem zh_cX11_keep_1 : zck [182, 0, 207, 199, 0, 5, 2, 172, 45, 28, 2, 160, 0, 7, 2, 167, 0, 4, 8, 181, 0, 115] (zdu 20 cX11_keep.data.toList) = true := by decide +kernel
theorem dX11_keep_20 : decode cX11_keep 20 = .ok (.invokevirtual 207, 3) := zo_182 zh_cX11_keep_1 0 rfl
theorem dX11_keep_23 : decode cX11_keep 23 = .ok (.ifnonnull 5, 3) := zo_p199 zh_cX11_keep_1 3 5 rfl rfl
theorem dX11_keep_26 : decode cX11_keep 26 = .ok (.iconst (-1), 1) := zo_2 zh_cX11_keep_1 6 rfl
theorem dX11_keep_27 : decode cX11_keep 27 = .ok (.ireturn, 1) := zo_172 zh_cX11_keep_1 7 rfl
theorem dX11_keep_28 : decode cX11_keep 28 = .ok (.aload_n 3, 1) := zo_45 zh_cX11_keep_1 8 rfl
theorem dX11_keep_29 : decode cX11_keep 29 = .ok (.iload_n 2, 1) := zo_28 zh_cX11_keep_1 9 rfl
theorem dX11_keep_30 : decode cX11_keep 30 = .ok (.iconst (-1), 1) := zo_2 zh_cX11_keep_1 10 rfl
theorem dX11_keep_31 : decode cX11_keep 31 = .ok (.if_icmp .ne 7, 3) := zo_p160 zh_cX11_keep_1 11 7 rfl rfl
theorem dX11_keep_34 : decode cX11_keep 34 = .ok (.iconst (-1), 1) := zo_2 zh_cX11_keep_1 14 rfl
theorem dX11_keep_35 : decode cX11_keep 35 = .ok (.goto 4, 3) := zo_p167 zh_cX11_keep_1 15 4 rfl rfl
theorem dX11_keep_38 : decode cX11_keep 38 = .ok (.iconst 5, 1) := zo_8 zh_cX11_keep_1 18 rfl
theorem dX11_keep_39 : decode cX11_keep 39 = .ok (.putfield 115, 3) := zo_181 zh_cX11_keep_1 19 rfl
theorem zh_cX11_keep_2 : zck [0, 115, 45, 28, 181, 1, 100, 4, 172] (zdu 40 cX11_keep.data.toList) = true := by decide +kernel
theorem dX11_keep_42 : decode cX11_keep 42 = .ok (.aload_n 3, 1) := zo_45 zh_cX11_keep_2 2 rfl
theorem dX11_keep_43 : decode cX11_keep 43 = .ok (.iload_n 2, 1) := zo_28 zh_cX11_keep_2 3 rfl
theorem dX11_keep_44 : decode cX11_keep 44 = .ok (.putfield 356, 3) := zo_181 zh_cX11_keep_2 4 rfl
theorem dX11_keep_47 : decode cX11_keep 47 = .ok (.iconst 1, 1) := zo_4 zh_cX11_keep_2 7 rfl
theorem dX11_keep_48 : decode cX11_keep 48 = .ok (.ireturn, 1) := zo_172 zh_cX11_keep_2 8 rfl
abbrev z_X11_keep : List Cond := .code yX11_keep cX11_keep 4 (some .int) :: zW
abbrev wx_X11_keep (ad : Nat → Nat) (cs : Nat → ClassId) (PL : va_W) (S_a : Nat → Nat) (S_b : Nat → Nat) (h_pl : Nat) (h_pl_elements : Nat) (root_places : Nat → Option Nat) (court_shoeCount : Int32) (court_claimCount : Int32) (court_suitCount : Int32) (court_suits : Nat → Option Nat) (pl_holds : Int32) (pl_suit : Int32) (pl_size : Int32) (S_who : Nat → Int32) (S_against : Nat → Int32) (S_kind : Nat → Int32) (S_won : Nat → Int32) (S_day : Nat → Int32) (S_land : Nat → Int32) (S_undoneFrom : Nat → Int32) (S_asked : Nat → Nat → Int32) (S_askedCount : Nat → Int32) (S_askedBits : Nat → Int32) (S_first : Nat → Int32) (S_foundSo : Nat → Int32) (S_foundNot : Nat → Int32) (S_fought : Nat → Int32) (S_needed : Nat → Int32) : va_W := [((ad 0), .inr (11, [.ref (ad 4), .ref (ad 15), .ref (ad 23), .ref (ad 25), .ref (ad 26), .ref (ad 28), .ref (ad 34), .ref (ad 39), .ref (ad 1), .ref (ad 2), .ref (ad 3)])), ((ad 1), .inl (cs 7, 6, .inr (.inr (.inr (.inr root_places))))), ((ad 4), .inr (2, [.ref (ad 5), .ref (ad 6), .ref (ad 7), .ref (ad 8), .ref (ad 9), .ref (ad 10), .ref (ad 11), .ref (ad 12), .ref (ad 13), .ref (ad 14), .int court_shoeCount, .int court_claimCount, .int court_suitCount])), ((ad 13), .inl (cs 5, 40, .inr (.inr (.inr (.inr court_suits))))), (h_pl, .inr (6, [.int pl_holds, .int pl_suit, .int pl_size, .ref h_pl_elements]))]
abbrev wl_X11_keep (ad : Nat → Nat) (cs : Nat → ClassId) (PL : va_W) (S_a : Nat → Nat) (S_b : Nat → Nat) (h_pl : Nat) (h_pl_elements : Nat) (root_places : Nat → Option Nat) (court_shoeCount : Int32) (court_claimCount : Int32) (court_suitCount : Int32) (court_suits : Nat → Option Nat) (pl_holds : Int32) (pl_suit : Int32) (pl_size : Int32) (S_who : Nat → Int32) (S_against : Nat → Int32) (S_kind : Nat → Int32) (S_won : Nat → Int32) (S_day : Nat → Int32) (S_land : Nat → Int32) (S_undoneFrom : Nat → Int32) (S_asked : Nat → Nat → Int32) (S_askedCount : Nat → Int32) (S_askedBits : Nat → Int32) (S_first : Nat → Int32) (S_foundSo : Nat → Int32) (S_foundNot : Nat → Int32) (S_fought : Nat → Int32) (S_needed : Nat → Int32) : va_W := wx_X11_keep ad cs PL S_a S_b h_pl h_pl_elements root_places court_shoeCount court_claimCount court_suitCount court_suits pl_holds pl_suit pl_size S_who S_against S_kind S_won S_day S_land S_undoneFrom S_asked S_askedCount S_askedBits S_first S_foundSo S_foundNot S_fought S_needed ++ PL
def Q_X11_keep (D : va_G) (cs : Nat → ClassId) (ad : Nat → Nat) (PL : va_W) (S_a : Nat → Nat) (S_b : Nat → Nat) (h_pl : Nat) (h_pl_elements : Nat) (root_places : Nat → Option Nat) (court_shoeCount : Int32) (court_claimCount : Int32) (court_suitCount : Int32) (court_suits : Nat → Option Nat) (pl_size : Int32) (S_who : Nat → Int32) (S_against : Nat → Int32) (S_kind : Nat → Int32) (S_won : Nat → Int32) (S_day : Nat → Int32) (S_land : Nat → Int32) (S_undoneFrom : Nat → Int32) (S_asked : Nat → Nat → Int32) (S_askedCount : Nat → Int32) (S_askedBits : Nat → Int32) (S_first : Nat → Int32) (S_foundSo : Nat → Int32) (S_foundNot : Nat → Int32) (S_fought : Nat → Int32) (S_needed : Nat → Int32) (A : Nat → Prop) (R : Int32 × Int32 × Int32) : Array Value → State → Outcome → State → Prop :=
  va_Qi (fun (r : Int32) (u : Int32 × Int32) => (r, u) = R) (fun (u : Int32 × Int32) (t : State) => va_P D classes (wl_X11_keep ad cs PL S_a S_b h_pl h_pl_elements root_places court_shoeCount court_claimCount court_suitCount court_suits u.1 u.2 pl_size S_who S_against S_kind S_won S_day S_land S_undoneFrom S_asked S_askedCount S_askedBits S_first S_foundSo S_foundNot S_fought S_needed) t.heap ∧ va_D A (wl_X11_keep ad cs PL S_a S_b h_pl h_pl_elements root_places court_shoeCount court_claimCount court_suitCount court_suits u.1 u.2 pl_size S_who S_against S_kind S_won S_day S_land S_undoneFrom S_asked S_askedCount S_askedBits S_first S_foundSo S_foundNot S_fought S_needed)) A
abbrev rm_X11_keep : Room := { frames := 1, cells := 0, slots := 0, locals := 21 }
def B_X11_keep_39 (h_pl : Nat)   (root_places : Nat → Option Nat) (court_shoeCount : Int32) (court_claimCount : Int32) (court_suitCount : Int32) (court_suits : Nat → Option Nat) (pl_size : Int32) (S_who : Nat → Int32) (S_against : Nat → Int32) (S_kind : Nat → Int32) (S_won : Nat → Int32) (S_day : Nat → Int32) (S_land : Nat → Int32) (S_undoneFrom : Nat → Int32) (S_asked : Nat → Nat → Int32) (S_askedCount : Nat → Int32) (S_askedBits : Nat → Int32) (S_first : Nat → Int32) (S_foundSo : Nat → Int32) (S_foundNot : Nat → Int32) (S_fought : Nat → Int32) (S_needed : Nat → Int32) (x2 : Int32) (s0 : Int32) (pl_holds : Int32) (pl_suit : Int32) : Option (Int32 × Int32 × Int32) :=
  (some ((1 : Int32), s0, x2))
def B_X11_keep_28 (h_pl : Nat)   (root_places : Nat → Option Nat) (court_shoeCount : Int32) (court_claimCount : Int32) (court_suitCount : Int32) (court_suits : Nat → Option Nat) (pl_size : Int32) (S_who : Nat → Int32) (S_against : Nat → Int32) (S_kind : Nat → Int32) (S_won : Nat → Int32) (S_day : Nat → Int32) (S_land : Nat → Int32) (S_undoneFrom : Nat → Int32) (S_asked : Nat → Nat → Int32) (S_askedCount : Nat → Int32) (S_askedBits : Nat → Int32) (S_first : Nat → Int32) (S_foundSo : Nat → Int32) (S_foundNot : Nat → Int32) (S_fought : Nat → Int32) (S_needed : Nat → Int32) (x2 : Int32) (pl_holds : Int32) (pl_suit : Int32) : Option (Int32 × Int32 × Int32) :=
  (if x2 = (-1 : Int32) then (B_X11_keep_39 h_pl root_places court_shoeCount court_claimCount court_suitCount court_suits pl_size S_who S_against S_kind S_won S_day S_land S_undoneFrom S_asked S_askedCount S_askedBits S_first S_foundSo S_foundNot S_fought S_needed x2 (-1 : Int32) pl_holds pl_suit) else (B_X11_keep_39 h_pl root_places court_shoeCount court_claimCount court_suitCount court_suits pl_size S_who S_against S_kind S_won S_day S_land S_undoneFrom S_asked S_askedCount S_askedBits S_first S_foundSo S_foundNot S_fought S_needed x2 (5 : Int32) pl_holds pl_suit))
def B_X11_keep_0 (h_pl : Nat)   (root_places : Nat → Option Nat) (court_shoeCount : Int32) (court_claimCount : Int32) (court_suitCount : Int32) (court_suits : Nat → Option Nat) (pl_size : Int32) (S_who : Nat → Int32) (S_against : Nat → Int32) (S_kind : Nat → Int32) (S_won : Nat → Int32) (S_day : Nat → Int32) (S_land : Nat → Int32) (S_undoneFrom : Nat → Int32) (S_asked : Nat → Nat → Int32) (S_askedCount : Nat → Int32) (S_askedBits : Nat → Int32) (S_first : Nat → Int32) (S_foundSo : Nat → Int32) (S_foundNot : Nat → Int32) (S_fought : Nat → Int32) (S_needed : Nat → Int32) (x1 : Int32) (x2 : Int32) (pl_holds : Int32) (pl_suit : Int32) : Option (Int32 × Int32 × Int32) :=
  (zk_b2 (f_X11_placeAt h_pl x1 root_places pl_holds pl_suit pl_size) (fun r_1 u_2 => (if r_1 = true then (if x2 = (-1 : Int32) then (B_X11_keep_28 h_pl root_places court_shoeCount court_claimCount court_suitCount court_suits pl_size S_who S_against S_kind S_won S_day S_land S_undoneFrom S_asked S_askedCount S_askedBits S_first S_foundSo S_foundNot S_fought S_needed x2 pl_holds pl_suit) else (zk_b2 (f_X2_suitAt x2 court_shoeCount court_claimCount court_suitCount court_suits S_who S_against S_kind S_won S_day S_land S_undoneFrom S_asked S_askedCount S_askedBits S_first S_foundSo S_foundNot S_fought S_needed) (fun r_6 u_7 => (if r_6 < 0 then (some ((-1 : Int32), pl_holds, pl_suit)) else (B_X11_keep_28 h_pl root_places court_shoeCount court_claimCount court_suitCount court_suits pl_size S_who S_against S_kind S_won S_day S_land S_undoneFrom S_asked S_askedCount S_askedBits S_first S_foundSo S_foundNot S_fought S_needed x2 pl_holds pl_suit))))) else (some ((-1 : Int32), pl_holds, pl_suit)))))
def f_X11_keep (h_pl : Nat)  (x1 : Int32) (x2 : Int32) (root_places : Nat → Option Nat) (court_shoeCount : Int32) (court_claimCount : Int32) (court_suitCount : Int32) (court_suits : Nat → Option Nat) (pl_holds : Int32) (pl_suit : Int32) (pl_size : Int32) (S_who : Nat → Int32) (S_against : Nat → Int32) (S_kind : Nat → Int32) (S_won : Nat → Int32) (S_day : Nat → Int32) (S_land : Nat → Int32) (S_undoneFrom : Nat → Int32) (S_asked : Nat → Nat → Int32) (S_askedCount : Nat → Int32) (S_askedBits : Nat → Int32) (S_first : Nat → Int32) (S_foundSo : Nat → Int32) (S_foundNot : Nat → Int32) (S_fought : Nat → Int32) (S_needed : Nat → Int32) : Option (Int32 × Int32 × Int32) := B_X11_keep_0 h_pl  root_places court_shoeCount court_claimCount court_suitCount court_suits pl_size S_who S_against S_kind S_won S_day S_land S_undoneFrom S_asked S_askedCount S_askedBits S_first S_foundSo S_foundNot S_fought S_needed x1 x2 pl_holds pl_suit
set_option maxHeartbeats 4000000 in
set_option maxRecDepth 100000 in
theorem L_X11_keep_39 {p : Program} {l : Launch} {e : Env} {s : State} {m : MethodId} {args : Array Value} {below : List Frame} {meth : Method} {c : Code} {A : Nat → Prop} {D : va_G} {cs : Nat → ClassId} {ad : Nat → Nat} {PL : va_W} {S_a : Nat → Nat} {S_b : Nat → Nat} {h_pl : Nat} {h_pl_elements : Nat} {root_places : Nat → Option Nat} {court_shoeCount : Int32} {court_claimCount : Int32} {court_suitCount : Int32} {court_suits : Nat → Option Nat} {pl_size : Int32} {S_who : Nat → Int32} {S_against : Nat → Int32} {S_kind : Nat → Int32} {S_won : Nat → Int32} {S_day : Nat → Int32} {S_land : Nat → Int32} {S_undoneFrom : Nat → Int32} {S_asked : Nat → Nat → Int32} {S_askedCount : Nat → Int32} {S_askedBits : Nat → Int32} {S_first : Nat → Int32} {S_foundSo : Nat → Int32} {S_foundNot : Nat → Int32} {S_fought : Nat → Int32} {S_needed : Nat → Int32} {R : Int32 × Int32 × Int32} (C0 : zC p s m args meth c cX11_keep 4 (some .int) RX11 zW) (hK : va_K D classes (zT cs) s) (hA : ∀ q : Nat, s.heap.size ≤ q → A q) (hSU : PSu cs PL court_suitCount court_suits S_a S_b S_who S_against S_kind S_won S_day S_land S_undoneFrom S_asked S_askedCount S_askedBits S_first S_foundSo S_foundNot S_fought S_needed) (x2 : Int32) (s0 : Int32) (pl_holds : Int32) (pl_suit : Int32) (h : B_X11_keep_39 h_pl root_places court_shoeCount court_claimCount court_suitCount court_suits pl_size S_who S_against S_kind S_won S_day S_land S_undoneFrom S_asked S_askedCount S_askedBits S_first S_foundSo S_foundNot S_fought S_needed x2 s0 pl_holds pl_suit = some R) (H : Heap) (locs : List Loc) (ls : Array Slot) (hP : va_P D classes (wl_X11_keep ad cs PL S_a S_b h_pl h_pl_elements root_places court_shoeCount court_claimCount court_suitCount court_suits pl_holds pl_suit pl_size S_who S_against S_kind S_won S_day S_land S_undoneFrom S_asked S_askedCount S_askedBits S_first S_foundSo S_foundNot S_fought S_needed) H) (hD : va_D A (wl_X11_keep ad cs PL S_a S_b h_pl h_pl_elements root_places court_shoeCount court_claimCount court_suitCount court_suits pl_holds pl_suit pl_size S_who S_against S_kind S_won S_day S_land S_undoneFrom S_asked S_askedCount S_askedBits S_first S_foundSo S_foundNot S_fought S_needed)) (hS : va_S A s.heap H locs) (hl : lv_has ls 4 [(2, .int x2), (3, .ref h_pl)]) : W p l e rm_X11_keep s m args below meth c H locs 0 0 (MQ below (Q_X11_keep D cs ad PL S_a S_b h_pl h_pl_elements root_places court_shoeCount court_claimCount court_suitCount court_suits pl_size S_who S_against S_kind S_won S_day S_land S_undoneFrom S_asked S_askedCount S_askedBits S_first S_foundSo S_foundNot S_fought S_needed A R) args s 0 0 A) (F0 m 39 ls [.int s0, .ref h_pl]) := by
  obtain ⟨hx, hb, hr, hml, hown, ht, hlocks⟩ := id C0
  refine va_put (D := D) (ci := 6) (v := .int s0) (ty := .int) (C := RX6) (T := TX6) (N := 4) hx hb ht iX6 tyX6 tyX6_ok nmX6 hown hK hP hD hS 4 rfl rfl 0 (by decide) (ht _ kw_681) (fun _ h9 => h9) rfl (by decide +kernel) rfl rfl (Nat.le_of_ble_eq_true rfl) dX11_keep_39 (fun H locs hP hD hS => ?_)
  have hP : va_P D classes (wl_X11_keep ad cs PL S_a S_b h_pl h_pl_elements root_places court_shoeCount court_claimCount court_suitCount court_suits s0 pl_suit pl_size S_who S_against S_kind S_won S_day S_land S_undoneFrom S_asked S_askedCount S_askedBits S_first S_foundSo S_foundNot S_fought S_needed) H := hP
  have hD : va_D A (wl_X11_keep ad cs PL S_a S_b h_pl h_pl_elements root_places court_shoeCount court_claimCount court_suitCount court_suits s0 pl_suit pl_size S_who S_against S_kind S_won S_day S_land S_undoneFrom S_asked S_askedCount S_askedBits S_first S_foundSo S_foundNot S_fought S_needed) := hD
  refine lv_aload_n hx hb dX11_keep_42 rfl (lv_at hl 1 rfl) ?_
  refine lv_iload_n hx hb dX11_keep_43 rfl (lv_at hl 0 rfl) ?_
  refine va_put (D := D) (ci := 6) (v := .int x2) (ty := .int) (C := RX6) (T := TX6) (N := 4) hx hb ht iX6 tyX6 tyX6_ok nmX6 hown hK hP hD hS 4 rfl rfl 1 (by decide) (ht _ kw_682) (fun _ h9 => h9) rfl (by decide +kernel) rfl rfl (Nat.le_of_ble_eq_true rfl) dX11_keep_44 (fun H locs hP hD hS => ?_)
  have hP : va_P D classes (wl_X11_keep ad cs PL S_a S_b h_pl h_pl_elements root_places court_shoeCount court_claimCount court_suitCount court_suits s0 x2 pl_size S_who S_against S_kind S_won S_day S_land S_undoneFrom S_asked S_askedCount S_askedBits S_first S_foundSo S_foundNot S_fought S_needed) H := hP
  have hD : va_D A (wl_X11_keep ad cs PL S_a S_b h_pl h_pl_elements root_places court_shoeCount court_claimCount court_suitCount court_suits s0 x2 pl_size S_who S_against S_kind S_won S_day S_land S_undoneFrom S_asked S_askedCount S_askedBits S_first S_foundSo S_foundNot S_fought S_needed) := hD
  refine lv_iconst (v := (1 : Int32)) hx hb dX11_keep_47 (by decide) ?_
  exact W.iret (v := (1 : Int32)) hx hb hr (fun t ht2 hW => ⟨⟨(1 : Int32), (s0, x2), rfl, Option.some.inj h, by rw [ht2]; exact hP, hD⟩, hS.F ht2⟩) hS.2.2 dX11_keep_48 hlocks
set_option maxHeartbeats 4000000 in
set_option maxRecDepth 100000 in
theorem L_X11_keep_28 {p : Program} {l : Launch} {e : Env} {s : State} {m : MethodId} {args : Array Value} {below : List Frame} {meth : Method} {c : Code} {A : Nat → Prop} {D : va_G} {cs : Nat → ClassId} {ad : Nat → Nat} {PL : va_W} {S_a : Nat → Nat} {S_b : Nat → Nat} {h_pl : Nat} {h_pl_elements : Nat} {root_places : Nat → Option Nat} {court_shoeCount : Int32} {court_claimCount : Int32} {court_suitCount : Int32} {court_suits : Nat → Option Nat} {pl_size : Int32} {S_who : Nat → Int32} {S_against : Nat → Int32} {S_kind : Nat → Int32} {S_won : Nat → Int32} {S_day : Nat → Int32} {S_land : Nat → Int32} {S_undoneFrom : Nat → Int32} {S_asked : Nat → Nat → Int32} {S_askedCount : Nat → Int32} {S_askedBits : Nat → Int32} {S_first : Nat → Int32} {S_foundSo : Nat → Int32} {S_foundNot : Nat → Int32} {S_fought : Nat → Int32} {S_needed : Nat → Int32} {R : Int32 × Int32 × Int32} (C0 : zC p s m args meth c cX11_keep 4 (some .int) RX11 zW) (hK : va_K D classes (zT cs) s) (hA : ∀ q : Nat, s.heap.size ≤ q → A q) (hSU : PSu cs PL court_suitCount court_suits S_a S_b S_who S_against S_kind S_won S_day S_land S_undoneFrom S_asked S_askedCount S_askedBits S_first S_foundSo S_foundNot S_fought S_needed) (x2 : Int32) (pl_holds : Int32) (pl_suit : Int32) (h : B_X11_keep_28 h_pl root_places court_shoeCount court_claimCount court_suitCount court_suits pl_size S_who S_against S_kind S_won S_day S_land S_undoneFrom S_asked S_askedCount S_askedBits S_first S_foundSo S_foundNot S_fought S_needed x2 pl_holds pl_suit = some R) (H : Heap) (locs : List Loc) (ls : Array Slot) (hP : va_P D classes (wl_X11_keep ad cs PL S_a S_b h_pl h_pl_elements root_places court_shoeCount court_claimCount court_suitCount court_suits pl_holds pl_suit pl_size S_who S_against S_kind S_won S_day S_land S_undoneFrom S_asked S_askedCount S_askedBits S_first S_foundSo S_foundNot S_fought S_needed) H) (hD : va_D A (wl_X11_keep ad cs PL S_a S_b h_pl h_pl_elements root_places court_shoeCount court_claimCount court_suitCount court_suits pl_holds pl_suit pl_size S_who S_against S_kind S_won S_day S_land S_undoneFrom S_asked S_askedCount S_askedBits S_first S_foundSo S_foundNot S_fought S_needed)) (hS : va_S A s.heap H locs) (hl : lv_has ls 4 [(2, .int x2), (3, .ref h_pl)]) : W p l e rm_X11_keep s m args below meth c H locs 0 0 (MQ below (Q_X11_keep D cs ad PL S_a S_b h_pl h_pl_elements root_places court_shoeCount court_claimCount court_suitCount court_suits pl_size S_who S_against S_kind S_won S_day S_land S_undoneFrom S_asked S_askedCount S_askedBits S_first S_foundSo S_foundNot S_fought S_needed A R) args s 0 0 A) (F0 m 28 ls []) := by
  obtain ⟨hx, hb, hr, hml, hown, ht, hlocks⟩ := id C0
  refine lv_aload_n hx hb dX11_keep_28 rfl (lv_at hl 1 rfl) ?_
  refine lv_iload_n hx hb dX11_keep_29 rfl (lv_at hl 0 rfl) ?_
  refine lv_iconst (v := (-1 : Int32)) hx hb dX11_keep_30 (by decide) ?_
  refine lv_icmp_ne (tgt := 38) hx hb dX11_keep_31 (by decide) (fun c_10 => ?_) (fun c_10 => ?_)
  · have h := zk_f c_10 h
    refine lv_iconst (v := (5 : Int32)) hx hb dX11_keep_38 (by decide) ?_
    exact L_X11_keep_39 C0 hK hA hSU   x2 (5 : Int32) pl_holds pl_suit h H locs ls hP hD hS (lv_sub hl [0, 1] rfl)
  · have h := zk_t c_10 h
    refine lv_iconst (v := (-1 : Int32)) hx hb dX11_keep_34 (by decide) ?_
    refine lv_goto (tgt := 39) hx hb dX11_keep_35 (by decide) ?_
    exact L_X11_keep_39 C0 hK hA hSU   x2 (-1 : Int32) pl_holds pl_suit h H locs ls hP hD hS (lv_sub hl [0, 1] rfl)
set_option maxHeartbeats 4000000 in
set_option maxRecDepth 100000 in
theorem L_X11_keep_0 {p : Program} {l : Launch} {e : Env} {s : State} {m : MethodId} {args : Array Value} {below : List Frame} {meth : Method} {c : Code} {A : Nat → Prop} {D : va_G} {cs : Nat → ClassId} {ad : Nat → Nat} {PL : va_W} {S_a : Nat → Nat} {S_b : Nat → Nat} {h_pl : Nat} {h_pl_elements : Nat} {root_places : Nat → Option Nat} {court_shoeCount : Int32} {court_claimCount : Int32} {court_suitCount : Int32} {court_suits : Nat → Option Nat} {pl_size : Int32} {S_who : Nat → Int32} {S_against : Nat → Int32} {S_kind : Nat → Int32} {S_won : Nat → Int32} {S_day : Nat → Int32} {S_land : Nat → Int32} {S_undoneFrom : Nat → Int32} {S_asked : Nat → Nat → Int32} {S_askedCount : Nat → Int32} {S_askedBits : Nat → Int32} {S_first : Nat → Int32} {S_foundSo : Nat → Int32} {S_foundNot : Nat → Int32} {S_fought : Nat → Int32} {S_needed : Nat → Int32} {R : Int32 × Int32 × Int32} (C0 : zC p s m args meth c cX11_keep 4 (some .int) RX11 zW) (hK : va_K D classes (zT cs) s) (hA : ∀ q : Nat, s.heap.size ≤ q → A q) (hSU : PSu cs PL court_suitCount court_suits S_a S_b S_who S_against S_kind S_won S_day S_land S_undoneFrom S_asked S_askedCount S_askedBits S_first S_foundSo S_foundNot S_fought S_needed) (x1 : Int32) (x2 : Int32) (pl_holds : Int32) (pl_suit : Int32) (h : B_X11_keep_0 h_pl root_places court_shoeCount court_claimCount court_suitCount court_suits pl_size S_who S_against S_kind S_won S_day S_land S_undoneFrom S_asked S_askedCount S_askedBits S_first S_foundSo S_foundNot S_fought S_needed x1 x2 pl_holds pl_suit = some R) (H : Heap) (locs : List Loc) (ls : Array Slot) (hP : va_P D classes (wl_X11_keep ad cs PL S_a S_b h_pl h_pl_elements root_places court_shoeCount court_claimCount court_suitCount court_suits pl_holds pl_suit pl_size S_who S_against S_kind S_won S_day S_land S_undoneFrom S_asked S_askedCount S_askedBits S_first S_foundSo S_foundNot S_fought S_needed) H) (hD : va_D A (wl_X11_keep ad cs PL S_a S_b h_pl h_pl_elements root_places court_shoeCount court_claimCount court_suitCount court_suits pl_holds pl_suit pl_size S_who S_against S_kind S_won S_day S_land S_undoneFrom S_asked S_askedCount S_askedBits S_first S_foundSo S_foundNot S_fought S_needed)) (hS : va_S A s.heap H locs) (hl : lv_has ls 4 [(0, .ref (ad 0)), (1, .int x1), (2, .int x2)]) : W p l e rm_X11_keep s m args below meth c H locs 0 0 (MQ below (Q_X11_keep D cs ad PL S_a S_b h_pl h_pl_elements root_places court_shoeCount court_claimCount court_suitCount court_suits pl_size S_who S_against S_kind S_won S_day S_land S_undoneFrom S_asked S_askedCount S_askedBits S_first S_foundSo S_foundNot S_fought S_needed A R) args s 0 0 A) (F0 m 0 ls []) := by
  obtain ⟨hx, hb, hr, hml, hown, ht, hlocks⟩ := id C0
  refine lv_aload_n hx hb dX11_keep_0 rfl (lv_at hl 0 rfl) ?_
  refine lv_iload_n hx hb dX11_keep_1 rfl (lv_at hl 1 rfl) ?_
  obtain ⟨r_1, u_2, hc_3, h⟩ := zk_o2 h
  refine zz_vqQ (post := (fun r u => r = (if r_1 = true then some h_pl else none) ∧ u = (u_2))) (w1 := fun u => (wl_X11_placeAt ad cs h_pl h_pl_elements root_places pl_holds pl_suit pl_size)) (As := [.int x1]) (rest := []) (c_X11_placeAt l D cs ad h_pl h_pl_elements H.size x1 root_places pl_holds pl_suit pl_size (r_1, u_2) hc_3) ⟨hx, hb, hml, hown, ht⟩ (cwV 1 ht g_X11_111 rfl rfl rfl ⟨rfl, hd_X11_placeAt⟩ ⟨Nat.le_of_ble_eq_true rfl, Nat.le_of_ble_eq_true rfl⟩) (va_recv hK hP (ci := 11) (q0 := 0) rfl rfl) hP hD hS hK hA [0, 1, 4] rfl rfl [(ad 0), (ad 1), h_pl] rfl (fun _ => rfl) rfl hl.1 (Nat.le_of_ble_eq_true rfl) dX11_keep_2 ⟨Nat.zero_le _, Nat.zero_le _⟩ (fun r u H locs hq hP hS => ?_)
  obtain ⟨hq1, hq2⟩ := hq; cases hq2; subst hq1
  have hP : va_P D classes (wl_X11_keep ad cs PL S_a S_b h_pl h_pl_elements root_places court_shoeCount court_claimCount court_suitCount court_suits pl_holds pl_suit pl_size S_who S_against S_kind S_won S_day S_land S_undoneFrom S_asked S_askedCount S_askedBits S_first S_foundSo S_foundNot S_fought S_needed) H := hP
  have hD : va_D A (wl_X11_keep ad cs PL S_a S_b h_pl h_pl_elements root_places court_shoeCount court_claimCount court_suitCount court_suits pl_holds pl_suit pl_size S_who S_against S_kind S_won S_day S_land S_undoneFrom S_asked S_askedCount S_askedBits S_first S_foundSo S_foundNot S_fought S_needed) := zDkp hD [(ad 0), (ad 1), (ad 4), (ad 13), h_pl] rfl rfl
  by_cases c_4 : r_1 = true
  · have h := zk_t c_4 h
    refine W.eq (g2 := F0 m 5 ls [.ref h_pl]) (by rw [if_pos c_4]; rfl) ?_
    refine lv_astore_n (lv' := [(3, .ref h_pl), (0, .ref (ad 0)), (1, .int x1), (2, .int x2)]) hx hb dX11_keep_5 rfl hl (by decide) rfl (fun ls hl => ?_)
    refine lv_aload_n hx hb dX11_keep_6 rfl (lv_at hl 0 rfl) ?_
    refine lv_ifnull hx hb dX11_keep_7 ?_
    refine lv_iload_n hx hb dX11_keep_10 rfl (lv_at hl 3 rfl) ?_
    refine lv_iconst (v := (-1 : Int32)) hx hb dX11_keep_11 (by decide) ?_
    refine lv_icmp_eq (tgt := 28) hx hb dX11_keep_12 (by decide) (fun c_5 => ?_) (fun c_5 => ?_)
    · have h := zk_t c_5 h
      exact L_X11_keep_28 C0 hK hA hSU   x2 pl_holds pl_suit h H locs ls hP hD hS (lv_sub hl [3, 0] rfl)
    · have h := zk_f c_5 h
      refine lv_aload_n hx hb dX11_keep_15 rfl (lv_at hl 1 rfl) ?_
      refine va_get (D := D) (ci := 11) (v := .ref (ad 4)) (C := RX11) (T := TX11) (N := 11) hx hb ht iX11 hown hK hP 0 rfl rfl 0 (by decide) (ht _ kw_696) (fun _ h9 => h9) rfl dX11_keep_16 ?_
      refine lv_iload_n hx hb dX11_keep_19 rfl (lv_at hl 3 rfl) ?_
      obtain ⟨r_6, u_7, hc_8, h⟩ := zk_o2 h
      refine zz_vqP (post := (fun r u => r = (if r_6 < 0 then none else some (S_a r_6.toNatClampNeg)) ∧ u = (u_7))) (w1 := fun u => (wx_X2_suitAt ad cs PL S_a S_b court_shoeCount court_claimCount court_suitCount court_suits S_who S_against S_kind S_won S_day S_land S_undoneFrom S_asked S_askedCount S_askedBits S_first S_foundSo S_foundNot S_fought S_needed)) (PL := PL) (As := [.int x2]) (rest := []) (c_X2_suitAt l D cs ad PL S_a S_b H.size x2 court_shoeCount court_claimCount court_suitCount court_suits S_who S_against S_kind S_won S_day S_land S_undoneFrom S_asked S_askedCount S_askedBits S_first S_foundSo S_foundNot S_fought S_needed hSU (r_6, u_7) hc_8) ⟨hx, hb, hml, hown, ht⟩ (cwV 1 ht g_X11_207 rfl rfl rfl ⟨rfl, hd_X2_suitAt⟩ ⟨Nat.le_of_ble_eq_true rfl, Nat.le_of_ble_eq_true rfl⟩) (va_recv hK hP (ci := 2) (q0 := 2) rfl rfl) hP hD hS hK hA [2, 3] rfl rfl [(ad 4), (ad 13)] rfl (fun _ => rfl) rfl hl.1 (Nat.le_of_ble_eq_true rfl) dX11_keep_20 ⟨Nat.zero_le _, Nat.zero_le _⟩ (fun r u H locs hq hP hS => ?_)
      obtain ⟨hq1, hq2⟩ := hq; cases hq2; subst hq1
      have hP : va_P D classes (wl_X11_keep ad cs PL S_a S_b h_pl h_pl_elements root_places court_shoeCount court_claimCount court_suitCount court_suits pl_holds pl_suit pl_size S_who S_against S_kind S_won S_day S_land S_undoneFrom S_asked S_askedCount S_askedBits S_first S_foundSo S_foundNot S_fought S_needed) H := hP
      have hD : va_D A (wl_X11_keep ad cs PL S_a S_b h_pl h_pl_elements root_places court_shoeCount court_claimCount court_suitCount court_suits pl_holds pl_suit pl_size S_who S_against S_kind S_won S_day S_land S_undoneFrom S_asked S_askedCount S_askedBits S_first S_foundSo S_foundNot S_fought S_needed) := zDkp hD [(ad 0), (ad 1), (ad 4), (ad 13), h_pl] rfl rfl
      by_cases c_9 : r_6 < 0
      · have h := zk_t c_9 h
        refine W.eq (g2 := F0 m 23 ls [.null]) (by rw [if_pos c_9]; rfl) ?_
        refine lv_ifnonnullN hx hb dX11_keep_23 ?_
        refine lv_iconst (v := (-1 : Int32)) hx hb dX11_keep_26 (by decide) ?_
        exact W.iret (v := (-1 : Int32)) hx hb hr (fun t ht2 hW => ⟨⟨(-1 : Int32), (pl_holds, pl_suit), rfl, Option.some.inj h, by rw [ht2]; exact hP, hD⟩, hS.F ht2⟩) hS.2.2 dX11_keep_27 hlocks
      · have h := zk_f c_9 h
        refine W.eq (g2 := F0 m 23 ls [.ref (S_a r_6.toNatClampNeg)]) (by rw [if_neg c_9]; rfl) ?_
        refine lv_ifnonnull (tgt := 28) hx hb dX11_keep_23 (by decide) ?_
        exact L_X11_keep_28 C0 hK hA hSU   x2 pl_holds pl_suit h H locs ls hP hD hS (lv_sub hl [3, 0] rfl)
  · have h := zk_f c_4 h
    refine W.eq (g2 := F0 m 5 ls [.null]) (by rw [if_neg c_4]; rfl) ?_
    refine lv_astore_nN (lv' := [(3, .null), (0, .ref (ad 0)), (1, .int x1), (2, .int x2)]) hx hb dX11_keep_5 rfl hl (by decide) rfl (fun ls hl => ?_)
    refine lv_aload_nN hx hb dX11_keep_6 rfl (lv_at hl 0 rfl) ?_
    refine lv_ifnullN (tgt := 26) hx hb dX11_keep_7 (by decide) ?_
    refine lv_iconst (v := (-1 : Int32)) hx hb dX11_keep_26 (by decide) ?_
    exact W.iret (v := (-1 : Int32)) hx hb hr (fun t ht2 hW => ⟨⟨(-1 : Int32), (pl_holds, pl_suit), rfl, Option.some.inj h, by rw [ht2]; exact hP, hD⟩, hS.F ht2⟩) hS.2.2 dX11_keep_27 hlocks
set_option maxHeartbeats 4000000 in
set_option maxRecDepth 100000 in
theorem c_X11_keep (l : Launch) (D : va_G) (cs : Nat → ClassId) (ad : Nat → Nat) (PL : va_W) (S_a : Nat → Nat) (S_b : Nat → Nat) (h_pl : Nat) (h_pl_elements : Nat) (sz : Nat) (x1 : Int32) (x2 : Int32) (root_places : Nat → Option Nat) (court_shoeCount : Int32) (court_claimCount : Int32) (court_suitCount : Int32) (court_suits : Nat → Option Nat) (pl_holds : Int32) (pl_suit : Int32) (pl_size : Int32) (S_who : Nat → Int32) (S_against : Nat → Int32) (S_kind : Nat → Int32) (S_won : Nat → Int32) (S_day : Nat → Int32) (S_land : Nat → Int32) (S_undoneFrom : Nat → Int32) (S_asked : Nat → Nat → Int32) (S_askedCount : Nat → Int32) (S_askedBits : Nat → Int32) (S_first : Nat → Int32) (S_foundSo : Nat → Int32) (S_foundNot : Nat → Int32) (S_fought : Nat → Int32) (S_needed : Nat → Int32) (hSU : PSu cs PL court_suitCount court_suits S_a S_b S_who S_against S_kind S_won S_day S_land S_undoneFrom S_asked S_askedCount S_askedBits S_first S_foundSo S_foundNot S_fought S_needed) (R : Int32 × Int32 × Int32) (h : f_X11_keep h_pl  x1 x2 root_places court_shoeCount court_claimCount court_suitCount court_suits pl_holds pl_suit pl_size S_who S_against S_kind S_won S_day S_land S_undoneFrom S_asked S_askedCount S_askedBits S_first S_foundSo S_foundNot S_fought S_needed = some R) : Met l yX11_keep (z_X11_keep) rm_X11_keep (va_Pc [.ref (ad 0), .int x1, .int x2] (zPre D cs (wl_X11_keep ad cs PL S_a S_b h_pl h_pl_elements root_places court_shoeCount court_claimCount court_suitCount court_suits pl_holds pl_suit pl_size S_who S_against S_kind S_won S_day S_land S_undoneFrom S_asked S_askedCount S_askedBits S_first S_foundSo S_foundNot S_fought S_needed) sz)) (Q_X11_keep D cs ad PL S_a S_b h_pl h_pl_elements root_places court_shoeCount court_claimCount court_suitCount court_suits pl_size S_who S_against S_kind S_won S_day S_land S_undoneFrom S_asked S_askedCount S_askedBits S_first S_foundSo S_foundNot S_fought S_needed (va_A (wl_X11_keep ad cs PL S_a S_b h_pl h_pl_elements root_places court_shoeCount court_claimCount court_suitCount court_suits pl_holds pl_suit pl_size S_who S_against S_kind S_won S_day S_land S_undoneFrom S_asked S_askedCount S_askedBits S_first S_foundSo S_foundNot S_fought S_needed) sz) R) 0 0 (va_A (wl_X11_keep ad cs PL S_a S_b h_pl h_pl_elements root_places court_shoeCount court_claimCount court_suitCount court_suits pl_holds pl_suit pl_size S_who S_against S_kind S_won S_day S_land S_undoneFrom S_asked S_askedCount S_askedBits S_first S_foundSo S_foundNot S_fought S_needed) sz) := by
  refine Met.ofW (cc := cX11_keep) (maxL := 4) (ret := (some .int)) (by decide) rfl ?_
  intro p e s m args below meth c s₁ B hml hv
  obtain ⟨rfl, hsz, hP, hK, hD0⟩ := hv
  subst hsz
  have hD := hD0.self (sz := s.heap.size)
  have C0 : zC p s m _ meth c cX11_keep 4 (some .int) RX11 zW := ⟨B.exec, B.bytes, B.returns, hml, findClass_of_methodNamed B.named, fun w hw => atoms_spec (ws := z_X11_keep) B.pre w (List.mem_cons_of_mem _ hw), B.notSynchronized⟩
  have hA : ∀ q : Nat, s.heap.size ≤ q → va_A (wl_X11_keep ad cs PL S_a S_b h_pl h_pl_elements root_places court_shoeCount court_claimCount court_suitCount court_suits pl_holds pl_suit pl_size S_who S_against S_kind S_won S_day S_land S_undoneFrom S_asked S_askedCount S_askedBits S_first S_foundSo S_foundNot S_fought S_needed) s.heap.size q := fun q h => Or.inr h
  have hl := lv_entry ([.ref (ad 0), .int x1, .int x2]) (n := 4) (Nat.le_of_ble_eq_true rfl)
  rw [lg_entry_eq]
  generalize (lg_sl ([.ref (ad 0), .int x1, .int x2]) ++ List.replicate (4 - (lg_sl ([.ref (ad 0), .int x1, .int x2])).length) Slot.unset).toArray = ls at hl ⊢
  exact L_X11_keep_0 C0 hK hA hSU   x1 x2 pl_holds pl_suit h s.heap [] ls hP hD va_S.rf hl
theorem kw_1250 : Cond.methodLink RX11 359 yX6_becomeRow ∈ zW := zwC (i := 216) zc_5 rfl rfl
theorem kw_1251 : Cond.instanceMethod yX6_becomeRow ∈ zW := zwC (i := 217) zc_5 rfl rfl
theorem kw_1252 : Cond.selects RX6 yX6_becomeRow yX6_becomeRow ∈ zW := zwC (i := 218) zc_5 rfl rfl
theorem kw_1253 : Cond.code yX6_becomeRow cX6_becomeRow 3 none ∈ zW := zwC (i := 219) zc_5 rfl rfl
theorem zh_cX11_row_0 : zck [42, 27, 182, 0, 111, 58, 4, 25, 4, 198, 0, 18, 28, 155, 0, 14, 28, 7, 163, 0, 9, 29] (zdu 0 cX11_row.data.toList) = true := by decide +kernel
theorem dX11_row_0 : decode cX11_row 0 = .ok (.aload_n 0, 1) := zo_42 zh_cX11_row_0 0 rfl
theorem dX11_row_1 : decode cX11_row 1 = .ok (.iload_n 1, 1) := zo_27 zh_cX11_row_0 1 rfl
theorem dX11_row_2 : decode cX11_row 2 = .ok (.invokevirtual 111, 3) := zo_182 zh_cX11_row_0 2 rfl
theorem dX11_row_5 : decode cX11_row 5 = .ok (.astore 4, 2) := zo_58 zh_cX11_row_0 5 rfl
theorem dX11_row_7 : decode cX11_row 7 = .ok (.aload 4, 2) := zo_25 zh_cX11_row_0 7 rfl
theorem dX11_row_9 : decode cX11_row 9 = .ok (.ifnull 18, 3) := zo_p198 zh_cX11_row_0 9 18 rfl rfl
theorem dX11_row_12 : decode cX11_row 12 = .ok (.iload_n 2, 1) := zo_28 zh_cX11_row_0 12 rfl
theorem dX11_row_13 : decode cX11_row 13 = .ok (.ifCond .lt 14, 3) := zo_p155 zh_cX11_row_0 13 14 rfl rfl
theorem dX11_row_16 : decode cX11_row 16 = .ok (.iload_n 2, 1) := zo_28 zh_cX11_row_0 16 rfl
theorem dX11_row_17 : decode cX11_row 17 = .ok (.iconst 4, 1) := zo_7 zh_cX11_row_0 17 rfl
theorem dX11_row_18 : decode cX11_row 18 = .ok (.if_icmp .gt 9, 3) := zo_p163 zh_cX11_row_0 18 9 rfl rfl
theorem zh_cX11_row_1 : zck [9, 29, 16, 60, 164, 0, 5, 2, 172, 29, 156, 0, 6, 16, 242, 172, 25, 4, 28, 29, 182, 1] (zdu 20 cX11_row.data.toList) = true := by decide +kernel
theorem dX11_row_21 : decode cX11_row 21 = .ok (.iload_n 3, 1) := zo_29 zh_cX11_row_1 1 rfl
theorem dX11_row_22 : decode cX11_row 22 = .ok (.bipush 60, 2) := zo_p16 zh_cX11_row_1 2 60 rfl rfl
theorem dX11_row_24 : decode cX11_row 24 = .ok (.if_icmp .le 5, 3) := zo_p164 zh_cX11_row_1 4 5 rfl rfl
theorem dX11_row_27 : decode cX11_row 27 = .ok (.iconst (-1), 1) := zo_2 zh_cX11_row_1 7 rfl
theorem dX11_row_28 : decode cX11_row 28 = .ok (.ireturn, 1) := zo_172 zh_cX11_row_1 8 rfl
theorem dX11_row_29 : decode cX11_row 29 = .ok (.iload_n 3, 1) := zo_29 zh_cX11_row_1 9 rfl
theorem dX11_row_30 : decode cX11_row 30 = .ok (.ifCond .ge 6, 3) := zo_p156 zh_cX11_row_1 10 6 rfl rfl
theorem dX11_row_33 : decode cX11_row 33 = .ok (.bipush (-14), 2) := zo_n16 zh_cX11_row_1 13 13 rfl rfl
theorem dX11_row_35 : decode cX11_row 35 = .ok (.ireturn, 1) := zo_172 zh_cX11_row_1 15 rfl
theorem dX11_row_36 : decode cX11_row 36 = .ok (.aload 4, 2) := zo_25 zh_cX11_row_1 16 rfl
theorem dX11_row_38 : decode cX11_row 38 = .ok (.iload_n 2, 1) := zo_28 zh_cX11_row_1 18 rfl
theorem dX11_row_39 : decode cX11_row 39 = .ok (.iload_n 3, 1) := zo_29 zh_cX11_row_1 19 rfl
theorem zh_cX11_row_2 : zck [182, 1, 103, 4, 172] (zdu 40 cX11_row.data.toList) = true := by decide +kernel
theorem dX11_row_40 : decode cX11_row 40 = .ok (.invokevirtual 359, 3) := zo_182 zh_cX11_row_2 0 rfl
theorem dX11_row_43 : decode cX11_row 43 = .ok (.iconst 1, 1) := zo_4 zh_cX11_row_2 3 rfl
theorem dX11_row_44 : decode cX11_row 44 = .ok (.ireturn, 1) := zo_172 zh_cX11_row_2 4 rfl
abbrev z_X11_row : List Cond := .code yX11_row cX11_row 5 (some .int) :: zW
abbrev wl_X11_row (ad : Nat → Nat) (cs : Nat → ClassId) (h_pl : Nat) (h_pl_elements : Nat) (root_places : Nat → Option Nat) (pl_holds : Int32) (pl_suit : Int32) (pl_size : Int32) (pl_elements : Nat → Int64) : va_W := [((ad 0), .inr (11, [.ref (ad 4), .ref (ad 15), .ref (ad 23), .ref (ad 25), .ref (ad 26), .ref (ad 28), .ref (ad 34), .ref (ad 39), .ref (ad 1), .ref (ad 2), .ref (ad 3)])), ((ad 1), .inl (cs 7, 6, .inr (.inr (.inr (.inr root_places))))), (h_pl, .inr (6, [.int pl_holds, .int pl_suit, .int pl_size, .ref h_pl_elements])), (h_pl_elements, .inl (cs 1, 60, .inr (.inl pl_elements)))]
def Q_X11_row (D : va_G) (cs : Nat → ClassId) (ad : Nat → Nat) (h_pl : Nat) (h_pl_elements : Nat) (root_places : Nat → Option Nat) (pl_suit : Int32) (A : Nat → Prop) (R : Int32 × Int32 × Int32 × (Nat → Int64)) : Array Value → State → Outcome → State → Prop :=
  va_Qi (fun (r : Int32) (u : Int32 × Int32 × (Nat → Int64)) => (r, u) = R) (fun (u : Int32 × Int32 × (Nat → Int64)) (t : State) => va_P D classes (wl_X11_row ad cs h_pl h_pl_elements root_places u.1 pl_suit u.2.1 u.2.2) t.heap ∧ va_D A (wl_X11_row ad cs h_pl h_pl_elements root_places u.1 pl_suit u.2.1 u.2.2)) A
abbrev rm_X11_row : Room := { frames := 2, cells := 0, slots := 0, locals := 46 }
theorem g_X11_359 : GoodIn zW (wsV RX11 359 RX6 yX6_becomeRow z_X6_becomeRow) := zGV kw_1250 kw_1251 kw_1252 kw_94 kw_1253
theorem hd_X6_becomeRow : yX6_becomeRow.cls ≠ "java/lang/invoke/MethodHandle" ∧ yX6_becomeRow.cls ≠ "java/lang/invoke/VarHandle" ∧ (parseMethodDescriptor yX6_becomeRow.desc).map (fun d => d.parameters.length) = some 2 := by decide +kernel
def B_X11_row_0 (h_pl : Nat)   (root_places : Nat → Option Nat) (pl_suit : Int32) (x1 : Int32) (x2 : Int32) (x3 : Int32) (pl_holds : Int32) (pl_size : Int32) (pl_elements : Nat → Int64) : Option (Int32 × Int32 × Int32 × (Nat → Int64)) :=
  (zk_b2 (f_X11_placeAt h_pl x1 root_places pl_holds pl_suit pl_size) (fun r_1 u_2 => (if r_1 = true then (if x2 < 0 then (some ((-1 : Int32), pl_holds, pl_size, pl_elements)) else (if (4 : Int32) < x2 then (some ((-1 : Int32), pl_holds, pl_size, pl_elements)) else (if x3 ≤ (60 : Int32) then (if 0 ≤ x3 then (zk_b3 (f_X6_becomeRow x2 x3 pl_holds pl_suit pl_size pl_elements) (fun u_9 u_10 u_11 => (some ((1 : Int32), u_9, u_10, u_11)))) else (some ((-14 : Int32), pl_holds, pl_size, pl_elements))) else (some ((-1 : Int32), pl_holds, pl_size, pl_elements))))) else (some ((-1 : Int32), pl_holds, pl_size, pl_elements)))))
def f_X11_row (h_pl : Nat)  (x1 : Int32) (x2 : Int32) (x3 : Int32) (root_places : Nat → Option Nat) (pl_holds : Int32) (pl_suit : Int32) (pl_size : Int32) (pl_elements : Nat → Int64) : Option (Int32 × Int32 × Int32 × (Nat → Int64)) := B_X11_row_0 h_pl  root_places pl_suit x1 x2 x3 pl_holds pl_size pl_elements
set_option maxHeartbeats 4000000 in
set_option maxRecDepth 100000 in
theorem L_X11_row_0 {p : Program} {l : Launch} {e : Env} {s : State} {m : MethodId} {args : Array Value} {below : List Frame} {meth : Method} {c : Code} {A : Nat → Prop} {D : va_G} {cs : Nat → ClassId} {ad : Nat → Nat} {h_pl : Nat} {h_pl_elements : Nat} {root_places : Nat → Option Nat} {pl_suit : Int32} {R : Int32 × Int32 × Int32 × (Nat → Int64)} (C0 : zC p s m args meth c cX11_row 5 (some .int) RX11 zW) (hK : va_K D classes (zT cs) s) (hA : ∀ q : Nat, s.heap.size ≤ q → A q) (x1 : Int32) (x2 : Int32) (x3 : Int32) (pl_holds : Int32) (pl_size : Int32) (pl_elements : Nat → Int64) (h : B_X11_row_0 h_pl root_places pl_suit x1 x2 x3 pl_holds pl_size pl_elements = some R) (H : Heap) (locs : List Loc) (ls : Array Slot) (hP : va_P D classes (wl_X11_row ad cs h_pl h_pl_elements root_places pl_holds pl_suit pl_size pl_elements) H) (hD : va_D A (wl_X11_row ad cs h_pl h_pl_elements root_places pl_holds pl_suit pl_size pl_elements)) (hS : va_S A s.heap H locs) (hl : lv_has ls 5 [(0, .ref (ad 0)), (1, .int x1), (2, .int x2), (3, .int x3)]) : W p l e rm_X11_row s m args below meth c H locs 0 0 (MQ below (Q_X11_row D cs ad h_pl h_pl_elements root_places pl_suit A R) args s 0 0 A) (F0 m 0 ls []) := by
  obtain ⟨hx, hb, hr, hml, hown, ht, hlocks⟩ := id C0
  refine lv_aload_n hx hb dX11_row_0 rfl (lv_at hl 0 rfl) ?_
  refine lv_iload_n hx hb dX11_row_1 rfl (lv_at hl 1 rfl) ?_
  obtain ⟨r_1, u_2, hc_3, h⟩ := zk_o2 h
  refine zz_vq (post := (fun r u => r = (if r_1 = true then some h_pl else none) ∧ u = (u_2))) (w1 := fun u => (wl_X11_placeAt ad cs h_pl h_pl_elements root_places pl_holds pl_suit pl_size)) (As := [.int x1]) (rest := []) (c_X11_placeAt l D cs ad h_pl h_pl_elements H.size x1 root_places pl_holds pl_suit pl_size (r_1, u_2) hc_3) ⟨hx, hb, hml, hown, ht⟩ (cwV 1 ht g_X11_111 rfl rfl rfl ⟨rfl, hd_X11_placeAt⟩ ⟨Nat.le_of_ble_eq_true rfl, Nat.le_of_ble_eq_true rfl⟩) (va_recv hK hP (ci := 11) (q0 := 0) rfl rfl) hP hD hS hK hA [0, 1, 2] rfl rfl [(ad 0), (ad 1), h_pl] rfl (fun _ => rfl) rfl hl.1 (Nat.le_of_ble_eq_true rfl) dX11_row_2 ⟨Nat.zero_le _, Nat.zero_le _⟩ (fun r u H locs hq hP hS => ?_)
  obtain ⟨hq1, hq2⟩ := hq; cases hq2; subst hq1
  have hP : va_P D classes (wl_X11_row ad cs h_pl h_pl_elements root_places pl_holds pl_suit pl_size pl_elements) H := hP
  have hD : va_D A (wl_X11_row ad cs h_pl h_pl_elements root_places pl_holds pl_suit pl_size pl_elements) := zDk hD [(ad 0), (ad 1), h_pl, h_pl_elements] rfl rfl
  by_cases c_4 : r_1 = true
  · have h := zk_t c_4 h
    refine W.eq (g2 := F0 m 5 ls [.ref h_pl]) (by rw [if_pos c_4]; rfl) ?_
    refine lv_astore (lv' := [(4, .ref h_pl), (0, .ref (ad 0)), (1, .int x1), (2, .int x2), (3, .int x3)]) hx hb dX11_row_5 hl (by decide) rfl (fun ls hl => ?_)
    refine lv_aload hx hb dX11_row_7 (lv_at hl 0 rfl) ?_
    refine lv_ifnull hx hb dX11_row_9 ?_
    refine lv_iload_n hx hb dX11_row_12 rfl (lv_at hl 3 rfl) ?_
    refine lv_if_lt (tgt := 27) hx hb dX11_row_13 (by decide) (fun c_5 => ?_) (fun c_5 => ?_)
    · have h := zk_t c_5 h
      refine lv_iconst (v := (-1 : Int32)) hx hb dX11_row_27 (by decide) ?_
      exact W.iret (v := (-1 : Int32)) hx hb hr (fun t ht2 hW => ⟨⟨(-1 : Int32), (pl_holds, pl_size, pl_elements), rfl, Option.some.inj h, by rw [ht2]; exact hP, hD⟩, hS.F ht2⟩) hS.2.2 dX11_row_28 hlocks
    · have h := zk_f c_5 h
      refine lv_iload_n hx hb dX11_row_16 rfl (lv_at hl 3 rfl) ?_
      refine lv_iconst (v := (4 : Int32)) hx hb dX11_row_17 (by decide) ?_
      refine lv_icmp_gt (tgt := 27) hx hb dX11_row_18 (by decide) (fun c_6 => ?_) (fun c_6 => ?_)
      · have h := zk_t c_6 h
        refine lv_iconst (v := (-1 : Int32)) hx hb dX11_row_27 (by decide) ?_
        exact W.iret (v := (-1 : Int32)) hx hb hr (fun t ht2 hW => ⟨⟨(-1 : Int32), (pl_holds, pl_size, pl_elements), rfl, Option.some.inj h, by rw [ht2]; exact hP, hD⟩, hS.F ht2⟩) hS.2.2 dX11_row_28 hlocks
      · have h := zk_f c_6 h
        refine lv_iload_n hx hb dX11_row_21 rfl (lv_at hl 4 rfl) ?_
        refine lv_bipush (v := (60 : Int32)) hx hb dX11_row_22 (by decide) ?_
        refine lv_icmp_le (tgt := 29) hx hb dX11_row_24 (by decide) (fun c_7 => ?_) (fun c_7 => ?_)
        · have h := zk_t c_7 h
          refine lv_iload_n hx hb dX11_row_29 rfl (lv_at hl 4 rfl) ?_
          refine lv_if_ge (tgt := 36) hx hb dX11_row_30 (by decide) (fun c_8 => ?_) (fun c_8 => ?_)
          · have h := zk_t c_8 h
            refine lv_aload hx hb dX11_row_36 (lv_at hl 0 rfl) ?_
            refine lv_iload_n hx hb dX11_row_38 rfl (lv_at hl 3 rfl) ?_
            refine lv_iload_n hx hb dX11_row_39 rfl (lv_at hl 4 rfl) ?_
            obtain ⟨u_9, u_10, u_11, hc_12, h⟩ := zk_o3 h
            refine zz_vv (post := (fun u => u = (u_9, u_10, u_11))) (w1 := fun u => (wl_X6_becomeRow ad cs h_pl h_pl_elements u.1 pl_suit u.2.1 u.2.2)) (As := [.int x2, .int x3]) (rest := []) (c_X6_becomeRow l D cs ad h_pl h_pl_elements H.size x2 x3 pl_holds pl_suit pl_size pl_elements (u_9, u_10, u_11) hc_12) ⟨hx, hb, hml, hown, ht⟩ (cwV 2 ht g_X11_359 rfl rfl rfl ⟨rfl, hd_X6_becomeRow⟩ ⟨Nat.le_of_ble_eq_true rfl, Nat.le_of_ble_eq_true rfl⟩) (va_recv hK hP (ci := 6) (q0 := 2) rfl rfl) hP hD hS hK hA [2, 3] rfl rfl [h_pl, h_pl_elements] rfl (fun _ => rfl) rfl hl.1 (Nat.le_of_ble_eq_true rfl) dX11_row_40 ⟨Nat.zero_le _, Nat.zero_le _⟩ (fun u H locs hq hP hS => ?_)
            cases hq
            have hP : va_P D classes (wl_X11_row ad cs h_pl h_pl_elements root_places u_9 pl_suit u_10 u_11) H := hP
            have hD : va_D A (wl_X11_row ad cs h_pl h_pl_elements root_places u_9 pl_suit u_10 u_11) := zDk hD [(ad 0), (ad 1), h_pl, h_pl_elements] rfl rfl
            refine lv_iconst (v := (1 : Int32)) hx hb dX11_row_43 (by decide) ?_
            exact W.iret (v := (1 : Int32)) hx hb hr (fun t ht2 hW => ⟨⟨(1 : Int32), (u_9, u_10, u_11), rfl, Option.some.inj h, by rw [ht2]; exact hP, hD⟩, hS.F ht2⟩) hS.2.2 dX11_row_44 hlocks
          · have h := zk_f c_8 h
            refine lv_bipush (v := (-14 : Int32)) hx hb dX11_row_33 (by decide) ?_
            exact W.iret (v := (-14 : Int32)) hx hb hr (fun t ht2 hW => ⟨⟨(-14 : Int32), (pl_holds, pl_size, pl_elements), rfl, Option.some.inj h, by rw [ht2]; exact hP, hD⟩, hS.F ht2⟩) hS.2.2 dX11_row_35 hlocks
        · have h := zk_f c_7 h
          refine lv_iconst (v := (-1 : Int32)) hx hb dX11_row_27 (by decide) ?_
          exact W.iret (v := (-1 : Int32)) hx hb hr (fun t ht2 hW => ⟨⟨(-1 : Int32), (pl_holds, pl_size, pl_elements), rfl, Option.some.inj h, by rw [ht2]; exact hP, hD⟩, hS.F ht2⟩) hS.2.2 dX11_row_28 hlocks
  · have h := zk_f c_4 h
    refine W.eq (g2 := F0 m 5 ls [.null]) (by rw [if_neg c_4]; rfl) ?_
    refine lv_astoreN (lv' := [(4, .null), (0, .ref (ad 0)), (1, .int x1), (2, .int x2), (3, .int x3)]) hx hb dX11_row_5 hl (by decide) rfl (fun ls hl => ?_)
    refine lv_aloadN hx hb dX11_row_7 (lv_at hl 0 rfl) ?_
    refine lv_ifnullN (tgt := 27) hx hb dX11_row_9 (by decide) ?_
    refine lv_iconst (v := (-1 : Int32)) hx hb dX11_row_27 (by decide) ?_
    exact W.iret (v := (-1 : Int32)) hx hb hr (fun t ht2 hW => ⟨⟨(-1 : Int32), (pl_holds, pl_size, pl_elements), rfl, Option.some.inj h, by rw [ht2]; exact hP, hD⟩, hS.F ht2⟩) hS.2.2 dX11_row_28 hlocks
set_option maxHeartbeats 4000000 in
set_option maxRecDepth 100000 in
theorem c_X11_row (l : Launch) (D : va_G) (cs : Nat → ClassId) (ad : Nat → Nat) (h_pl : Nat) (h_pl_elements : Nat) (sz : Nat) (x1 : Int32) (x2 : Int32) (x3 : Int32) (root_places : Nat → Option Nat) (pl_holds : Int32) (pl_suit : Int32) (pl_size : Int32) (pl_elements : Nat → Int64) (R : Int32 × Int32 × Int32 × (Nat → Int64)) (h : f_X11_row h_pl  x1 x2 x3 root_places pl_holds pl_suit pl_size pl_elements = some R) : Met l yX11_row (z_X11_row) rm_X11_row (va_Pc [.ref (ad 0), .int x1, .int x2, .int x3] (zPre D cs (wl_X11_row ad cs h_pl h_pl_elements root_places pl_holds pl_suit pl_size pl_elements) sz)) (Q_X11_row D cs ad h_pl h_pl_elements root_places pl_suit (va_A (wl_X11_row ad cs h_pl h_pl_elements root_places pl_holds pl_suit pl_size pl_elements) sz) R) 0 0 (va_A (wl_X11_row ad cs h_pl h_pl_elements root_places pl_holds pl_suit pl_size pl_elements) sz) := by
  refine Met.ofW (cc := cX11_row) (maxL := 5) (ret := (some .int)) (by decide) rfl ?_
  intro p e s m args below meth c s₁ B hml hv
  obtain ⟨rfl, hsz, hP, hK, hD0⟩ := hv
  subst hsz
  have hD := hD0.self (sz := s.heap.size)
  have C0 : zC p s m _ meth c cX11_row 5 (some .int) RX11 zW := ⟨B.exec, B.bytes, B.returns, hml, findClass_of_methodNamed B.named, fun w hw => atoms_spec (ws := z_X11_row) B.pre w (List.mem_cons_of_mem _ hw), B.notSynchronized⟩
  have hA : ∀ q : Nat, s.heap.size ≤ q → va_A (wl_X11_row ad cs h_pl h_pl_elements root_places pl_holds pl_suit pl_size pl_elements) s.heap.size q := fun q h => Or.inr h
  have hl := lv_entry ([.ref (ad 0), .int x1, .int x2, .int x3]) (n := 5) (Nat.le_of_ble_eq_true rfl)
  rw [lg_entry_eq]
  generalize (lg_sl ([.ref (ad 0), .int x1, .int x2, .int x3]) ++ List.replicate (5 - (lg_sl ([.ref (ad 0), .int x1, .int x2, .int x3])).length) Slot.unset).toArray = ls at hl ⊢
  exact L_X11_row_0 C0 hK hA   x1 x2 x3 pl_holds pl_size pl_elements h s.heap [] ls hP hD va_S.rf hl
theorem kw_1259 : Cond.methodLink RX11 362 yX6_refusalOf ∈ zW := zwC (i := 225) zc_5 rfl rfl
theorem kw_1260 : Cond.instanceMethod yX6_refusalOf ∈ zW := zwC (i := 226) zc_5 rfl rfl
theorem kw_1261 : Cond.selects RX6 yX6_refusalOf yX6_refusalOf ∈ zW := zwC (i := 227) zc_5 rfl rfl
theorem kw_1262 : Cond.code yX6_refusalOf cX6_refusalOf 2 (some .int) ∈ zW := zwC (i := 228) zc_5 rfl rfl
theorem kw_1264 : Cond.methodLink RX11 369 yX6_lowestBits ∈ zW := zwC (i := 230) zc_5 rfl rfl
theorem kw_1265 : Cond.instanceMethod yX6_lowestBits ∈ zW := zwC (i := 231) zc_5 rfl rfl
theorem kw_1266 : Cond.selects RX6 yX6_lowestBits yX6_lowestBits ∈ zW := zwC (i := 232) zc_5 rfl rfl
theorem kw_1267 : Cond.code yX6_lowestBits cX6_lowestBits 3 (some .long) ∈ zW := zwC (i := 233) zc_5 rfl rfl
theorem zh_cX11_put_0 : zck [42, 27, 182, 0, 111, 58, 5, 25, 5, 199, 0, 5, 2, 172, 25, 5, 28, 182, 1, 106, 54, 6] (zdu 0 cX11_put.data.toList) = true := by decide +kernel
theorem dX11_put_0 : decode cX11_put 0 = .ok (.aload_n 0, 1) := zo_42 zh_cX11_put_0 0 rfl
theorem dX11_put_1 : decode cX11_put 1 = .ok (.iload_n 1, 1) := zo_27 zh_cX11_put_0 1 rfl
theorem dX11_put_2 : decode cX11_put 2 = .ok (.invokevirtual 111, 3) := zo_182 zh_cX11_put_0 2 rfl
theorem dX11_put_5 : decode cX11_put 5 = .ok (.astore 5, 2) := zo_58 zh_cX11_put_0 5 rfl
theorem dX11_put_7 : decode cX11_put 7 = .ok (.aload 5, 2) := zo_25 zh_cX11_put_0 7 rfl
theorem dX11_put_9 : decode cX11_put 9 = .ok (.ifnonnull 5, 3) := zo_p199 zh_cX11_put_0 9 5 rfl rfl
theorem dX11_put_12 : decode cX11_put 12 = .ok (.iconst (-1), 1) := zo_2 zh_cX11_put_0 12 rfl
theorem dX11_put_13 : decode cX11_put 13 = .ok (.ireturn, 1) := zo_172 zh_cX11_put_0 13 rfl
theorem dX11_put_14 : decode cX11_put 14 = .ok (.aload 5, 2) := zo_25 zh_cX11_put_0 14 rfl
theorem dX11_put_16 : decode cX11_put 16 = .ok (.iload_n 2, 1) := zo_28 zh_cX11_put_0 16 rfl
theorem dX11_put_17 : decode cX11_put 17 = .ok (.invokevirtual 362, 3) := zo_182 zh_cX11_put_0 17 rfl
theorem zh_cX11_put_1 : zck [54, 6, 21, 6, 156, 0, 6, 21, 6, 172, 25, 5, 180, 1, 109, 28, 25, 5, 33, 182, 1, 113] (zdu 20 cX11_put.data.toList) = true := by decide +kernel
theorem dX11_put_20 : decode cX11_put 20 = .ok (.istore 6, 2) := zo_54 zh_cX11_put_1 0 rfl
theorem dX11_put_22 : decode cX11_put 22 = .ok (.iload 6, 2) := zo_21 zh_cX11_put_1 2 rfl
theorem dX11_put_24 : decode cX11_put 24 = .ok (.ifCond .ge 6, 3) := zo_p156 zh_cX11_put_1 4 6 rfl rfl
theorem dX11_put_27 : decode cX11_put 27 = .ok (.iload 6, 2) := zo_21 zh_cX11_put_1 7 rfl
theorem dX11_put_29 : decode cX11_put 29 = .ok (.ireturn, 1) := zo_172 zh_cX11_put_1 9 rfl
theorem dX11_put_30 : decode cX11_put 30 = .ok (.aload 5, 2) := zo_25 zh_cX11_put_1 10 rfl
theorem dX11_put_32 : decode cX11_put 32 = .ok (.getfield 365, 3) := zo_180 zh_cX11_put_1 12 rfl
theorem dX11_put_35 : decode cX11_put 35 = .ok (.iload_n 2, 1) := zo_28 zh_cX11_put_1 15 rfl
theorem dX11_put_36 : decode cX11_put 36 = .ok (.aload 5, 2) := zo_25 zh_cX11_put_1 16 rfl
theorem dX11_put_38 : decode cX11_put 38 = .ok (.lload_n 3, 1) := zo_33 zh_cX11_put_1 18 rfl
theorem dX11_put_39 : decode cX11_put 39 = .ok (.invokevirtual 369, 3) := zo_182 zh_cX11_put_1 19 rfl
theorem zh_cX11_put_2 : zck [1, 113, 80, 4, 172] (zdu 40 cX11_put.data.toList) = true := by decide +kernel
theorem dX11_put_42 : decode cX11_put 42 = .ok (.lastore, 1) := zo_80 zh_cX11_put_2 2 rfl
theorem dX11_put_43 : decode cX11_put 43 = .ok (.iconst 1, 1) := zo_4 zh_cX11_put_2 3 rfl
theorem dX11_put_44 : decode cX11_put 44 = .ok (.ireturn, 1) := zo_172 zh_cX11_put_2 4 rfl
abbrev z_X11_put : List Cond := .code yX11_put cX11_put 7 (some .int) :: zW
abbrev wl_X11_put (ad : Nat → Nat) (cs : Nat → ClassId) (h_pl : Nat) (h_pl_elements : Nat) (root_places : Nat → Option Nat) (pl_holds : Int32) (pl_suit : Int32) (pl_size : Int32) (pl_elements : Nat → Int64) : va_W := [((ad 0), .inr (11, [.ref (ad 4), .ref (ad 15), .ref (ad 23), .ref (ad 25), .ref (ad 26), .ref (ad 28), .ref (ad 34), .ref (ad 39), .ref (ad 1), .ref (ad 2), .ref (ad 3)])), ((ad 1), .inl (cs 7, 6, .inr (.inr (.inr (.inr root_places))))), (h_pl, .inr (6, [.int pl_holds, .int pl_suit, .int pl_size, .ref h_pl_elements])), (h_pl_elements, .inl (cs 1, 60, .inr (.inl pl_elements)))]
def Q_X11_put (D : va_G) (cs : Nat → ClassId) (ad : Nat → Nat) (h_pl : Nat) (h_pl_elements : Nat) (root_places : Nat → Option Nat) (pl_holds : Int32) (pl_suit : Int32) (pl_size : Int32) (A : Nat → Prop) (R : Int32 × (Nat → Int64)) : Array Value → State → Outcome → State → Prop :=
  va_Qi (fun (r : Int32) (u : (Nat → Int64)) => (r, u) = R) (fun (u : (Nat → Int64)) (t : State) => va_P D classes (wl_X11_put ad cs h_pl h_pl_elements root_places pl_holds pl_suit pl_size u) t.heap ∧ va_D A (wl_X11_put ad cs h_pl h_pl_elements root_places pl_holds pl_suit pl_size u)) A
abbrev rm_X11_put : Room := { frames := 2, cells := 0, slots := 0, locals := 43 }
theorem g_X11_362 : GoodIn zW (wsV RX11 362 RX6 yX6_refusalOf z_X6_refusalOf) := zGV kw_1259 kw_1260 kw_1261 kw_94 kw_1262
theorem g_X11_369 : GoodIn zW (wsV RX11 369 RX6 yX6_lowestBits z_X6_lowestBits) := zGV kw_1264 kw_1265 kw_1266 kw_94 kw_1267
theorem hd_X6_lowestBits : yX6_lowestBits.cls ≠ "java/lang/invoke/MethodHandle" ∧ yX6_lowestBits.cls ≠ "java/lang/invoke/VarHandle" ∧ (parseMethodDescriptor yX6_lowestBits.desc).map (fun d => d.parameters.length) = some 1 := by decide +kernel
theorem hd_X6_refusalOf : yX6_refusalOf.cls ≠ "java/lang/invoke/MethodHandle" ∧ yX6_refusalOf.cls ≠ "java/lang/invoke/VarHandle" ∧ (parseMethodDescriptor yX6_refusalOf.desc).map (fun d => d.parameters.length) = some 1 := by decide +kernel
def B_X11_put_0 (h_pl : Nat)   (root_places : Nat → Option Nat) (pl_holds : Int32) (pl_suit : Int32) (pl_size : Int32) (x1 : Int32) (x2 : Int32) (x3 : Int64) (pl_elements : Nat → Int64) : Option (Int32 × (Nat → Int64)) :=
  (zk_b2 (f_X11_placeAt h_pl x1 root_places pl_holds pl_suit pl_size) (fun r_1 u_2 => (if r_1 = true then (zk_b2 (f_X6_refusalOf x2 pl_holds pl_suit pl_size) (fun r_5 u_6 => (if 0 ≤ r_5 then (zk_b2 (f_X6_lowestBits x3 pl_holds pl_suit pl_size) (fun r_9 u_10 => (if (x2 < 0 ∨ 60 ≤ x2.toNatClampNeg) then none else (zk_let (vp_updL pl_elements x2.toNatClampNeg r_9) (fun f_13 => (some ((1 : Int32), f_13))))))) else (some (r_5, pl_elements))))) else (some ((-1 : Int32), pl_elements)))))
def f_X11_put (h_pl : Nat)  (x1 : Int32) (x2 : Int32) (x3 : Int64) (root_places : Nat → Option Nat) (pl_holds : Int32) (pl_suit : Int32) (pl_size : Int32) (pl_elements : Nat → Int64) : Option (Int32 × (Nat → Int64)) := B_X11_put_0 h_pl  root_places pl_holds pl_suit pl_size x1 x2 x3 pl_elements
set_option maxHeartbeats 4000000 in
set_option maxRecDepth 100000 in
theorem L_X11_put_0 {p : Program} {l : Launch} {e : Env} {s : State} {m : MethodId} {args : Array Value} {below : List Frame} {meth : Method} {c : Code} {A : Nat → Prop} {D : va_G} {cs : Nat → ClassId} {ad : Nat → Nat} {h_pl : Nat} {h_pl_elements : Nat} {root_places : Nat → Option Nat} {pl_holds : Int32} {pl_suit : Int32} {pl_size : Int32} {R : Int32 × (Nat → Int64)} (C0 : zC p s m args meth c cX11_put 7 (some .int) RX11 zW) (hK : va_K D classes (zT cs) s) (hA : ∀ q : Nat, s.heap.size ≤ q → A q) (x1 : Int32) (x2 : Int32) (x3 : Int64) (pl_elements : Nat → Int64) (h : B_X11_put_0 h_pl root_places pl_holds pl_suit pl_size x1 x2 x3 pl_elements = some R) (H : Heap) (locs : List Loc) (ls : Array Slot) (hP : va_P D classes (wl_X11_put ad cs h_pl h_pl_elements root_places pl_holds pl_suit pl_size pl_elements) H) (hD : va_D A (wl_X11_put ad cs h_pl h_pl_elements root_places pl_holds pl_suit pl_size pl_elements)) (hS : va_S A s.heap H locs) (hl : lv_has ls 7 [(0, .ref (ad 0)), (1, .int x1), (2, .int x2), (3, .long x3)]) : W p l e rm_X11_put s m args below meth c H locs 0 0 (MQ below (Q_X11_put D cs ad h_pl h_pl_elements root_places pl_holds pl_suit pl_size A R) args s 0 0 A) (F0 m 0 ls []) := by
  obtain ⟨hx, hb, hr, hml, hown, ht, hlocks⟩ := id C0
  refine lv_aload_n hx hb dX11_put_0 rfl (lv_at hl 0 rfl) ?_
  refine lv_iload_n hx hb dX11_put_1 rfl (lv_at hl 1 rfl) ?_
  obtain ⟨r_1, u_2, hc_3, h⟩ := zk_o2 h
  refine zz_vq (post := (fun r u => r = (if r_1 = true then some h_pl else none) ∧ u = (u_2))) (w1 := fun u => (wl_X11_placeAt ad cs h_pl h_pl_elements root_places pl_holds pl_suit pl_size)) (As := [.int x1]) (rest := []) (c_X11_placeAt l D cs ad h_pl h_pl_elements H.size x1 root_places pl_holds pl_suit pl_size (r_1, u_2) hc_3) ⟨hx, hb, hml, hown, ht⟩ (cwV 1 ht g_X11_111 rfl rfl rfl ⟨rfl, hd_X11_placeAt⟩ ⟨Nat.le_of_ble_eq_true rfl, Nat.le_of_ble_eq_true rfl⟩) (va_recv hK hP (ci := 11) (q0 := 0) rfl rfl) hP hD hS hK hA [0, 1, 2] rfl rfl [(ad 0), (ad 1), h_pl] rfl (fun _ => rfl) rfl hl.1 (Nat.le_of_ble_eq_true rfl) dX11_put_2 ⟨Nat.zero_le _, Nat.zero_le _⟩ (fun r u H locs hq hP hS => ?_)
  obtain ⟨hq1, hq2⟩ := hq; cases hq2; subst hq1
  have hP : va_P D classes (wl_X11_put ad cs h_pl h_pl_elements root_places pl_holds pl_suit pl_size pl_elements) H := hP
  have hD : va_D A (wl_X11_put ad cs h_pl h_pl_elements root_places pl_holds pl_suit pl_size pl_elements) := zDk hD [(ad 0), (ad 1), h_pl, h_pl_elements] rfl rfl
  by_cases c_4 : r_1 = true
  · have h := zk_t c_4 h
    refine W.eq (g2 := F0 m 5 ls [.ref h_pl]) (by rw [if_pos c_4]; rfl) ?_
    refine lv_astore (lv' := [(5, .ref h_pl), (0, .ref (ad 0)), (1, .int x1), (2, .int x2), (3, .long x3)]) hx hb dX11_put_5 hl (by decide) rfl (fun ls hl => ?_)
    refine lv_aload hx hb dX11_put_7 (lv_at hl 0 rfl) ?_
    refine lv_ifnonnull (tgt := 14) hx hb dX11_put_9 (by decide) ?_
    refine lv_aload hx hb dX11_put_14 (lv_at hl 0 rfl) ?_
    refine lv_iload_n hx hb dX11_put_16 rfl (lv_at hl 3 rfl) ?_
    obtain ⟨r_5, u_6, hc_7, h⟩ := zk_o2 h
    refine zz_vi (post := (fun r u => (r, u) = (r_5, u_6))) (w1 := fun u => (wl_X6_refusalOf ad cs h_pl h_pl_elements pl_holds pl_suit pl_size)) (As := [.int x2]) (rest := []) (c_X6_refusalOf l D cs ad h_pl h_pl_elements H.size x2 pl_holds pl_suit pl_size (r_5, u_6) hc_7) ⟨hx, hb, hml, hown, ht⟩ (cwV 1 ht g_X11_362 rfl rfl rfl ⟨rfl, hd_X6_refusalOf⟩ ⟨Nat.le_of_ble_eq_true rfl, Nat.le_of_ble_eq_true rfl⟩) (va_recv hK hP (ci := 6) (q0 := 2) rfl rfl) hP hD hS hK hA [2] rfl rfl [h_pl] rfl (fun _ => rfl) rfl hl.1 (Nat.le_of_ble_eq_true rfl) dX11_put_17 ⟨Nat.zero_le _, Nat.zero_le _⟩ (fun r u H locs hq hP hS => ?_)
    cases hq
    have hP : va_P D classes (wl_X11_put ad cs h_pl h_pl_elements root_places pl_holds pl_suit pl_size pl_elements) H := hP
    have hD : va_D A (wl_X11_put ad cs h_pl h_pl_elements root_places pl_holds pl_suit pl_size pl_elements) := zDk hD [(ad 0), (ad 1), h_pl, h_pl_elements] rfl rfl
    refine lv_istore (lv' := [(6, .int r_5), (5, .ref h_pl), (0, .ref (ad 0)), (1, .int x1), (2, .int x2), (3, .long x3)]) hx hb dX11_put_20 hl (by decide) rfl (fun ls hl => ?_)
    refine lv_iload hx hb dX11_put_22 (lv_at hl 0 rfl) ?_
    refine lv_if_ge (tgt := 30) hx hb dX11_put_24 (by decide) (fun c_8 => ?_) (fun c_8 => ?_)
    · have h := zk_t c_8 h
      refine lv_aload hx hb dX11_put_30 (lv_at hl 1 rfl) ?_
      refine va_get (D := D) (ci := 6) (v := .ref h_pl_elements) (C := RX6) (T := TX6) (N := 4) hx hb ht iX6 hown hK hP 2 rfl rfl 3 (by decide) (ht _ kw_686) (fun _ h9 => h9) rfl dX11_put_32 ?_
      refine lv_iload_n hx hb dX11_put_35 rfl (lv_at hl 4 rfl) ?_
      refine lv_aload hx hb dX11_put_36 (lv_at hl 1 rfl) ?_
      refine lv_lload_n hx hb dX11_put_38 rfl (lv_at hl 5 rfl) ?_
      obtain ⟨r_9, u_10, hc_11, h⟩ := zk_o2 h
      refine zz_vl (post := (fun r u => (r, u) = (r_9, u_10))) (w1 := fun u => (wl_X6_lowestBits ad cs h_pl h_pl_elements pl_holds pl_suit pl_size)) (As := [.long x3]) (rest := [.int x2, .ref h_pl_elements]) (c_X6_lowestBits l D cs ad h_pl h_pl_elements H.size x3 pl_holds pl_suit pl_size (r_9, u_10) hc_11) ⟨hx, hb, hml, hown, ht⟩ (cwV 1 ht g_X11_369 rfl rfl rfl ⟨rfl, hd_X6_lowestBits⟩ ⟨Nat.le_of_ble_eq_true rfl, Nat.le_of_ble_eq_true rfl⟩) (va_recv hK hP (ci := 6) (q0 := 2) rfl rfl) hP hD hS hK hA [2] rfl rfl [h_pl] rfl (fun _ => rfl) rfl hl.1 (Nat.le_of_ble_eq_true rfl) dX11_put_39 ⟨Nat.zero_le _, Nat.zero_le _⟩ (fun r u H locs hq hP hS => ?_)
      cases hq
      have hP : va_P D classes (wl_X11_put ad cs h_pl h_pl_elements root_places pl_holds pl_suit pl_size pl_elements) H := hP
      have hD : va_D A (wl_X11_put ad cs h_pl h_pl_elements root_places pl_holds pl_suit pl_size pl_elements) := zDk hD [(ad 0), (ad 1), h_pl, h_pl_elements] rfl rfl
      obtain ⟨g_12, h⟩ := zk_gd h
      obtain ⟨f_13, ef_13, h⟩ := zk_lt h
      refine va_last hx hb hK hP hD hS 3 1 rfl rfl g_12 dX11_put_42 (fun H locs hP hD hS => ?_)
      have hP : va_P D classes (wl_X11_put ad cs h_pl h_pl_elements root_places pl_holds pl_suit pl_size f_13) H := by rw [ef_13]; exact hP
      have hD : va_D A (wl_X11_put ad cs h_pl h_pl_elements root_places pl_holds pl_suit pl_size f_13) := by rw [ef_13]; exact hD
      refine lv_iconst (v := (1 : Int32)) hx hb dX11_put_43 (by decide) ?_
      exact W.iret (v := (1 : Int32)) hx hb hr (fun t ht2 hW => ⟨⟨(1 : Int32), f_13, rfl, Option.some.inj h, by rw [ht2]; exact hP, hD⟩, hS.F ht2⟩) hS.2.2 dX11_put_44 hlocks
    · have h := zk_f c_8 h
      refine lv_iload hx hb dX11_put_27 (lv_at hl 0 rfl) ?_
      exact W.iret (v := r_5) hx hb hr (fun t ht2 hW => ⟨⟨r_5, pl_elements, rfl, Option.some.inj h, by rw [ht2]; exact hP, hD⟩, hS.F ht2⟩) hS.2.2 dX11_put_29 hlocks
  · have h := zk_f c_4 h
    refine W.eq (g2 := F0 m 5 ls [.null]) (by rw [if_neg c_4]; rfl) ?_
    refine lv_astoreN (lv' := [(5, .null), (0, .ref (ad 0)), (1, .int x1), (2, .int x2), (3, .long x3)]) hx hb dX11_put_5 hl (by decide) rfl (fun ls hl => ?_)
    refine lv_aloadN hx hb dX11_put_7 (lv_at hl 0 rfl) ?_
    refine lv_ifnonnullN hx hb dX11_put_9 ?_
    refine lv_iconst (v := (-1 : Int32)) hx hb dX11_put_12 (by decide) ?_
    exact W.iret (v := (-1 : Int32)) hx hb hr (fun t ht2 hW => ⟨⟨(-1 : Int32), pl_elements, rfl, Option.some.inj h, by rw [ht2]; exact hP, hD⟩, hS.F ht2⟩) hS.2.2 dX11_put_13 hlocks
set_option maxHeartbeats 4000000 in
set_option maxRecDepth 100000 in
theorem c_X11_put (l : Launch) (D : va_G) (cs : Nat → ClassId) (ad : Nat → Nat) (h_pl : Nat) (h_pl_elements : Nat) (sz : Nat) (x1 : Int32) (x2 : Int32) (x3 : Int64) (root_places : Nat → Option Nat) (pl_holds : Int32) (pl_suit : Int32) (pl_size : Int32) (pl_elements : Nat → Int64) (R : Int32 × (Nat → Int64)) (h : f_X11_put h_pl  x1 x2 x3 root_places pl_holds pl_suit pl_size pl_elements = some R) : Met l yX11_put (z_X11_put) rm_X11_put (va_Pc [.ref (ad 0), .int x1, .int x2, .long x3] (zPre D cs (wl_X11_put ad cs h_pl h_pl_elements root_places pl_holds pl_suit pl_size pl_elements) sz)) (Q_X11_put D cs ad h_pl h_pl_elements root_places pl_holds pl_suit pl_size (va_A (wl_X11_put ad cs h_pl h_pl_elements root_places pl_holds pl_suit pl_size pl_elements) sz) R) 0 0 (va_A (wl_X11_put ad cs h_pl h_pl_elements root_places pl_holds pl_suit pl_size pl_elements) sz) := by
  refine Met.ofW (cc := cX11_put) (maxL := 7) (ret := (some .int)) (by decide) rfl ?_
  intro p e s m args below meth c s₁ B hml hv
  obtain ⟨rfl, hsz, hP, hK, hD0⟩ := hv
  subst hsz
  have hD := hD0.self (sz := s.heap.size)
  have C0 : zC p s m _ meth c cX11_put 7 (some .int) RX11 zW := ⟨B.exec, B.bytes, B.returns, hml, findClass_of_methodNamed B.named, fun w hw => atoms_spec (ws := z_X11_put) B.pre w (List.mem_cons_of_mem _ hw), B.notSynchronized⟩
  have hA : ∀ q : Nat, s.heap.size ≤ q → va_A (wl_X11_put ad cs h_pl h_pl_elements root_places pl_holds pl_suit pl_size pl_elements) s.heap.size q := fun q h => Or.inr h
  have hl := lv_entry ([.ref (ad 0), .int x1, .int x2, .long x3]) (n := 7) (Nat.le_of_ble_eq_true rfl)
  rw [lg_entry_eq]
  generalize (lg_sl ([.ref (ad 0), .int x1, .int x2, .long x3]) ++ List.replicate (7 - (lg_sl ([.ref (ad 0), .int x1, .int x2, .long x3])).length) Slot.unset).toArray = ls at hl ⊢
  exact L_X11_put_0 C0 hK hA   x1 x2 x3 pl_elements h s.heap [] ls hP hD va_S.rf hl
theorem kw_1272 : Cond.constantLong RX11 373 (-9223372036854775808 : Int64) ∈ zW := zwC (i := 238) zc_5 rfl rfl
theorem zh_cX11_element_0 : zck [42, 27, 182, 0, 111, 78, 45, 198, 0, 11, 45, 28, 182, 1, 106, 156, 0, 7, 20, 1, 117, 173] (zdu 0 cX11_element.data.toList) = true := by decide +kernel
theorem dX11_element_0 : decode cX11_element 0 = .ok (.aload_n 0, 1) := zo_42 zh_cX11_element_0 0 rfl
theorem dX11_element_1 : decode cX11_element 1 = .ok (.iload_n 1, 1) := zo_27 zh_cX11_element_0 1 rfl
theorem dX11_element_2 : decode cX11_element 2 = .ok (.invokevirtual 111, 3) := zo_182 zh_cX11_element_0 2 rfl
theorem dX11_element_5 : decode cX11_element 5 = .ok (.astore_n 3, 1) := zo_78 zh_cX11_element_0 5 rfl
theorem dX11_element_6 : decode cX11_element 6 = .ok (.aload_n 3, 1) := zo_45 zh_cX11_element_0 6 rfl
theorem dX11_element_7 : decode cX11_element 7 = .ok (.ifnull 11, 3) := zo_p198 zh_cX11_element_0 7 11 rfl rfl
theorem dX11_element_10 : decode cX11_element 10 = .ok (.aload_n 3, 1) := zo_45 zh_cX11_element_0 10 rfl
theorem dX11_element_11 : decode cX11_element 11 = .ok (.iload_n 2, 1) := zo_28 zh_cX11_element_0 11 rfl
theorem dX11_element_12 : decode cX11_element 12 = .ok (.invokevirtual 362, 3) := zo_182 zh_cX11_element_0 12 rfl
theorem dX11_element_15 : decode cX11_element 15 = .ok (.ifCond .ge 7, 3) := zo_p156 zh_cX11_element_0 15 7 rfl rfl
theorem dX11_element_18 : decode cX11_element 18 = .ok (.ldc2_w 373, 3) := zo_20 zh_cX11_element_0 18 rfl
theorem zh_cX11_element_1 : zck [117, 173, 45, 180, 1, 109, 28, 47, 173] (zdu 20 cX11_element.data.toList) = true := by decide +kernel
theorem dX11_element_21 : decode cX11_element 21 = .ok (.lreturn, 1) := zo_173 zh_cX11_element_1 1 rfl
theorem dX11_element_22 : decode cX11_element 22 = .ok (.aload_n 3, 1) := zo_45 zh_cX11_element_1 2 rfl
theorem dX11_element_23 : decode cX11_element 23 = .ok (.getfield 365, 3) := zo_180 zh_cX11_element_1 3 rfl
theorem dX11_element_26 : decode cX11_element 26 = .ok (.iload_n 2, 1) := zo_28 zh_cX11_element_1 6 rfl
theorem dX11_element_27 : decode cX11_element 27 = .ok (.laload, 1) := zo_47 zh_cX11_element_1 7 rfl
theorem dX11_element_28 : decode cX11_element 28 = .ok (.lreturn, 1) := zo_173 zh_cX11_element_1 8 rfl
abbrev z_X11_element : List Cond := .code yX11_element cX11_element 4 (some .long) :: zW
abbrev wl_X11_element (ad : Nat → Nat) (cs : Nat → ClassId) (h_pl : Nat) (h_pl_elements : Nat) (root_places : Nat → Option Nat) (pl_holds : Int32) (pl_suit : Int32) (pl_size : Int32) (pl_elements : Nat → Int64) : va_W := [((ad 0), .inr (11, [.ref (ad 4), .ref (ad 15), .ref (ad 23), .ref (ad 25), .ref (ad 26), .ref (ad 28), .ref (ad 34), .ref (ad 39), .ref (ad 1), .ref (ad 2), .ref (ad 3)])), ((ad 1), .inl (cs 7, 6, .inr (.inr (.inr (.inr root_places))))), (h_pl, .inr (6, [.int pl_holds, .int pl_suit, .int pl_size, .ref h_pl_elements])), (h_pl_elements, .inl (cs 1, 60, .inr (.inl pl_elements)))]
def Q_X11_element (D : va_G) (cs : Nat → ClassId) (ad : Nat → Nat) (h_pl : Nat) (h_pl_elements : Nat) (root_places : Nat → Option Nat) (pl_holds : Int32) (pl_suit : Int32) (pl_size : Int32) (pl_elements : Nat → Int64) (A : Nat → Prop) (R : Int64 × Unit) : Array Value → State → Outcome → State → Prop :=
  va_Ql (fun (r : Int64) (u : Unit) => (r, u) = R) (fun (u : Unit) (t : State) => va_P D classes (wl_X11_element ad cs h_pl h_pl_elements root_places pl_holds pl_suit pl_size pl_elements) t.heap ∧ va_D A (wl_X11_element ad cs h_pl h_pl_elements root_places pl_holds pl_suit pl_size pl_elements)) A
abbrev rm_X11_element : Room := { frames := 2, cells := 0, slots := 0, locals := 43 }
def B_X11_element_0 (h_pl : Nat)   (root_places : Nat → Option Nat) (pl_holds : Int32) (pl_suit : Int32) (pl_size : Int32) (pl_elements : Nat → Int64) (x1 : Int32) (x2 : Int32) : Option (Int64 × Unit) :=
  (zk_b2 (f_X11_placeAt h_pl x1 root_places pl_holds pl_suit pl_size) (fun r_1 u_2 => (if r_1 = true then (zk_b2 (f_X6_refusalOf x2 pl_holds pl_suit pl_size) (fun r_5 u_6 => (if 0 ≤ r_5 then (if (x2 < 0 ∨ 60 ≤ x2.toNatClampNeg) then none else (some (pl_elements x2.toNatClampNeg, ()))) else (some ((-9223372036854775808 : Int64), ()))))) else (some ((-9223372036854775808 : Int64), ())))))
def f_X11_element (h_pl : Nat)  (x1 : Int32) (x2 : Int32) (root_places : Nat → Option Nat) (pl_holds : Int32) (pl_suit : Int32) (pl_size : Int32) (pl_elements : Nat → Int64) : Option (Int64 × Unit) := B_X11_element_0 h_pl  root_places pl_holds pl_suit pl_size pl_elements x1 x2 
set_option maxHeartbeats 4000000 in
set_option maxRecDepth 100000 in
theorem L_X11_element_0 {p : Program} {l : Launch} {e : Env} {s : State} {m : MethodId} {args : Array Value} {below : List Frame} {meth : Method} {c : Code} {A : Nat → Prop} {D : va_G} {cs : Nat → ClassId} {ad : Nat → Nat} {h_pl : Nat} {h_pl_elements : Nat} {root_places : Nat → Option Nat} {pl_holds : Int32} {pl_suit : Int32} {pl_size : Int32} {pl_elements : Nat → Int64} {R : Int64 × Unit} (C0 : zC p s m args meth c cX11_element 4 (some .long) RX11 zW) (hK : va_K D classes (zT cs) s) (hA : ∀ q : Nat, s.heap.size ≤ q → A q) (x1 : Int32) (x2 : Int32) (h : B_X11_element_0 h_pl root_places pl_holds pl_suit pl_size pl_elements x1 x2 = some R) (H : Heap) (locs : List Loc) (ls : Array Slot) (hP : va_P D classes (wl_X11_element ad cs h_pl h_pl_elements root_places pl_holds pl_suit pl_size pl_elements) H) (hD : va_D A (wl_X11_element ad cs h_pl h_pl_elements root_places pl_holds pl_suit pl_size pl_elements)) (hS : va_S A s.heap H locs) (hl : lv_has ls 4 [(0, .ref (ad 0)), (1, .int x1), (2, .int x2)]) : W p l e rm_X11_element s m args below meth c H locs 0 0 (MQ below (Q_X11_element D cs ad h_pl h_pl_elements root_places pl_holds pl_suit pl_size pl_elements A R) args s 0 0 A) (F0 m 0 ls []) := by
  obtain ⟨hx, hb, hr, hml, hown, ht, hlocks⟩ := id C0
  refine lv_aload_n hx hb dX11_element_0 rfl (lv_at hl 0 rfl) ?_
  refine lv_iload_n hx hb dX11_element_1 rfl (lv_at hl 1 rfl) ?_
  obtain ⟨r_1, u_2, hc_3, h⟩ := zk_o2 h
  refine zz_vq (post := (fun r u => r = (if r_1 = true then some h_pl else none) ∧ u = (u_2))) (w1 := fun u => (wl_X11_placeAt ad cs h_pl h_pl_elements root_places pl_holds pl_suit pl_size)) (As := [.int x1]) (rest := []) (c_X11_placeAt l D cs ad h_pl h_pl_elements H.size x1 root_places pl_holds pl_suit pl_size (r_1, u_2) hc_3) ⟨hx, hb, hml, hown, ht⟩ (cwV 1 ht g_X11_111 rfl rfl rfl ⟨rfl, hd_X11_placeAt⟩ ⟨Nat.le_of_ble_eq_true rfl, Nat.le_of_ble_eq_true rfl⟩) (va_recv hK hP (ci := 11) (q0 := 0) rfl rfl) hP hD hS hK hA [0, 1, 2] rfl rfl [(ad 0), (ad 1), h_pl] rfl (fun _ => rfl) rfl hl.1 (Nat.le_of_ble_eq_true rfl) dX11_element_2 ⟨Nat.zero_le _, Nat.zero_le _⟩ (fun r u H locs hq hP hS => ?_)
  obtain ⟨hq1, hq2⟩ := hq; cases hq2; subst hq1
  have hP : va_P D classes (wl_X11_element ad cs h_pl h_pl_elements root_places pl_holds pl_suit pl_size pl_elements) H := hP
  have hD : va_D A (wl_X11_element ad cs h_pl h_pl_elements root_places pl_holds pl_suit pl_size pl_elements) := zDk hD [(ad 0), (ad 1), h_pl, h_pl_elements] rfl rfl
  by_cases c_4 : r_1 = true
  · have h := zk_t c_4 h
    refine W.eq (g2 := F0 m 5 ls [.ref h_pl]) (by rw [if_pos c_4]; rfl) ?_
    refine lv_astore_n (lv' := [(3, .ref h_pl), (0, .ref (ad 0)), (1, .int x1), (2, .int x2)]) hx hb dX11_element_5 rfl hl (by decide) rfl (fun ls hl => ?_)
    refine lv_aload_n hx hb dX11_element_6 rfl (lv_at hl 0 rfl) ?_
    refine lv_ifnull hx hb dX11_element_7 ?_
    refine lv_aload_n hx hb dX11_element_10 rfl (lv_at hl 0 rfl) ?_
    refine lv_iload_n hx hb dX11_element_11 rfl (lv_at hl 3 rfl) ?_
    obtain ⟨r_5, u_6, hc_7, h⟩ := zk_o2 h
    refine zz_vi (post := (fun r u => (r, u) = (r_5, u_6))) (w1 := fun u => (wl_X6_refusalOf ad cs h_pl h_pl_elements pl_holds pl_suit pl_size)) (As := [.int x2]) (rest := []) (c_X6_refusalOf l D cs ad h_pl h_pl_elements H.size x2 pl_holds pl_suit pl_size (r_5, u_6) hc_7) ⟨hx, hb, hml, hown, ht⟩ (cwV 1 ht g_X11_362 rfl rfl rfl ⟨rfl, hd_X6_refusalOf⟩ ⟨Nat.le_of_ble_eq_true rfl, Nat.le_of_ble_eq_true rfl⟩) (va_recv hK hP (ci := 6) (q0 := 2) rfl rfl) hP hD hS hK hA [2] rfl rfl [h_pl] rfl (fun _ => rfl) rfl hl.1 (Nat.le_of_ble_eq_true rfl) dX11_element_12 ⟨Nat.zero_le _, Nat.zero_le _⟩ (fun r u H locs hq hP hS => ?_)
    cases hq
    have hP : va_P D classes (wl_X11_element ad cs h_pl h_pl_elements root_places pl_holds pl_suit pl_size pl_elements) H := hP
    have hD : va_D A (wl_X11_element ad cs h_pl h_pl_elements root_places pl_holds pl_suit pl_size pl_elements) := zDk hD [(ad 0), (ad 1), h_pl, h_pl_elements] rfl rfl
    refine lv_if_ge (tgt := 22) hx hb dX11_element_15 (by decide) (fun c_8 => ?_) (fun c_8 => ?_)
    · have h := zk_t c_8 h
      refine lv_aload_n hx hb dX11_element_22 rfl (lv_at hl 0 rfl) ?_
      refine va_get (D := D) (ci := 6) (v := .ref h_pl_elements) (C := RX6) (T := TX6) (N := 4) hx hb ht iX6 hown hK hP 2 rfl rfl 3 (by decide) (ht _ kw_686) (fun _ h9 => h9) rfl dX11_element_23 ?_
      refine lv_iload_n hx hb dX11_element_26 rfl (lv_at hl 3 rfl) ?_
      obtain ⟨g_9, h⟩ := zk_gd h
      refine va_lald hx hb hK hP 3 1 rfl rfl g_9 dX11_element_27 ?_
      exact W.lret (v := pl_elements x2.toNatClampNeg) hx hb hr (fun t ht2 hW => ⟨⟨pl_elements x2.toNatClampNeg, (), rfl, Option.some.inj h, by rw [ht2]; exact hP, hD⟩, hS.F ht2⟩) hS.2.2 dX11_element_28 hlocks
    · have h := zk_f c_8 h
      refine lv_ldc2 (v := (-9223372036854775808 : Int64)) hx hb hown (ht _ kw_1272) dX11_element_18 ?_
      exact W.lret (v := (-9223372036854775808 : Int64)) hx hb hr (fun t ht2 hW => ⟨⟨(-9223372036854775808 : Int64), (), rfl, Option.some.inj h, by rw [ht2]; exact hP, hD⟩, hS.F ht2⟩) hS.2.2 dX11_element_21 hlocks
  · have h := zk_f c_4 h
    refine W.eq (g2 := F0 m 5 ls [.null]) (by rw [if_neg c_4]; rfl) ?_
    refine lv_astore_nN (lv' := [(3, .null), (0, .ref (ad 0)), (1, .int x1), (2, .int x2)]) hx hb dX11_element_5 rfl hl (by decide) rfl (fun ls hl => ?_)
    refine lv_aload_nN hx hb dX11_element_6 rfl (lv_at hl 0 rfl) ?_
    refine lv_ifnullN (tgt := 18) hx hb dX11_element_7 (by decide) ?_
    refine lv_ldc2 (v := (-9223372036854775808 : Int64)) hx hb hown (ht _ kw_1272) dX11_element_18 ?_
    exact W.lret (v := (-9223372036854775808 : Int64)) hx hb hr (fun t ht2 hW => ⟨⟨(-9223372036854775808 : Int64), (), rfl, Option.some.inj h, by rw [ht2]; exact hP, hD⟩, hS.F ht2⟩) hS.2.2 dX11_element_21 hlocks
set_option maxHeartbeats 4000000 in
set_option maxRecDepth 100000 in
theorem c_X11_element (l : Launch) (D : va_G) (cs : Nat → ClassId) (ad : Nat → Nat) (h_pl : Nat) (h_pl_elements : Nat) (sz : Nat) (x1 : Int32) (x2 : Int32) (root_places : Nat → Option Nat) (pl_holds : Int32) (pl_suit : Int32) (pl_size : Int32) (pl_elements : Nat → Int64) (R : Int64 × Unit) (h : f_X11_element h_pl  x1 x2 root_places pl_holds pl_suit pl_size pl_elements = some R) : Met l yX11_element (z_X11_element) rm_X11_element (va_Pc [.ref (ad 0), .int x1, .int x2] (zPre D cs (wl_X11_element ad cs h_pl h_pl_elements root_places pl_holds pl_suit pl_size pl_elements) sz)) (Q_X11_element D cs ad h_pl h_pl_elements root_places pl_holds pl_suit pl_size pl_elements (va_A (wl_X11_element ad cs h_pl h_pl_elements root_places pl_holds pl_suit pl_size pl_elements) sz) R) 0 0 (va_A (wl_X11_element ad cs h_pl h_pl_elements root_places pl_holds pl_suit pl_size pl_elements) sz) := by
  refine Met.ofW (cc := cX11_element) (maxL := 4) (ret := (some .long)) (by decide) rfl ?_
  intro p e s m args below meth c s₁ B hml hv
  obtain ⟨rfl, hsz, hP, hK, hD0⟩ := hv
  subst hsz
  have hD := hD0.self (sz := s.heap.size)
  have C0 : zC p s m _ meth c cX11_element 4 (some .long) RX11 zW := ⟨B.exec, B.bytes, B.returns, hml, findClass_of_methodNamed B.named, fun w hw => atoms_spec (ws := z_X11_element) B.pre w (List.mem_cons_of_mem _ hw), B.notSynchronized⟩
  have hA : ∀ q : Nat, s.heap.size ≤ q → va_A (wl_X11_element ad cs h_pl h_pl_elements root_places pl_holds pl_suit pl_size pl_elements) s.heap.size q := fun q h => Or.inr h
  have hl := lv_entry ([.ref (ad 0), .int x1, .int x2]) (n := 4) (Nat.le_of_ble_eq_true rfl)
  rw [lg_entry_eq]
  generalize (lg_sl ([.ref (ad 0), .int x1, .int x2]) ++ List.replicate (4 - (lg_sl ([.ref (ad 0), .int x1, .int x2])).length) Slot.unset).toArray = ls at hl ⊢
  exact L_X11_element_0 C0 hK hA   x1 x2  h s.heap [] ls hP hD va_S.rf hl
theorem kw_1285 : Cond.methodLink RX11 401 yX0_above ∈ zW := zwC (i := 11) zc_6 rfl rfl
theorem zh_cX11_isUnder_0 : zck [26, 61, 3, 62, 29, 16, 7, 162, 0, 23, 28, 27, 159, 0, 18, 28, 158, 0, 14, 28, 184, 1] (zdu 0 cX11_isUnder.data.toList) = true := by decide +kernel
theorem dX11_isUnder_0 : decode cX11_isUnder 0 = .ok (.iload_n 0, 1) := zo_26 zh_cX11_isUnder_0 0 rfl
theorem dX11_isUnder_1 : decode cX11_isUnder 1 = .ok (.istore_n 2, 1) := zo_61 zh_cX11_isUnder_0 1 rfl
theorem dX11_isUnder_2 : decode cX11_isUnder 2 = .ok (.iconst 0, 1) := zo_3 zh_cX11_isUnder_0 2 rfl
theorem dX11_isUnder_3 : decode cX11_isUnder 3 = .ok (.istore_n 3, 1) := zo_62 zh_cX11_isUnder_0 3 rfl
theorem dX11_isUnder_4 : decode cX11_isUnder 4 = .ok (.iload_n 3, 1) := zo_29 zh_cX11_isUnder_0 4 rfl
theorem dX11_isUnder_5 : decode cX11_isUnder 5 = .ok (.bipush 7, 2) := zo_p16 zh_cX11_isUnder_0 5 7 rfl rfl
theorem dX11_isUnder_7 : decode cX11_isUnder 7 = .ok (.if_icmp .ge 23, 3) := zo_p162 zh_cX11_isUnder_0 7 23 rfl rfl
theorem dX11_isUnder_10 : decode cX11_isUnder 10 = .ok (.iload_n 2, 1) := zo_28 zh_cX11_isUnder_0 10 rfl
theorem dX11_isUnder_11 : decode cX11_isUnder 11 = .ok (.iload_n 1, 1) := zo_27 zh_cX11_isUnder_0 11 rfl
theorem dX11_isUnder_12 : decode cX11_isUnder 12 = .ok (.if_icmp .eq 18, 3) := zo_p159 zh_cX11_isUnder_0 12 18 rfl rfl
theorem dX11_isUnder_15 : decode cX11_isUnder 15 = .ok (.iload_n 2, 1) := zo_28 zh_cX11_isUnder_0 15 rfl
theorem dX11_isUnder_16 : decode cX11_isUnder 16 = .ok (.ifCond .le 14, 3) := zo_p158 zh_cX11_isUnder_0 16 14 rfl rfl
theorem dX11_isUnder_19 : decode cX11_isUnder 19 = .ok (.iload_n 2, 1) := zo_28 zh_cX11_isUnder_0 19 rfl
theorem zh_cX11_isUnder_1 : zck [184, 1, 145, 61, 132, 3, 1, 167, 255, 233, 28, 27, 160, 0, 7, 4, 167, 0, 4, 3, 172] (zdu 20 cX11_isUnder.data.toList) = true := by decide +kernel
theorem dX11_isUnder_20 : decode cX11_isUnder 20 = .ok (.invokestatic 401, 3) := zo_184 zh_cX11_isUnder_1 0 rfl
theorem dX11_isUnder_23 : decode cX11_isUnder 23 = .ok (.istore_n 2, 1) := zo_61 zh_cX11_isUnder_1 3 rfl
theorem dX11_isUnder_24 : decode cX11_isUnder 24 = .ok (.iinc 3 1, 3) := zo_p132 zh_cX11_isUnder_1 4 1 rfl rfl
theorem dX11_isUnder_27 : decode cX11_isUnder 27 = .ok (.goto (-23), 3) := zo_n167 zh_cX11_isUnder_1 7 22 rfl rfl
theorem dX11_isUnder_30 : decode cX11_isUnder 30 = .ok (.iload_n 2, 1) := zo_28 zh_cX11_isUnder_1 10 rfl
theorem dX11_isUnder_31 : decode cX11_isUnder 31 = .ok (.iload_n 1, 1) := zo_27 zh_cX11_isUnder_1 11 rfl
theorem dX11_isUnder_32 : decode cX11_isUnder 32 = .ok (.if_icmp .ne 7, 3) := zo_p160 zh_cX11_isUnder_1 12 7 rfl rfl
theorem dX11_isUnder_35 : decode cX11_isUnder 35 = .ok (.iconst 1, 1) := zo_4 zh_cX11_isUnder_1 15 rfl
theorem dX11_isUnder_36 : decode cX11_isUnder 36 = .ok (.goto 4, 3) := zo_p167 zh_cX11_isUnder_1 16 4 rfl rfl
theorem dX11_isUnder_39 : decode cX11_isUnder 39 = .ok (.iconst 0, 1) := zo_3 zh_cX11_isUnder_1 19 rfl
theorem zh_cX11_isUnder_2 : zck [172] (zdu 40 cX11_isUnder.data.toList) = true := by decide +kernel
theorem dX11_isUnder_40 : decode cX11_isUnder 40 = .ok (.ireturn, 1) := zo_172 zh_cX11_isUnder_2 0 rfl
abbrev z_X11_isUnder : List Cond := .code yX11_isUnder cX11_isUnder 4 (some .boolean) :: zW
abbrev wl_X11_isUnder (ad : Nat → Nat) (cs : Nat → ClassId)   : va_W := []
def Q_X11_isUnder (D : va_G) (cs : Nat → ClassId) (ad : Nat → Nat)   (A : Nat → Prop) (R : Int32 × Unit) : Array Value → State → Outcome → State → Prop :=
  va_Qi (fun (r : Int32) (u : Unit) => (r, u) = R) (fun (u : Unit) (t : State) => va_P D classes (wl_X11_isUnder ad cs ) t.heap ∧ va_D A (wl_X11_isUnder ad cs )) A
abbrev rm_X11_isUnder : Room := { frames := 1, cells := 0, slots := 0, locals := 20 }
theorem g_X11_401 : GoodIn zW (va_wsS RX11 401 yX0_above z_X0_above) := zGS kw_1285 kw_1220 kw_84 kw_1221
def B_X11_isUnder_30   (g4 : Int32 → Int32 → Int32 → (Option (Int32 × Unit)))  (x1 : Int32) (x2 : Int32) : Option (Int32 × Unit) :=
  (if x2 = x1 then (some ((1 : Int32), ())) else (some ((0 : Int32), ())))
def B_X11_isUnder_4   (g4 : Int32 → Int32 → Int32 → (Option (Int32 × Unit)))  (x1 : Int32) (x2 : Int32) (x3 : Int32) : Option (Int32 × Unit) :=
  (if (7 : Int32) ≤ x3 then (B_X11_isUnder_30 g4 x1 x2) else (if x2 = x1 then (B_X11_isUnder_30 g4 x1 x2) else (if x2 ≤ 0 then (B_X11_isUnder_30 g4 x1 x2) else (zk_b2 (f_X0_above x2) (fun r_4 u_5 => (zk_let (x3 + (1 : Int32)) (fun v_7 => (g4 x1 r_4 v_7))))))))
def B_X11_isUnder_0   (g4 : Int32 → Int32 → Int32 → (Option (Int32 × Unit)))  (x0 : Int32) (x1 : Int32) : Option (Int32 × Unit) :=
  (g4 x1 x0 (0 : Int32))
def G_X11_isUnder    (n : Nat) : (Int32 → Int32 → Int32 → (Option (Int32 × Unit))) :=
  Nat.rec (motive := fun _ => (Int32 → Int32 → Int32 → (Option (Int32 × Unit)))) ((fun _ _ _ => none)) (fun _ ih => (B_X11_isUnder_4   ih )) n
def f_X11_isUnder   (n : Nat) (x0 : Int32) (x1 : Int32)  : Option (Int32 × Unit) := B_X11_isUnder_0   ((G_X11_isUnder    n))  x0 x1 
set_option maxHeartbeats 4000000 in
set_option maxRecDepth 100000 in
theorem L_X11_isUnder_30 {p : Program} {l : Launch} {e : Env} {s : State} {m : MethodId} {args : Array Value} {below : List Frame} {meth : Method} {c : Code} {A : Nat → Prop} {D : va_G} {cs : Nat → ClassId} {ad : Nat → Nat} {R : Int32 × Unit} {g4 : Int32 → Int32 → Int32 → (Option (Int32 × Unit))} (C0 : zC p s m args meth c cX11_isUnder 4 (some .boolean) RX11 zW) (hK : va_K D classes (zT cs) s) (hA : ∀ q : Nat, s.heap.size ≤ q → A q) (ih4 : ∀ (x1 : Int32) (x2 : Int32) (x3 : Int32) (h : g4 x1 x2 x3 = some R) (H : Heap) (locs : List Loc) (ls : Array Slot) (hP : va_P D classes (wl_X11_isUnder ad cs ) H) (hD : va_D A (wl_X11_isUnder ad cs )) (hS : va_S A s.heap H locs) (hl : lv_has ls 4 [(1, .int x1), (2, .int x2), (3, .int x3)]), W p l e rm_X11_isUnder s m args below meth c H locs 0 0 (MQ below (Q_X11_isUnder D cs ad  A R) args s 0 0 A) (F0 m 4 ls [])) (x1 : Int32) (x2 : Int32) (h : B_X11_isUnder_30 g4 x1 x2 = some R) (H : Heap) (locs : List Loc) (ls : Array Slot) (hP : va_P D classes (wl_X11_isUnder ad cs ) H) (hD : va_D A (wl_X11_isUnder ad cs )) (hS : va_S A s.heap H locs) (hl : lv_has ls 4 [(1, .int x1), (2, .int x2)]) : W p l e rm_X11_isUnder s m args below meth c H locs 0 0 (MQ below (Q_X11_isUnder D cs ad  A R) args s 0 0 A) (F0 m 30 ls []) := by
  obtain ⟨hx, hb, hr, hml, hown, ht, hlocks⟩ := id C0
  refine lv_iload_n hx hb dX11_isUnder_30 rfl (lv_at hl 1 rfl) ?_
  refine lv_iload_n hx hb dX11_isUnder_31 rfl (lv_at hl 0 rfl) ?_
  refine lv_icmp_ne (tgt := 39) hx hb dX11_isUnder_32 (by decide) (fun c_8 => ?_) (fun c_8 => ?_)
  · have h := zk_f c_8 h
    refine lv_iconst (v := (0 : Int32)) hx hb dX11_isUnder_39 (by decide) ?_
    exact W.zret (ty := .boolean) (v := (0 : Int32)) hx hb hr rfl (fun t ht2 hW => ⟨⟨(0 : Int32), (), rfl, Option.some.inj h, by rw [ht2]; exact hP, hD⟩, hS.F ht2⟩) hS.2.2 dX11_isUnder_40 hlocks
  · have h := zk_t c_8 h
    refine lv_iconst (v := (1 : Int32)) hx hb dX11_isUnder_35 (by decide) ?_
    refine lv_goto (tgt := 40) hx hb dX11_isUnder_36 (by decide) ?_
    exact W.zret (ty := .boolean) (v := (1 : Int32)) hx hb hr rfl (fun t ht2 hW => ⟨⟨(1 : Int32), (), rfl, Option.some.inj h, by rw [ht2]; exact hP, hD⟩, hS.F ht2⟩) hS.2.2 dX11_isUnder_40 hlocks
set_option maxHeartbeats 4000000 in
set_option maxRecDepth 100000 in
theorem L_X11_isUnder_4 {p : Program} {l : Launch} {e : Env} {s : State} {m : MethodId} {args : Array Value} {below : List Frame} {meth : Method} {c : Code} {A : Nat → Prop} {D : va_G} {cs : Nat → ClassId} {ad : Nat → Nat} {R : Int32 × Unit} {g4 : Int32 → Int32 → Int32 → (Option (Int32 × Unit))} (C0 : zC p s m args meth c cX11_isUnder 4 (some .boolean) RX11 zW) (hK : va_K D classes (zT cs) s) (hA : ∀ q : Nat, s.heap.size ≤ q → A q) (ih4 : ∀ (x1 : Int32) (x2 : Int32) (x3 : Int32) (h : g4 x1 x2 x3 = some R) (H : Heap) (locs : List Loc) (ls : Array Slot) (hP : va_P D classes (wl_X11_isUnder ad cs ) H) (hD : va_D A (wl_X11_isUnder ad cs )) (hS : va_S A s.heap H locs) (hl : lv_has ls 4 [(1, .int x1), (2, .int x2), (3, .int x3)]), W p l e rm_X11_isUnder s m args below meth c H locs 0 0 (MQ below (Q_X11_isUnder D cs ad  A R) args s 0 0 A) (F0 m 4 ls [])) (x1 : Int32) (x2 : Int32) (x3 : Int32) (h : B_X11_isUnder_4 g4 x1 x2 x3 = some R) (H : Heap) (locs : List Loc) (ls : Array Slot) (hP : va_P D classes (wl_X11_isUnder ad cs ) H) (hD : va_D A (wl_X11_isUnder ad cs )) (hS : va_S A s.heap H locs) (hl : lv_has ls 4 [(1, .int x1), (2, .int x2), (3, .int x3)]) : W p l e rm_X11_isUnder s m args below meth c H locs 0 0 (MQ below (Q_X11_isUnder D cs ad  A R) args s 0 0 A) (F0 m 4 ls []) := by
  obtain ⟨hx, hb, hr, hml, hown, ht, hlocks⟩ := id C0
  refine lv_iload_n hx hb dX11_isUnder_4 rfl (lv_at hl 2 rfl) ?_
  refine lv_bipush (v := (7 : Int32)) hx hb dX11_isUnder_5 (by decide) ?_
  refine lv_icmp_ge (tgt := 30) hx hb dX11_isUnder_7 (by decide) (fun c_1 => ?_) (fun c_1 => ?_)
  · have h := zk_t c_1 h
    exact L_X11_isUnder_30 C0 hK hA  ih4 x1 x2 h H locs ls hP hD hS (lv_sub hl [0, 1] rfl)
  · have h := zk_f c_1 h
    refine lv_iload_n hx hb dX11_isUnder_10 rfl (lv_at hl 1 rfl) ?_
    refine lv_iload_n hx hb dX11_isUnder_11 rfl (lv_at hl 0 rfl) ?_
    refine lv_icmp_eq (tgt := 30) hx hb dX11_isUnder_12 (by decide) (fun c_2 => ?_) (fun c_2 => ?_)
    · have h := zk_t c_2 h
      exact L_X11_isUnder_30 C0 hK hA  ih4 x1 x2 h H locs ls hP hD hS (lv_sub hl [0, 1] rfl)
    · have h := zk_f c_2 h
      refine lv_iload_n hx hb dX11_isUnder_15 rfl (lv_at hl 1 rfl) ?_
      refine lv_if_le (tgt := 30) hx hb dX11_isUnder_16 (by decide) (fun c_3 => ?_) (fun c_3 => ?_)
      · have h := zk_t c_3 h
        exact L_X11_isUnder_30 C0 hK hA  ih4 x1 x2 h H locs ls hP hD hS (lv_sub hl [0, 1] rfl)
      · have h := zk_f c_3 h
        refine lv_iload_n hx hb dX11_isUnder_19 rfl (lv_at hl 1 rfl) ?_
        obtain ⟨r_4, u_5, hc_6, h⟩ := zk_o2 h
        refine zz_si (post := (fun r u => (r, u) = (r_4, u_5))) (w1 := fun u => (wl_X0_above ad cs )) (As := [.int x2]) (rest := []) (c_X0_above l D cs ad  H.size x2 (r_4, u_5) hc_6) ⟨hx, hb, hml, hown, ht⟩ (va_cwS 1 ht g_X11_401 rfl rfl rfl hd_X0_above ⟨Nat.le_of_ble_eq_true rfl, Nat.le_of_ble_eq_true rfl⟩) hP hD hS hK hA [] rfl rfl [] rfl (fun _ => rfl) rfl hl.1 (Nat.le_of_ble_eq_true rfl) dX11_isUnder_20 ⟨Nat.zero_le _, Nat.zero_le _⟩ (fun r u H locs hq hP hS => ?_)
        cases hq
        have hP : va_P D classes (wl_X11_isUnder ad cs ) H := hP
        refine lv_istore_n (lv' := [(2, .int r_4), (1, .int x1), (3, .int x3)]) hx hb dX11_isUnder_23 rfl hl (by decide) rfl (fun ls hl => ?_)
        obtain ⟨v_7, ev_7, h⟩ := zk_lt h
        refine lv_iinc (v := v_7) (lv' := [(3, .int v_7), (2, .int r_4), (1, .int x1)]) hx hb dX11_isUnder_24 hl (k := 2) rfl (by rw [ev_7]; rfl) (by decide) rfl (fun ls hl => ?_)
        refine lv_goto (tgt := 4) hx hb dX11_isUnder_27 (by decide) ?_
        exact ih4 x1 r_4 v_7 h H locs ls hP hD hS (lv_sub hl [2, 1, 0] rfl)
set_option maxHeartbeats 4000000 in
set_option maxRecDepth 100000 in
theorem L_X11_isUnder_0 {p : Program} {l : Launch} {e : Env} {s : State} {m : MethodId} {args : Array Value} {below : List Frame} {meth : Method} {c : Code} {A : Nat → Prop} {D : va_G} {cs : Nat → ClassId} {ad : Nat → Nat} {R : Int32 × Unit} {g4 : Int32 → Int32 → Int32 → (Option (Int32 × Unit))} (C0 : zC p s m args meth c cX11_isUnder 4 (some .boolean) RX11 zW) (hK : va_K D classes (zT cs) s) (hA : ∀ q : Nat, s.heap.size ≤ q → A q) (ih4 : ∀ (x1 : Int32) (x2 : Int32) (x3 : Int32) (h : g4 x1 x2 x3 = some R) (H : Heap) (locs : List Loc) (ls : Array Slot) (hP : va_P D classes (wl_X11_isUnder ad cs ) H) (hD : va_D A (wl_X11_isUnder ad cs )) (hS : va_S A s.heap H locs) (hl : lv_has ls 4 [(1, .int x1), (2, .int x2), (3, .int x3)]), W p l e rm_X11_isUnder s m args below meth c H locs 0 0 (MQ below (Q_X11_isUnder D cs ad  A R) args s 0 0 A) (F0 m 4 ls [])) (x0 : Int32) (x1 : Int32) (h : B_X11_isUnder_0 g4 x0 x1 = some R) (H : Heap) (locs : List Loc) (ls : Array Slot) (hP : va_P D classes (wl_X11_isUnder ad cs ) H) (hD : va_D A (wl_X11_isUnder ad cs )) (hS : va_S A s.heap H locs) (hl : lv_has ls 4 [(0, .int x0), (1, .int x1)]) : W p l e rm_X11_isUnder s m args below meth c H locs 0 0 (MQ below (Q_X11_isUnder D cs ad  A R) args s 0 0 A) (F0 m 0 ls []) := by
  obtain ⟨hx, hb, hr, hml, hown, ht, hlocks⟩ := id C0
  refine lv_iload_n hx hb dX11_isUnder_0 rfl (lv_at hl 0 rfl) ?_
  refine lv_istore_n (lv' := [(2, .int x0), (0, .int x0), (1, .int x1)]) hx hb dX11_isUnder_1 rfl hl (by decide) rfl (fun ls hl => ?_)
  refine lv_iconst (v := (0 : Int32)) hx hb dX11_isUnder_2 (by decide) ?_
  refine lv_istore_n (lv' := [(3, .int (0 : Int32)), (2, .int x0), (0, .int x0), (1, .int x1)]) hx hb dX11_isUnder_3 rfl hl (by decide) rfl (fun ls hl => ?_)
  exact ih4 x1 x0 (0 : Int32) h H locs ls hP hD hS (lv_sub hl [3, 1, 0] rfl)
theorem LG_X11_isUnder {p : Program} {l : Launch} {e : Env} {s : State} {m : MethodId} {args : Array Value} {below : List Frame} {meth : Method} {c : Code} {A : Nat → Prop} {D : va_G} {cs : Nat → ClassId} {ad : Nat → Nat} {R : Int32 × Unit} (C0 : zC p s m args meth c cX11_isUnder 4 (some .boolean) RX11 zW) (hK : va_K D classes (zT cs) s) (hA : ∀ q : Nat, s.heap.size ≤ q → A q) : ∀ n : Nat, (∀ (x1 : Int32) (x2 : Int32) (x3 : Int32) (h : (G_X11_isUnder    n) x1 x2 x3 = some R) (H : Heap) (locs : List Loc) (ls : Array Slot) (hP : va_P D classes (wl_X11_isUnder ad cs ) H) (hD : va_D A (wl_X11_isUnder ad cs )) (hS : va_S A s.heap H locs) (hl : lv_has ls 4 [(1, .int x1), (2, .int x2), (3, .int x3)]), W p l e rm_X11_isUnder s m args below meth c H locs 0 0 (MQ below (Q_X11_isUnder D cs ad  A R) args s 0 0 A) (F0 m 4 ls [])) := by
  intro n
  induction n with
  | zero =>
    refine ?_ <;> (intros; rename_i h _ _ _ _ _ _ _; cases h)
  | succ n ih =>
    exact L_X11_isUnder_4 C0 hK hA  ih
set_option maxHeartbeats 4000000 in
set_option maxRecDepth 100000 in
theorem c_X11_isUnder (l : Launch) (D : va_G) (cs : Nat → ClassId) (ad : Nat → Nat) (sz : Nat) (n : Nat) (x0 : Int32) (x1 : Int32)  (R : Int32 × Unit) (h : f_X11_isUnder   n x0 x1  = some R) : Met l yX11_isUnder (z_X11_isUnder) rm_X11_isUnder (va_Pc [.int x0, .int x1] (zPre D cs (wl_X11_isUnder ad cs ) sz)) (Q_X11_isUnder D cs ad  (va_A (wl_X11_isUnder ad cs ) sz) R) 0 0 (va_A (wl_X11_isUnder ad cs ) sz) := by
  refine Met.ofW (cc := cX11_isUnder) (maxL := 4) (ret := (some .boolean)) (by decide) rfl ?_
  intro p e s m args below meth c s₁ B hml hv
  obtain ⟨rfl, hsz, hP, hK, hD0⟩ := hv
  subst hsz
  have hD := hD0.self (sz := s.heap.size)
  have C0 : zC p s m _ meth c cX11_isUnder 4 (some .boolean) RX11 zW := ⟨B.exec, B.bytes, B.returns, hml, findClass_of_methodNamed B.named, fun w hw => atoms_spec (ws := z_X11_isUnder) B.pre w (List.mem_cons_of_mem _ hw), B.notSynchronized⟩
  have hA : ∀ q : Nat, s.heap.size ≤ q → va_A (wl_X11_isUnder ad cs ) s.heap.size q := fun q h => Or.inr h
  have hl := lv_entry ([.int x0, .int x1]) (n := 4) (Nat.le_of_ble_eq_true rfl)
  rw [lg_entry_eq]
  generalize (lg_sl ([.int x0, .int x1]) ++ List.replicate (4 - (lg_sl ([.int x0, .int x1])).length) Slot.unset).toArray = ls at hl ⊢
  exact L_X11_isUnder_0 C0 hK hA  ((LG_X11_isUnder C0 hK hA  n)) x0 x1  h s.heap [] ls hP hD va_S.rf hl
theorem kw_1282 : Cond.methodLink RX11 384 yX11_isUnder ∈ zW := zwC (i := 8) zc_6 rfl rfl
theorem kw_1283 : Cond.static yX11_isUnder ∈ zW := zwC (i := 9) zc_6 rfl rfl
theorem kw_1284 : Cond.code yX11_isUnder cX11_isUnder 4 (some .boolean) ∈ zW := zwC (i := 10) zc_6 rfl rfl
theorem zh_cX11_taken_0 : zck [42, 27, 182, 0, 111, 78, 45, 198, 0, 13, 28, 155, 0, 9, 28, 16, 7, 161, 0, 5, 2, 172] (zdu 0 cX11_taken.data.toList) = true := by decide +kernel
theorem dX11_taken_0 : decode cX11_taken 0 = .ok (.aload_n 0, 1) := zo_42 zh_cX11_taken_0 0 rfl
theorem dX11_taken_1 : decode cX11_taken 1 = .ok (.iload_n 1, 1) := zo_27 zh_cX11_taken_0 1 rfl
theorem dX11_taken_2 : decode cX11_taken 2 = .ok (.invokevirtual 111, 3) := zo_182 zh_cX11_taken_0 2 rfl
theorem dX11_taken_5 : decode cX11_taken 5 = .ok (.astore_n 3, 1) := zo_78 zh_cX11_taken_0 5 rfl
theorem dX11_taken_6 : decode cX11_taken 6 = .ok (.aload_n 3, 1) := zo_45 zh_cX11_taken_0 6 rfl
theorem dX11_taken_7 : decode cX11_taken 7 = .ok (.ifnull 13, 3) := zo_p198 zh_cX11_taken_0 7 13 rfl rfl
theorem dX11_taken_10 : decode cX11_taken 10 = .ok (.iload_n 2, 1) := zo_28 zh_cX11_taken_0 10 rfl
theorem dX11_taken_11 : decode cX11_taken 11 = .ok (.ifCond .lt 9, 3) := zo_p155 zh_cX11_taken_0 11 9 rfl rfl
theorem dX11_taken_14 : decode cX11_taken 14 = .ok (.iload_n 2, 1) := zo_28 zh_cX11_taken_0 14 rfl
theorem dX11_taken_15 : decode cX11_taken 15 = .ok (.bipush 7, 2) := zo_p16 zh_cX11_taken_0 15 7 rfl rfl
theorem dX11_taken_17 : decode cX11_taken 17 = .ok (.if_icmp .lt 5, 3) := zo_p161 zh_cX11_taken_0 17 5 rfl rfl
theorem zh_cX11_taken_1 : zck [2, 172, 45, 180, 0, 115, 2, 160, 0, 6, 16, 245, 172, 45, 180, 0, 115, 8, 160, 0, 17, 42] (zdu 20 cX11_taken.data.toList) = true := by decide +kernel
theorem dX11_taken_20 : decode cX11_taken 20 = .ok (.iconst (-1), 1) := zo_2 zh_cX11_taken_1 0 rfl
theorem dX11_taken_21 : decode cX11_taken 21 = .ok (.ireturn, 1) := zo_172 zh_cX11_taken_1 1 rfl
theorem dX11_taken_22 : decode cX11_taken 22 = .ok (.aload_n 3, 1) := zo_45 zh_cX11_taken_1 2 rfl
theorem dX11_taken_23 : decode cX11_taken 23 = .ok (.getfield 115, 3) := zo_180 zh_cX11_taken_1 3 rfl
theorem dX11_taken_26 : decode cX11_taken 26 = .ok (.iconst (-1), 1) := zo_2 zh_cX11_taken_1 6 rfl
theorem dX11_taken_27 : decode cX11_taken 27 = .ok (.if_icmp .ne 6, 3) := zo_p160 zh_cX11_taken_1 7 6 rfl rfl
theorem dX11_taken_30 : decode cX11_taken 30 = .ok (.bipush (-11), 2) := zo_n16 zh_cX11_taken_1 10 10 rfl rfl
theorem dX11_taken_32 : decode cX11_taken 32 = .ok (.ireturn, 1) := zo_172 zh_cX11_taken_1 12 rfl
theorem dX11_taken_33 : decode cX11_taken 33 = .ok (.aload_n 3, 1) := zo_45 zh_cX11_taken_1 13 rfl
theorem dX11_taken_34 : decode cX11_taken 34 = .ok (.getfield 115, 3) := zo_180 zh_cX11_taken_1 14 rfl
theorem dX11_taken_37 : decode cX11_taken 37 = .ok (.iconst 5, 1) := zo_8 zh_cX11_taken_1 17 rfl
theorem dX11_taken_38 : decode cX11_taken 38 = .ok (.if_icmp .ne 17, 3) := zo_p160 zh_cX11_taken_1 18 17 rfl rfl
theorem zh_cX11_taken_2 : zck [17, 42, 180, 0, 10, 45, 180, 1, 100, 182, 0, 207, 167, 0, 4, 1, 58, 4, 25, 4, 198, 0] (zdu 40 cX11_taken.data.toList) = true := by decide +kernel
theorem dX11_taken_41 : decode cX11_taken 41 = .ok (.aload_n 0, 1) := zo_42 zh_cX11_taken_2 1 rfl
theorem dX11_taken_42 : decode cX11_taken 42 = .ok (.getfield 10, 3) := zo_180 zh_cX11_taken_2 2 rfl
theorem dX11_taken_45 : decode cX11_taken 45 = .ok (.aload_n 3, 1) := zo_45 zh_cX11_taken_2 5 rfl
theorem dX11_taken_46 : decode cX11_taken 46 = .ok (.getfield 356, 3) := zo_180 zh_cX11_taken_2 6 rfl
theorem dX11_taken_49 : decode cX11_taken 49 = .ok (.invokevirtual 207, 3) := zo_182 zh_cX11_taken_2 9 rfl
theorem dX11_taken_52 : decode cX11_taken 52 = .ok (.goto 4, 3) := zo_p167 zh_cX11_taken_2 12 4 rfl rfl
theorem dX11_taken_55 : decode cX11_taken 55 = .ok (.aconst_null, 1) := zo_1 zh_cX11_taken_2 15 rfl
theorem dX11_taken_56 : decode cX11_taken 56 = .ok (.astore 4, 2) := zo_58 zh_cX11_taken_2 16 rfl
theorem dX11_taken_58 : decode cX11_taken 58 = .ok (.aload 4, 2) := zo_25 zh_cX11_taken_2 18 rfl
theorem zh_cX11_taken_3 : zck [198, 0, 15, 25, 4, 182, 1, 75, 28, 184, 1, 128, 154, 0, 6, 16, 244, 172, 25, 4, 182, 1] (zdu 60 cX11_taken.data.toList) = true := by decide +kernel
theorem dX11_taken_60 : decode cX11_taken 60 = .ok (.ifnull 15, 3) := zo_p198 zh_cX11_taken_3 0 15 rfl rfl
theorem dX11_taken_63 : decode cX11_taken 63 = .ok (.aload 4, 2) := zo_25 zh_cX11_taken_3 3 rfl
theorem dX11_taken_65 : decode cX11_taken 65 = .ok (.invokevirtual 331, 3) := zo_182 zh_cX11_taken_3 5 rfl
theorem dX11_taken_68 : decode cX11_taken 68 = .ok (.iload_n 2, 1) := zo_28 zh_cX11_taken_3 8 rfl
theorem dX11_taken_69 : decode cX11_taken 69 = .ok (.invokestatic 384, 3) := zo_184 zh_cX11_taken_3 9 rfl
theorem dX11_taken_72 : decode cX11_taken 72 = .ok (.ifCond .ne 6, 3) := zo_p154 zh_cX11_taken_3 12 6 rfl rfl
theorem dX11_taken_75 : decode cX11_taken 75 = .ok (.bipush (-12), 2) := zo_n16 zh_cX11_taken_3 15 11 rfl rfl
theorem dX11_taken_77 : decode cX11_taken 77 = .ok (.ireturn, 1) := zo_172 zh_cX11_taken_3 17 rfl
theorem dX11_taken_78 : decode cX11_taken 78 = .ok (.aload 4, 2) := zo_25 zh_cX11_taken_3 18 rfl
theorem zh_cX11_taken_4 : zck [182, 1, 75, 172] (zdu 80 cX11_taken.data.toList) = true := by decide +kernel
theorem dX11_taken_80 : decode cX11_taken 80 = .ok (.invokevirtual 331, 3) := zo_182 zh_cX11_taken_4 0 rfl
theorem dX11_taken_83 : decode cX11_taken 83 = .ok (.ireturn, 1) := zo_172 zh_cX11_taken_4 3 rfl
abbrev z_X11_taken : List Cond := .code yX11_taken cX11_taken 5 (some .int) :: zW
abbrev wx_X11_taken (ad : Nat → Nat) (cs : Nat → ClassId) (PL : va_W) (S_a : Nat → Nat) (S_b : Nat → Nat) (h_pl : Nat) (h_pl_elements : Nat) (root_places : Nat → Option Nat) (court_shoeCount : Int32) (court_claimCount : Int32) (court_suitCount : Int32) (court_suits : Nat → Option Nat) (pl_holds : Int32) (pl_suit : Int32) (pl_size : Int32) (S_who : Nat → Int32) (S_against : Nat → Int32) (S_kind : Nat → Int32) (S_won : Nat → Int32) (S_day : Nat → Int32) (S_land : Nat → Int32) (S_undoneFrom : Nat → Int32) (S_asked : Nat → Nat → Int32) (S_askedCount : Nat → Int32) (S_askedBits : Nat → Int32) (S_first : Nat → Int32) (S_foundSo : Nat → Int32) (S_foundNot : Nat → Int32) (S_fought : Nat → Int32) (S_needed : Nat → Int32) : va_W := [((ad 0), .inr (11, [.ref (ad 4), .ref (ad 15), .ref (ad 23), .ref (ad 25), .ref (ad 26), .ref (ad 28), .ref (ad 34), .ref (ad 39), .ref (ad 1), .ref (ad 2), .ref (ad 3)])), ((ad 1), .inl (cs 7, 6, .inr (.inr (.inr (.inr root_places))))), ((ad 4), .inr (2, [.ref (ad 5), .ref (ad 6), .ref (ad 7), .ref (ad 8), .ref (ad 9), .ref (ad 10), .ref (ad 11), .ref (ad 12), .ref (ad 13), .ref (ad 14), .int court_shoeCount, .int court_claimCount, .int court_suitCount])), ((ad 13), .inl (cs 5, 40, .inr (.inr (.inr (.inr court_suits))))), (h_pl, .inr (6, [.int pl_holds, .int pl_suit, .int pl_size, .ref h_pl_elements]))]
abbrev wl_X11_taken (ad : Nat → Nat) (cs : Nat → ClassId) (PL : va_W) (S_a : Nat → Nat) (S_b : Nat → Nat) (h_pl : Nat) (h_pl_elements : Nat) (root_places : Nat → Option Nat) (court_shoeCount : Int32) (court_claimCount : Int32) (court_suitCount : Int32) (court_suits : Nat → Option Nat) (pl_holds : Int32) (pl_suit : Int32) (pl_size : Int32) (S_who : Nat → Int32) (S_against : Nat → Int32) (S_kind : Nat → Int32) (S_won : Nat → Int32) (S_day : Nat → Int32) (S_land : Nat → Int32) (S_undoneFrom : Nat → Int32) (S_asked : Nat → Nat → Int32) (S_askedCount : Nat → Int32) (S_askedBits : Nat → Int32) (S_first : Nat → Int32) (S_foundSo : Nat → Int32) (S_foundNot : Nat → Int32) (S_fought : Nat → Int32) (S_needed : Nat → Int32) : va_W := wx_X11_taken ad cs PL S_a S_b h_pl h_pl_elements root_places court_shoeCount court_claimCount court_suitCount court_suits pl_holds pl_suit pl_size S_who S_against S_kind S_won S_day S_land S_undoneFrom S_asked S_askedCount S_askedBits S_first S_foundSo S_foundNot S_fought S_needed ++ PL
def Q_X11_taken (D : va_G) (cs : Nat → ClassId) (ad : Nat → Nat) (PL : va_W) (S_a : Nat → Nat) (S_b : Nat → Nat) (h_pl : Nat) (h_pl_elements : Nat) (root_places : Nat → Option Nat) (court_shoeCount : Int32) (court_claimCount : Int32) (court_suitCount : Int32) (court_suits : Nat → Option Nat) (pl_holds : Int32) (pl_suit : Int32) (pl_size : Int32) (S_who : Nat → Int32) (S_against : Nat → Int32) (S_kind : Nat → Int32) (S_won : Nat → Int32) (S_day : Nat → Int32) (S_land : Nat → Int32) (S_undoneFrom : Nat → Int32) (S_asked : Nat → Nat → Int32) (S_askedCount : Nat → Int32) (S_askedBits : Nat → Int32) (S_first : Nat → Int32) (S_foundSo : Nat → Int32) (S_foundNot : Nat → Int32) (S_fought : Nat → Int32) (S_needed : Nat → Int32) (A : Nat → Prop) (R : Int32 × Unit) : Array Value → State → Outcome → State → Prop :=
  va_Qi (fun (r : Int32) (u : Unit) => (r, u) = R) (fun (u : Unit) (t : State) => va_P D classes (wl_X11_taken ad cs PL S_a S_b h_pl h_pl_elements root_places court_shoeCount court_claimCount court_suitCount court_suits pl_holds pl_suit pl_size S_who S_against S_kind S_won S_day S_land S_undoneFrom S_asked S_askedCount S_askedBits S_first S_foundSo S_foundNot S_fought S_needed) t.heap ∧ va_D A (wl_X11_taken ad cs PL S_a S_b h_pl h_pl_elements root_places court_shoeCount court_claimCount court_suitCount court_suits pl_holds pl_suit pl_size S_who S_against S_kind S_won S_day S_land S_undoneFrom S_asked S_askedCount S_askedBits S_first S_foundSo S_foundNot S_fought S_needed)) A
abbrev rm_X11_taken : Room := { frames := 2, cells := 0, slots := 0, locals := 43 }
theorem g_X11_384 : GoodIn zW (va_wsS RX11 384 yX11_isUnder z_X11_isUnder) := zGS kw_1282 kw_1283 kw_75 kw_1284
theorem hd_X11_isUnder : yX11_isUnder.cls ≠ "java/lang/invoke/MethodHandle" ∧ yX11_isUnder.cls ≠ "java/lang/invoke/VarHandle" ∧ (parseMethodDescriptor yX11_isUnder.desc).map (fun d => d.parameters.length) = some 2 := by decide +kernel
def B_X11_taken_0 (h_pl : Nat)   (root_places : Nat → Option Nat) (court_shoeCount : Int32) (court_claimCount : Int32) (court_suitCount : Int32) (court_suits : Nat → Option Nat) (pl_holds : Int32) (pl_suit : Int32) (pl_size : Int32) (S_who : Nat → Int32) (S_against : Nat → Int32) (S_kind : Nat → Int32) (S_won : Nat → Int32) (S_day : Nat → Int32) (S_land : Nat → Int32) (S_undoneFrom : Nat → Int32) (S_asked : Nat → Nat → Int32) (S_askedCount : Nat → Int32) (S_askedBits : Nat → Int32) (S_first : Nat → Int32) (S_foundSo : Nat → Int32) (S_foundNot : Nat → Int32) (S_fought : Nat → Int32) (S_needed : Nat → Int32) (x1 : Int32) (x2 : Int32) : Option (Int32 × Unit) :=
  (zk_b2 (f_X11_placeAt h_pl x1 root_places pl_holds pl_suit pl_size) (fun r_1 u_2 => (if r_1 = true then (if x2 < 0 then (some ((-1 : Int32), ())) else (if x2 < (7 : Int32) then (if pl_holds = (-1 : Int32) then (some ((-11 : Int32), ())) else (if pl_holds = (5 : Int32) then (zk_b2 (f_X2_suitAt pl_suit court_shoeCount court_claimCount court_suitCount court_suits S_who S_against S_kind S_won S_day S_land S_undoneFrom S_asked S_askedCount S_askedBits S_first S_foundSo S_foundNot S_fought S_needed) (fun r_9 u_10 => (if r_9 < 0 then (some ((-12 : Int32), ())) else (if (r_9 < 0 ∨ court_suitCount ≤ r_9) then none else (zk_b2 (f_X7_bodyKind (S_who r_9.toNatClampNeg) (S_against r_9.toNatClampNeg) (S_kind r_9.toNatClampNeg) (S_won r_9.toNatClampNeg) (S_day r_9.toNatClampNeg) (S_land r_9.toNatClampNeg) (S_undoneFrom r_9.toNatClampNeg) (S_askedCount r_9.toNatClampNeg) (S_askedBits r_9.toNatClampNeg) (S_first r_9.toNatClampNeg) (S_foundSo r_9.toNatClampNeg) (S_foundNot r_9.toNatClampNeg) (S_fought r_9.toNatClampNeg) (S_needed r_9.toNatClampNeg)) (fun r_17 u_18 => (zk_b2 (f_X11_isUnder 100000 r_17 x2) (fun r_20 u_21 => (if r_20 = 0 then (some ((-12 : Int32), ())) else (if (r_9 < 0 ∨ court_suitCount ≤ r_9) then none else (zk_b2 (f_X7_bodyKind (S_who r_9.toNatClampNeg) (S_against r_9.toNatClampNeg) (S_kind r_9.toNatClampNeg) (S_won r_9.toNatClampNeg) (S_day r_9.toNatClampNeg) (S_land r_9.toNatClampNeg) (S_undoneFrom r_9.toNatClampNeg) (S_askedCount r_9.toNatClampNeg) (S_askedBits r_9.toNatClampNeg) (S_first r_9.toNatClampNeg) (S_foundSo r_9.toNatClampNeg) (S_foundNot r_9.toNatClampNeg) (S_fought r_9.toNatClampNeg) (S_needed r_9.toNatClampNeg)) (fun r_28 u_29 => (some (r_28, ())))))))))))))) else (some ((-12 : Int32), ())))) else (some ((-1 : Int32), ())))) else (some ((-1 : Int32), ())))))
def f_X11_taken (h_pl : Nat)  (x1 : Int32) (x2 : Int32) (root_places : Nat → Option Nat) (court_shoeCount : Int32) (court_claimCount : Int32) (court_suitCount : Int32) (court_suits : Nat → Option Nat) (pl_holds : Int32) (pl_suit : Int32) (pl_size : Int32) (S_who : Nat → Int32) (S_against : Nat → Int32) (S_kind : Nat → Int32) (S_won : Nat → Int32) (S_day : Nat → Int32) (S_land : Nat → Int32) (S_undoneFrom : Nat → Int32) (S_asked : Nat → Nat → Int32) (S_askedCount : Nat → Int32) (S_askedBits : Nat → Int32) (S_first : Nat → Int32) (S_foundSo : Nat → Int32) (S_foundNot : Nat → Int32) (S_fought : Nat → Int32) (S_needed : Nat → Int32) : Option (Int32 × Unit) := B_X11_taken_0 h_pl  root_places court_shoeCount court_claimCount court_suitCount court_suits pl_holds pl_suit pl_size S_who S_against S_kind S_won S_day S_land S_undoneFrom S_asked S_askedCount S_askedBits S_first S_foundSo S_foundNot S_fought S_needed x1 x2 
set_option maxHeartbeats 4000000 in
set_option maxRecDepth 100000 in
theorem L_X11_taken_0 {p : Program} {l : Launch} {e : Env} {s : State} {m : MethodId} {args : Array Value} {below : List Frame} {meth : Method} {c : Code} {A : Nat → Prop} {D : va_G} {cs : Nat → ClassId} {ad : Nat → Nat} {PL : va_W} {S_a : Nat → Nat} {S_b : Nat → Nat} {h_pl : Nat} {h_pl_elements : Nat} {root_places : Nat → Option Nat} {court_shoeCount : Int32} {court_claimCount : Int32} {court_suitCount : Int32} {court_suits : Nat → Option Nat} {pl_holds : Int32} {pl_suit : Int32} {pl_size : Int32} {S_who : Nat → Int32} {S_against : Nat → Int32} {S_kind : Nat → Int32} {S_won : Nat → Int32} {S_day : Nat → Int32} {S_land : Nat → Int32} {S_undoneFrom : Nat → Int32} {S_asked : Nat → Nat → Int32} {S_askedCount : Nat → Int32} {S_askedBits : Nat → Int32} {S_first : Nat → Int32} {S_foundSo : Nat → Int32} {S_foundNot : Nat → Int32} {S_fought : Nat → Int32} {S_needed : Nat → Int32} {R : Int32 × Unit} (C0 : zC p s m args meth c cX11_taken 5 (some .int) RX11 zW) (hK : va_K D classes (zT cs) s) (hA : ∀ q : Nat, s.heap.size ≤ q → A q) (hSU : PSu cs PL court_suitCount court_suits S_a S_b S_who S_against S_kind S_won S_day S_land S_undoneFrom S_asked S_askedCount S_askedBits S_first S_foundSo S_foundNot S_fought S_needed) (x1 : Int32) (x2 : Int32) (h : B_X11_taken_0 h_pl root_places court_shoeCount court_claimCount court_suitCount court_suits pl_holds pl_suit pl_size S_who S_against S_kind S_won S_day S_land S_undoneFrom S_asked S_askedCount S_askedBits S_first S_foundSo S_foundNot S_fought S_needed x1 x2 = some R) (H : Heap) (locs : List Loc) (ls : Array Slot) (hP : va_P D classes (wl_X11_taken ad cs PL S_a S_b h_pl h_pl_elements root_places court_shoeCount court_claimCount court_suitCount court_suits pl_holds pl_suit pl_size S_who S_against S_kind S_won S_day S_land S_undoneFrom S_asked S_askedCount S_askedBits S_first S_foundSo S_foundNot S_fought S_needed) H) (hD : va_D A (wl_X11_taken ad cs PL S_a S_b h_pl h_pl_elements root_places court_shoeCount court_claimCount court_suitCount court_suits pl_holds pl_suit pl_size S_who S_against S_kind S_won S_day S_land S_undoneFrom S_asked S_askedCount S_askedBits S_first S_foundSo S_foundNot S_fought S_needed)) (hS : va_S A s.heap H locs) (hl : lv_has ls 5 [(0, .ref (ad 0)), (1, .int x1), (2, .int x2)]) : W p l e rm_X11_taken s m args below meth c H locs 0 0 (MQ below (Q_X11_taken D cs ad PL S_a S_b h_pl h_pl_elements root_places court_shoeCount court_claimCount court_suitCount court_suits pl_holds pl_suit pl_size S_who S_against S_kind S_won S_day S_land S_undoneFrom S_asked S_askedCount S_askedBits S_first S_foundSo S_foundNot S_fought S_needed A R) args s 0 0 A) (F0 m 0 ls []) := by
  obtain ⟨hx, hb, hr, hml, hown, ht, hlocks⟩ := id C0
  refine lv_aload_n hx hb dX11_taken_0 rfl (lv_at hl 0 rfl) ?_
  refine lv_iload_n hx hb dX11_taken_1 rfl (lv_at hl 1 rfl) ?_
  obtain ⟨r_1, u_2, hc_3, h⟩ := zk_o2 h
  refine zz_vqQ (post := (fun r u => r = (if r_1 = true then some h_pl else none) ∧ u = (u_2))) (w1 := fun u => (wl_X11_placeAt ad cs h_pl h_pl_elements root_places pl_holds pl_suit pl_size)) (As := [.int x1]) (rest := []) (c_X11_placeAt l D cs ad h_pl h_pl_elements H.size x1 root_places pl_holds pl_suit pl_size (r_1, u_2) hc_3) ⟨hx, hb, hml, hown, ht⟩ (cwV 1 ht g_X11_111 rfl rfl rfl ⟨rfl, hd_X11_placeAt⟩ ⟨Nat.le_of_ble_eq_true rfl, Nat.le_of_ble_eq_true rfl⟩) (va_recv hK hP (ci := 11) (q0 := 0) rfl rfl) hP hD hS hK hA [0, 1, 4] rfl rfl [(ad 0), (ad 1), h_pl] rfl (fun _ => rfl) rfl hl.1 (Nat.le_of_ble_eq_true rfl) dX11_taken_2 ⟨Nat.zero_le _, Nat.zero_le _⟩ (fun r u H locs hq hP hS => ?_)
  obtain ⟨hq1, hq2⟩ := hq; cases hq2; subst hq1
  have hP : va_P D classes (wl_X11_taken ad cs PL S_a S_b h_pl h_pl_elements root_places court_shoeCount court_claimCount court_suitCount court_suits pl_holds pl_suit pl_size S_who S_against S_kind S_won S_day S_land S_undoneFrom S_asked S_askedCount S_askedBits S_first S_foundSo S_foundNot S_fought S_needed) H := hP
  have hD : va_D A (wl_X11_taken ad cs PL S_a S_b h_pl h_pl_elements root_places court_shoeCount court_claimCount court_suitCount court_suits pl_holds pl_suit pl_size S_who S_against S_kind S_won S_day S_land S_undoneFrom S_asked S_askedCount S_askedBits S_first S_foundSo S_foundNot S_fought S_needed) := zDkp hD [(ad 0), (ad 1), (ad 4), (ad 13), h_pl] rfl rfl
  by_cases c_4 : r_1 = true
  · have h := zk_t c_4 h
    refine W.eq (g2 := F0 m 5 ls [.ref h_pl]) (by rw [if_pos c_4]; rfl) ?_
    refine lv_astore_n (lv' := [(3, .ref h_pl), (0, .ref (ad 0)), (1, .int x1), (2, .int x2)]) hx hb dX11_taken_5 rfl hl (by decide) rfl (fun ls hl => ?_)
    refine lv_aload_n hx hb dX11_taken_6 rfl (lv_at hl 0 rfl) ?_
    refine lv_ifnull hx hb dX11_taken_7 ?_
    refine lv_iload_n hx hb dX11_taken_10 rfl (lv_at hl 3 rfl) ?_
    refine lv_if_lt (tgt := 20) hx hb dX11_taken_11 (by decide) (fun c_5 => ?_) (fun c_5 => ?_)
    · have h := zk_t c_5 h
      refine lv_iconst (v := (-1 : Int32)) hx hb dX11_taken_20 (by decide) ?_
      exact W.iret (v := (-1 : Int32)) hx hb hr (fun t ht2 hW => ⟨⟨(-1 : Int32), (), rfl, Option.some.inj h, by rw [ht2]; exact hP, hD⟩, hS.F ht2⟩) hS.2.2 dX11_taken_21 hlocks
    · have h := zk_f c_5 h
      refine lv_iload_n hx hb dX11_taken_14 rfl (lv_at hl 3 rfl) ?_
      refine lv_bipush (v := (7 : Int32)) hx hb dX11_taken_15 (by decide) ?_
      refine lv_icmp_lt (tgt := 22) hx hb dX11_taken_17 (by decide) (fun c_6 => ?_) (fun c_6 => ?_)
      · have h := zk_t c_6 h
        refine lv_aload_n hx hb dX11_taken_22 rfl (lv_at hl 0 rfl) ?_
        refine va_get (D := D) (ci := 6) (v := .int pl_holds) (C := RX6) (T := TX6) (N := 4) hx hb ht iX6 hown hK hP 4 rfl rfl 0 (by decide) (ht _ kw_681) (fun _ h9 => h9) rfl dX11_taken_23 ?_
        refine lv_iconst (v := (-1 : Int32)) hx hb dX11_taken_26 (by decide) ?_
        refine lv_icmp_ne (tgt := 33) hx hb dX11_taken_27 (by decide) (fun c_7 => ?_) (fun c_7 => ?_)
        · have h := zk_f c_7 h
          refine lv_aload_n hx hb dX11_taken_33 rfl (lv_at hl 0 rfl) ?_
          refine va_get (D := D) (ci := 6) (v := .int pl_holds) (C := RX6) (T := TX6) (N := 4) hx hb ht iX6 hown hK hP 4 rfl rfl 0 (by decide) (ht _ kw_681) (fun _ h9 => h9) rfl dX11_taken_34 ?_
          refine lv_iconst (v := (5 : Int32)) hx hb dX11_taken_37 (by decide) ?_
          refine lv_icmp_ne (tgt := 55) hx hb dX11_taken_38 (by decide) (fun c_8 => ?_) (fun c_8 => ?_)
          · have h := zk_f c_8 h
            refine lv_null hx hb dX11_taken_55 ?_
            refine lv_astoreN (lv' := [(4, .null), (3, .ref h_pl), (0, .ref (ad 0)), (1, .int x1), (2, .int x2)]) hx hb dX11_taken_56 hl (by decide) rfl (fun ls hl => ?_)
            refine lv_aloadN hx hb dX11_taken_58 (lv_at hl 0 rfl) ?_
            refine lv_ifnullN (tgt := 75) hx hb dX11_taken_60 (by decide) ?_
            refine lv_bipush (v := (-12 : Int32)) hx hb dX11_taken_75 (by decide) ?_
            exact W.iret (v := (-12 : Int32)) hx hb hr (fun t ht2 hW => ⟨⟨(-12 : Int32), (), rfl, Option.some.inj h, by rw [ht2]; exact hP, hD⟩, hS.F ht2⟩) hS.2.2 dX11_taken_77 hlocks
          · have h := zk_t c_8 h
            refine lv_aload_n hx hb dX11_taken_41 rfl (lv_at hl 1 rfl) ?_
            refine va_get (D := D) (ci := 11) (v := .ref (ad 4)) (C := RX11) (T := TX11) (N := 11) hx hb ht iX11 hown hK hP 0 rfl rfl 0 (by decide) (ht _ kw_696) (fun _ h9 => h9) rfl dX11_taken_42 ?_
            refine lv_aload_n hx hb dX11_taken_45 rfl (lv_at hl 0 rfl) ?_
            refine va_get (D := D) (ci := 6) (v := .int pl_suit) (C := RX6) (T := TX6) (N := 4) hx hb ht iX6 hown hK hP 4 rfl rfl 1 (by decide) (ht _ kw_682) (fun _ h9 => h9) rfl dX11_taken_46 ?_
            obtain ⟨r_9, u_10, hc_11, h⟩ := zk_o2 h
            refine zz_vqP (post := (fun r u => r = (if r_9 < 0 then none else some (S_a r_9.toNatClampNeg)) ∧ u = (u_10))) (w1 := fun u => (wx_X2_suitAt ad cs PL S_a S_b court_shoeCount court_claimCount court_suitCount court_suits S_who S_against S_kind S_won S_day S_land S_undoneFrom S_asked S_askedCount S_askedBits S_first S_foundSo S_foundNot S_fought S_needed)) (PL := PL) (As := [.int pl_suit]) (rest := []) (c_X2_suitAt l D cs ad PL S_a S_b H.size pl_suit court_shoeCount court_claimCount court_suitCount court_suits S_who S_against S_kind S_won S_day S_land S_undoneFrom S_asked S_askedCount S_askedBits S_first S_foundSo S_foundNot S_fought S_needed hSU (r_9, u_10) hc_11) ⟨hx, hb, hml, hown, ht⟩ (cwV 1 ht g_X11_207 rfl rfl rfl ⟨rfl, hd_X2_suitAt⟩ ⟨Nat.le_of_ble_eq_true rfl, Nat.le_of_ble_eq_true rfl⟩) (va_recv hK hP (ci := 2) (q0 := 2) rfl rfl) hP hD hS hK hA [2, 3] rfl rfl [(ad 4), (ad 13)] rfl (fun _ => rfl) rfl hl.1 (Nat.le_of_ble_eq_true rfl) dX11_taken_49 ⟨Nat.zero_le _, Nat.zero_le _⟩ (fun r u H locs hq hP hS => ?_)
            obtain ⟨hq1, hq2⟩ := hq; cases hq2; subst hq1
            have hP : va_P D classes (wl_X11_taken ad cs PL S_a S_b h_pl h_pl_elements root_places court_shoeCount court_claimCount court_suitCount court_suits pl_holds pl_suit pl_size S_who S_against S_kind S_won S_day S_land S_undoneFrom S_asked S_askedCount S_askedBits S_first S_foundSo S_foundNot S_fought S_needed) H := hP
            have hD : va_D A (wl_X11_taken ad cs PL S_a S_b h_pl h_pl_elements root_places court_shoeCount court_claimCount court_suitCount court_suits pl_holds pl_suit pl_size S_who S_against S_kind S_won S_day S_land S_undoneFrom S_asked S_askedCount S_askedBits S_first S_foundSo S_foundNot S_fought S_needed) := zDkp hD [(ad 0), (ad 1), (ad 4), (ad 13), h_pl] rfl rfl
            by_cases c_12 : r_9 < 0
            · have h := zk_t c_12 h
              refine W.eq (g2 := F0 m 52 ls [.null]) (by rw [if_pos c_12]; rfl) ?_
              refine lv_goto (tgt := 56) hx hb dX11_taken_52 (by decide) ?_
              refine lv_astoreN (lv' := [(4, .null), (3, .ref h_pl), (0, .ref (ad 0)), (1, .int x1), (2, .int x2)]) hx hb dX11_taken_56 hl (by decide) rfl (fun ls hl => ?_)
              refine lv_aloadN hx hb dX11_taken_58 (lv_at hl 0 rfl) ?_
              refine lv_ifnullN (tgt := 75) hx hb dX11_taken_60 (by decide) ?_
              refine lv_bipush (v := (-12 : Int32)) hx hb dX11_taken_75 (by decide) ?_
              exact W.iret (v := (-12 : Int32)) hx hb hr (fun t ht2 hW => ⟨⟨(-12 : Int32), (), rfl, Option.some.inj h, by rw [ht2]; exact hP, hD⟩, hS.F ht2⟩) hS.2.2 dX11_taken_77 hlocks
            · have h := zk_f c_12 h
              refine W.eq (g2 := F0 m 52 ls [.ref (S_a r_9.toNatClampNeg)]) (by rw [if_neg c_12]; rfl) ?_
              refine lv_goto (tgt := 56) hx hb dX11_taken_52 (by decide) ?_
              refine lv_astore (lv' := [(4, .ref (S_a r_9.toNatClampNeg)), (3, .ref h_pl), (0, .ref (ad 0)), (1, .int x1), (2, .int x2)]) hx hb dX11_taken_56 hl (by decide) rfl (fun ls hl => ?_)
              refine lv_aload hx hb dX11_taken_58 (lv_at hl 0 rfl) ?_
              refine lv_ifnull hx hb dX11_taken_60 ?_
              refine lv_aload hx hb dX11_taken_63 (lv_at hl 0 rfl) ?_
              obtain ⟨g_13, h⟩ := zk_gd h
              obtain ⟨hs_14, ⟨_, hj_15⟩, ⟨_, hj_16⟩⟩ := hSU _ (zs_lt2 g_13)
              obtain ⟨r_17, u_18, hc_19, h⟩ := zk_o2 h
              refine zk_viM (post := (fun r u => (r, u) = (r_17, u_18))) (As := []) (rest := []) (c_X7_bodyKind l D cs ad (S_a r_9.toNatClampNeg) (S_b r_9.toNatClampNeg) H.size (S_who r_9.toNatClampNeg) (S_against r_9.toNatClampNeg) (S_kind r_9.toNatClampNeg) (S_won r_9.toNatClampNeg) (S_day r_9.toNatClampNeg) (S_land r_9.toNatClampNeg) (S_undoneFrom r_9.toNatClampNeg) (S_askedCount r_9.toNatClampNeg) (S_askedBits r_9.toNatClampNeg) (S_first r_9.toNatClampNeg) (S_foundSo r_9.toNatClampNeg) (S_foundNot r_9.toNatClampNeg) (S_fought r_9.toNatClampNeg) (S_needed r_9.toNatClampNeg) (r_17, u_18) hc_19) ⟨hx, hb, hml, hown, ht⟩ (cwV 0 ht g_X11_331 rfl rfl rfl ⟨rfl, hd_X7_bodyKind⟩ ⟨Nat.le_of_ble_eq_true rfl, Nat.le_of_ble_eq_true rfl⟩) (va_recv hK hP (ci := 7) (q0 := _) rfl (zPm hj_15 rfl)) hP hD hS hK hA _ (zPm hj_15 rfl) rfl hl.1 (Nat.le_of_ble_eq_true rfl) dX11_taken_65 ⟨Nat.zero_le _, Nat.zero_le _⟩ (fun r u H locs hq hP hD hS => ?_)
              cases hq
              have hP : va_P D classes (wl_X11_taken ad cs PL S_a S_b h_pl h_pl_elements root_places court_shoeCount court_claimCount court_suitCount court_suits pl_holds pl_suit pl_size S_who S_against S_kind S_won S_day S_land S_undoneFrom S_asked S_askedCount S_askedBits S_first S_foundSo S_foundNot S_fought S_needed) H := hP
              have hD : va_D A (wl_X11_taken ad cs PL S_a S_b h_pl h_pl_elements root_places court_shoeCount court_claimCount court_suitCount court_suits pl_holds pl_suit pl_size S_who S_against S_kind S_won S_day S_land S_undoneFrom S_asked S_askedCount S_askedBits S_first S_foundSo S_foundNot S_fought S_needed) := hD
              refine lv_iload_n hx hb dX11_taken_68 rfl (lv_at hl 4 rfl) ?_
              obtain ⟨r_20, u_21, hc_22, h⟩ := zk_o2 h
              refine zz_siQ (post := (fun r u => (r, u) = (r_20, u_21))) (w1 := fun u => (wl_X11_isUnder ad cs )) (As := [.int r_17, .int x2]) (rest := []) (c_X11_isUnder l D cs ad  H.size 100000 r_17 x2 (r_20, u_21) hc_22) ⟨hx, hb, hml, hown, ht⟩ (va_cwS 2 ht g_X11_384 rfl rfl rfl hd_X11_isUnder ⟨Nat.le_of_ble_eq_true rfl, Nat.le_of_ble_eq_true rfl⟩) hP hD hS hK hA [] rfl rfl [] rfl (fun _ => rfl) rfl hl.1 (Nat.le_of_ble_eq_true rfl) dX11_taken_69 ⟨Nat.zero_le _, Nat.zero_le _⟩ (fun r u H locs hq hP hS => ?_)
              cases hq
              have hP : va_P D classes (wl_X11_taken ad cs PL S_a S_b h_pl h_pl_elements root_places court_shoeCount court_claimCount court_suitCount court_suits pl_holds pl_suit pl_size S_who S_against S_kind S_won S_day S_land S_undoneFrom S_asked S_askedCount S_askedBits S_first S_foundSo S_foundNot S_fought S_needed) H := hP
              refine lv_if_ne (tgt := 78) hx hb dX11_taken_72 (by decide) (fun c_23 => ?_) (fun c_23 => ?_)
              · have h := zk_f c_23 h
                refine lv_aload hx hb dX11_taken_78 (lv_at hl 0 rfl) ?_
                obtain ⟨g_24, h⟩ := zk_gd h
                obtain ⟨hs_25, ⟨_, hj_26⟩, ⟨_, hj_27⟩⟩ := hSU _ (zs_lt2 g_24)
                obtain ⟨r_28, u_29, hc_30, h⟩ := zk_o2 h
                refine zk_viM (post := (fun r u => (r, u) = (r_28, u_29))) (As := []) (rest := []) (c_X7_bodyKind l D cs ad (S_a r_9.toNatClampNeg) (S_b r_9.toNatClampNeg) H.size (S_who r_9.toNatClampNeg) (S_against r_9.toNatClampNeg) (S_kind r_9.toNatClampNeg) (S_won r_9.toNatClampNeg) (S_day r_9.toNatClampNeg) (S_land r_9.toNatClampNeg) (S_undoneFrom r_9.toNatClampNeg) (S_askedCount r_9.toNatClampNeg) (S_askedBits r_9.toNatClampNeg) (S_first r_9.toNatClampNeg) (S_foundSo r_9.toNatClampNeg) (S_foundNot r_9.toNatClampNeg) (S_fought r_9.toNatClampNeg) (S_needed r_9.toNatClampNeg) (r_28, u_29) hc_30) ⟨hx, hb, hml, hown, ht⟩ (cwV 0 ht g_X11_331 rfl rfl rfl ⟨rfl, hd_X7_bodyKind⟩ ⟨Nat.le_of_ble_eq_true rfl, Nat.le_of_ble_eq_true rfl⟩) (va_recv hK hP (ci := 7) (q0 := _) rfl (zPm hj_26 rfl)) hP hD hS hK hA _ (zPm hj_26 rfl) rfl hl.1 (Nat.le_of_ble_eq_true rfl) dX11_taken_80 ⟨Nat.zero_le _, Nat.zero_le _⟩ (fun r u H locs hq hP hD hS => ?_)
                cases hq
                have hP : va_P D classes (wl_X11_taken ad cs PL S_a S_b h_pl h_pl_elements root_places court_shoeCount court_claimCount court_suitCount court_suits pl_holds pl_suit pl_size S_who S_against S_kind S_won S_day S_land S_undoneFrom S_asked S_askedCount S_askedBits S_first S_foundSo S_foundNot S_fought S_needed) H := hP
                have hD : va_D A (wl_X11_taken ad cs PL S_a S_b h_pl h_pl_elements root_places court_shoeCount court_claimCount court_suitCount court_suits pl_holds pl_suit pl_size S_who S_against S_kind S_won S_day S_land S_undoneFrom S_asked S_askedCount S_askedBits S_first S_foundSo S_foundNot S_fought S_needed) := hD
                exact W.iret (v := r_28) hx hb hr (fun t ht2 hW => ⟨⟨r_28, (), rfl, Option.some.inj h, by rw [ht2]; exact hP, hD⟩, hS.F ht2⟩) hS.2.2 dX11_taken_83 hlocks
              · have h := zk_t c_23 h
                refine lv_bipush (v := (-12 : Int32)) hx hb dX11_taken_75 (by decide) ?_
                exact W.iret (v := (-12 : Int32)) hx hb hr (fun t ht2 hW => ⟨⟨(-12 : Int32), (), rfl, Option.some.inj h, by rw [ht2]; exact hP, hD⟩, hS.F ht2⟩) hS.2.2 dX11_taken_77 hlocks
        · have h := zk_t c_7 h
          refine lv_bipush (v := (-11 : Int32)) hx hb dX11_taken_30 (by decide) ?_
          exact W.iret (v := (-11 : Int32)) hx hb hr (fun t ht2 hW => ⟨⟨(-11 : Int32), (), rfl, Option.some.inj h, by rw [ht2]; exact hP, hD⟩, hS.F ht2⟩) hS.2.2 dX11_taken_32 hlocks
      · have h := zk_f c_6 h
        refine lv_iconst (v := (-1 : Int32)) hx hb dX11_taken_20 (by decide) ?_
        exact W.iret (v := (-1 : Int32)) hx hb hr (fun t ht2 hW => ⟨⟨(-1 : Int32), (), rfl, Option.some.inj h, by rw [ht2]; exact hP, hD⟩, hS.F ht2⟩) hS.2.2 dX11_taken_21 hlocks
  · have h := zk_f c_4 h
    refine W.eq (g2 := F0 m 5 ls [.null]) (by rw [if_neg c_4]; rfl) ?_
    refine lv_astore_nN (lv' := [(3, .null), (0, .ref (ad 0)), (1, .int x1), (2, .int x2)]) hx hb dX11_taken_5 rfl hl (by decide) rfl (fun ls hl => ?_)
    refine lv_aload_nN hx hb dX11_taken_6 rfl (lv_at hl 0 rfl) ?_
    refine lv_ifnullN (tgt := 20) hx hb dX11_taken_7 (by decide) ?_
    refine lv_iconst (v := (-1 : Int32)) hx hb dX11_taken_20 (by decide) ?_
    exact W.iret (v := (-1 : Int32)) hx hb hr (fun t ht2 hW => ⟨⟨(-1 : Int32), (), rfl, Option.some.inj h, by rw [ht2]; exact hP, hD⟩, hS.F ht2⟩) hS.2.2 dX11_taken_21 hlocks
set_option maxHeartbeats 4000000 in
set_option maxRecDepth 100000 in
theorem c_X11_taken (l : Launch) (D : va_G) (cs : Nat → ClassId) (ad : Nat → Nat) (PL : va_W) (S_a : Nat → Nat) (S_b : Nat → Nat) (h_pl : Nat) (h_pl_elements : Nat) (sz : Nat) (x1 : Int32) (x2 : Int32) (root_places : Nat → Option Nat) (court_shoeCount : Int32) (court_claimCount : Int32) (court_suitCount : Int32) (court_suits : Nat → Option Nat) (pl_holds : Int32) (pl_suit : Int32) (pl_size : Int32) (S_who : Nat → Int32) (S_against : Nat → Int32) (S_kind : Nat → Int32) (S_won : Nat → Int32) (S_day : Nat → Int32) (S_land : Nat → Int32) (S_undoneFrom : Nat → Int32) (S_asked : Nat → Nat → Int32) (S_askedCount : Nat → Int32) (S_askedBits : Nat → Int32) (S_first : Nat → Int32) (S_foundSo : Nat → Int32) (S_foundNot : Nat → Int32) (S_fought : Nat → Int32) (S_needed : Nat → Int32) (hSU : PSu cs PL court_suitCount court_suits S_a S_b S_who S_against S_kind S_won S_day S_land S_undoneFrom S_asked S_askedCount S_askedBits S_first S_foundSo S_foundNot S_fought S_needed) (R : Int32 × Unit) (h : f_X11_taken h_pl  x1 x2 root_places court_shoeCount court_claimCount court_suitCount court_suits pl_holds pl_suit pl_size S_who S_against S_kind S_won S_day S_land S_undoneFrom S_asked S_askedCount S_askedBits S_first S_foundSo S_foundNot S_fought S_needed = some R) : Met l yX11_taken (z_X11_taken) rm_X11_taken (va_Pc [.ref (ad 0), .int x1, .int x2] (zPre D cs (wl_X11_taken ad cs PL S_a S_b h_pl h_pl_elements root_places court_shoeCount court_claimCount court_suitCount court_suits pl_holds pl_suit pl_size S_who S_against S_kind S_won S_day S_land S_undoneFrom S_asked S_askedCount S_askedBits S_first S_foundSo S_foundNot S_fought S_needed) sz)) (Q_X11_taken D cs ad PL S_a S_b h_pl h_pl_elements root_places court_shoeCount court_claimCount court_suitCount court_suits pl_holds pl_suit pl_size S_who S_against S_kind S_won S_day S_land S_undoneFrom S_asked S_askedCount S_askedBits S_first S_foundSo S_foundNot S_fought S_needed (va_A (wl_X11_taken ad cs PL S_a S_b h_pl h_pl_elements root_places court_shoeCount court_claimCount court_suitCount court_suits pl_holds pl_suit pl_size S_who S_against S_kind S_won S_day S_land S_undoneFrom S_asked S_askedCount S_askedBits S_first S_foundSo S_foundNot S_fought S_needed) sz) R) 0 0 (va_A (wl_X11_taken ad cs PL S_a S_b h_pl h_pl_elements root_places court_shoeCount court_claimCount court_suitCount court_suits pl_holds pl_suit pl_size S_who S_against S_kind S_won S_day S_land S_undoneFrom S_asked S_askedCount S_askedBits S_first S_foundSo S_foundNot S_fought S_needed) sz) := by
  refine Met.ofW (cc := cX11_taken) (maxL := 5) (ret := (some .int)) (by decide) rfl ?_
  intro p e s m args below meth c s₁ B hml hv
  obtain ⟨rfl, hsz, hP, hK, hD0⟩ := hv
  subst hsz
  have hD := hD0.self (sz := s.heap.size)
  have C0 : zC p s m _ meth c cX11_taken 5 (some .int) RX11 zW := ⟨B.exec, B.bytes, B.returns, hml, findClass_of_methodNamed B.named, fun w hw => atoms_spec (ws := z_X11_taken) B.pre w (List.mem_cons_of_mem _ hw), B.notSynchronized⟩
  have hA : ∀ q : Nat, s.heap.size ≤ q → va_A (wl_X11_taken ad cs PL S_a S_b h_pl h_pl_elements root_places court_shoeCount court_claimCount court_suitCount court_suits pl_holds pl_suit pl_size S_who S_against S_kind S_won S_day S_land S_undoneFrom S_asked S_askedCount S_askedBits S_first S_foundSo S_foundNot S_fought S_needed) s.heap.size q := fun q h => Or.inr h
  have hl := lv_entry ([.ref (ad 0), .int x1, .int x2]) (n := 5) (Nat.le_of_ble_eq_true rfl)
  rw [lg_entry_eq]
  generalize (lg_sl ([.ref (ad 0), .int x1, .int x2]) ++ List.replicate (5 - (lg_sl ([.ref (ad 0), .int x1, .int x2])).length) Slot.unset).toArray = ls at hl ⊢
  exact L_X11_taken_0 C0 hK hA hSU   x1 x2  h s.heap [] ls hP hD va_S.rf hl
theorem kw_430 : Cond.fieldLink RX11 390 "AlreadyJudged$Changes" "done" "I" ∈ zW := zwC (i := 116) zc_2 rfl rfl
theorem zh_cX11_count_0 : zck [27, 170, 0, 0, 0, 0, 0, 99, 0, 0, 0, 0, 0, 0, 0, 6, 0, 0, 0, 43, 0, 0] (zdu 0 cX11_count.data.toList) = true := by decide +kernel
theorem dX11_count_0 : decode cX11_count 0 = .ok (.iload_n 1, 1) := zo_27 zh_cX11_count_0 0 rfl
theorem dX11_count_1 : decode cX11_count 1 = .ok (.tableswitch 99 0 6 #[43, 51, 59, 67, 75, 83, 91], 43) := by decide +kernel
theorem zh_cX11_count_2 : zck [0, 0, 0, 91, 42, 180, 0, 10, 180, 1, 131, 172, 42, 180, 0, 10, 180, 0, 194, 172, 42, 180] (zdu 40 cX11_count.data.toList) = true := by decide +kernel
theorem dX11_count_44 : decode cX11_count 44 = .ok (.aload_n 0, 1) := zo_42 zh_cX11_count_2 4 rfl
theorem dX11_count_45 : decode cX11_count 45 = .ok (.getfield 10, 3) := zo_180 zh_cX11_count_2 5 rfl
theorem dX11_count_48 : decode cX11_count 48 = .ok (.getfield 387, 3) := zo_180 zh_cX11_count_2 8 rfl
theorem dX11_count_51 : decode cX11_count 51 = .ok (.ireturn, 1) := zo_172 zh_cX11_count_2 11 rfl
theorem dX11_count_52 : decode cX11_count 52 = .ok (.aload_n 0, 1) := zo_42 zh_cX11_count_2 12 rfl
theorem dX11_count_53 : decode cX11_count 53 = .ok (.getfield 10, 3) := zo_180 zh_cX11_count_2 13 rfl
theorem dX11_count_56 : decode cX11_count 56 = .ok (.getfield 194, 3) := zo_180 zh_cX11_count_2 16 rfl
theorem dX11_count_59 : decode cX11_count 59 = .ok (.ireturn, 1) := zo_172 zh_cX11_count_2 19 rfl
theorem zh_cX11_count_3 : zck [42, 180, 0, 10, 180, 0, 191, 172, 42, 180, 0, 28, 180, 0, 98, 172, 42, 180, 0, 51, 180, 1] (zdu 60 cX11_count.data.toList) = true := by decide +kernel
theorem dX11_count_60 : decode cX11_count 60 = .ok (.aload_n 0, 1) := zo_42 zh_cX11_count_3 0 rfl
theorem dX11_count_61 : decode cX11_count 61 = .ok (.getfield 10, 3) := zo_180 zh_cX11_count_3 1 rfl
theorem dX11_count_64 : decode cX11_count 64 = .ok (.getfield 191, 3) := zo_180 zh_cX11_count_3 4 rfl
theorem dX11_count_67 : decode cX11_count 67 = .ok (.ireturn, 1) := zo_172 zh_cX11_count_3 7 rfl
theorem dX11_count_68 : decode cX11_count 68 = .ok (.aload_n 0, 1) := zo_42 zh_cX11_count_3 8 rfl
theorem dX11_count_69 : decode cX11_count 69 = .ok (.getfield 28, 3) := zo_180 zh_cX11_count_3 9 rfl
theorem dX11_count_72 : decode cX11_count 72 = .ok (.getfield 98, 3) := zo_180 zh_cX11_count_3 12 rfl
theorem dX11_count_75 : decode cX11_count 75 = .ok (.ireturn, 1) := zo_172 zh_cX11_count_3 15 rfl
theorem dX11_count_76 : decode cX11_count 76 = .ok (.aload_n 0, 1) := zo_42 zh_cX11_count_3 16 rfl
theorem dX11_count_77 : decode cX11_count 77 = .ok (.getfield 51, 3) := zo_180 zh_cX11_count_3 17 rfl
theorem zh_cX11_count_4 : zck [180, 1, 31, 172, 42, 180, 0, 58, 180, 1, 134, 172, 42, 180, 0, 65, 180, 1, 72, 172, 2, 172] (zdu 80 cX11_count.data.toList) = true := by decide +kernel
theorem dX11_count_80 : decode cX11_count 80 = .ok (.getfield 287, 3) := zo_180 zh_cX11_count_4 0 rfl
theorem dX11_count_83 : decode cX11_count 83 = .ok (.ireturn, 1) := zo_172 zh_cX11_count_4 3 rfl
theorem dX11_count_84 : decode cX11_count 84 = .ok (.aload_n 0, 1) := zo_42 zh_cX11_count_4 4 rfl
theorem dX11_count_85 : decode cX11_count 85 = .ok (.getfield 58, 3) := zo_180 zh_cX11_count_4 5 rfl
theorem dX11_count_88 : decode cX11_count 88 = .ok (.getfield 390, 3) := zo_180 zh_cX11_count_4 8 rfl
theorem dX11_count_91 : decode cX11_count 91 = .ok (.ireturn, 1) := zo_172 zh_cX11_count_4 11 rfl
theorem dX11_count_92 : decode cX11_count 92 = .ok (.aload_n 0, 1) := zo_42 zh_cX11_count_4 12 rfl
theorem dX11_count_93 : decode cX11_count 93 = .ok (.getfield 65, 3) := zo_180 zh_cX11_count_4 13 rfl
theorem dX11_count_96 : decode cX11_count 96 = .ok (.getfield 328, 3) := zo_180 zh_cX11_count_4 16 rfl
theorem dX11_count_99 : decode cX11_count 99 = .ok (.ireturn, 1) := zo_172 zh_cX11_count_4 19 rfl
theorem zh_cX11_count_5 : zck [2, 172] (zdu 100 cX11_count.data.toList) = true := by decide +kernel
theorem dX11_count_100 : decode cX11_count 100 = .ok (.iconst (-1), 1) := zo_2 zh_cX11_count_5 0 rfl
theorem dX11_count_101 : decode cX11_count 101 = .ok (.ireturn, 1) := zo_172 zh_cX11_count_5 1 rfl
abbrev z_X11_count : List Cond := .code yX11_count cX11_count 2 (some .int) :: zW
abbrev wl_X11_count (ad : Nat → Nat) (cs : Nat → ClassId)  (court_shoeCount : Int32) (court_claimCount : Int32) (court_suitCount : Int32) (tape_size : Int32) (wishes_size : Int32) (wishes_best : Int32) (wishes_bestRow : Int32) (chg_done : Int32) (chg_size : Int32) (acts_ran : Int32) (acts_kind : Int32) (acts_number : Int32) (acts_claims : Int32) : va_W := [((ad 0), .inr (11, [.ref (ad 4), .ref (ad 15), .ref (ad 23), .ref (ad 25), .ref (ad 26), .ref (ad 28), .ref (ad 34), .ref (ad 39), .ref (ad 1), .ref (ad 2), .ref (ad 3)])), ((ad 4), .inr (2, [.ref (ad 5), .ref (ad 6), .ref (ad 7), .ref (ad 8), .ref (ad 9), .ref (ad 10), .ref (ad 11), .ref (ad 12), .ref (ad 13), .ref (ad 14), .int court_shoeCount, .int court_claimCount, .int court_suitCount])), ((ad 23), .inr (9, [.ref (ad 24), .int tape_size])), ((ad 28), .inr (10, [.ref (ad 29), .ref (ad 30), .int wishes_size, .ref (ad 31), .ref (ad 32), .ref (ad 33), .ref (ad 85), .int wishes_best, .int wishes_bestRow])), ((ad 34), .inr (1, [.ref (ad 4), .ref (ad 35), .ref (ad 36), .ref (ad 37), .ref (ad 38), .int chg_done, .int chg_size])), ((ad 39), .inr (0, [.ref (ad 40), .int acts_ran, .int acts_kind, .int acts_number, .int acts_claims]))]
def Q_X11_count (D : va_G) (cs : Nat → ClassId) (ad : Nat → Nat)  (court_shoeCount : Int32) (court_claimCount : Int32) (court_suitCount : Int32) (tape_size : Int32) (wishes_size : Int32) (wishes_best : Int32) (wishes_bestRow : Int32) (chg_done : Int32) (chg_size : Int32) (acts_ran : Int32) (acts_kind : Int32) (acts_number : Int32) (acts_claims : Int32) (A : Nat → Prop) (R : Int32 × Unit) : Array Value → State → Outcome → State → Prop :=
  va_Qi (fun (r : Int32) (u : Unit) => (r, u) = R) (fun (u : Unit) (t : State) => va_P D classes (wl_X11_count ad cs court_shoeCount court_claimCount court_suitCount tape_size wishes_size wishes_best wishes_bestRow chg_done chg_size acts_ran acts_kind acts_number acts_claims) t.heap ∧ va_D A (wl_X11_count ad cs court_shoeCount court_claimCount court_suitCount tape_size wishes_size wishes_best wishes_bestRow chg_done chg_size acts_ran acts_kind acts_number acts_claims)) A
abbrev rm_X11_count : Room := { frames := 0, cells := 0, slots := 0, locals := 0 }
def B_X11_count_0    (court_shoeCount : Int32) (court_claimCount : Int32) (court_suitCount : Int32) (tape_size : Int32) (wishes_size : Int32) (wishes_best : Int32) (wishes_bestRow : Int32) (chg_done : Int32) (chg_size : Int32) (acts_ran : Int32) (acts_kind : Int32) (acts_number : Int32) (acts_claims : Int32) (x1 : Int32) : Option (Int32 × Unit) :=
  (if x1 = (0 : Int32) then (some (court_shoeCount, ())) else (if x1 = (1 : Int32) then (some (court_claimCount, ())) else (if x1 = (2 : Int32) then (some (court_suitCount, ())) else (if x1 = (3 : Int32) then (some (tape_size, ())) else (if x1 = (4 : Int32) then (some (wishes_size, ())) else (if x1 = (5 : Int32) then (some (chg_done, ())) else (if x1 = (6 : Int32) then (some (acts_ran, ())) else (some ((-1 : Int32), ())))))))))
def f_X11_count   (x1 : Int32) (court_shoeCount : Int32) (court_claimCount : Int32) (court_suitCount : Int32) (tape_size : Int32) (wishes_size : Int32) (wishes_best : Int32) (wishes_bestRow : Int32) (chg_done : Int32) (chg_size : Int32) (acts_ran : Int32) (acts_kind : Int32) (acts_number : Int32) (acts_claims : Int32) : Option (Int32 × Unit) := B_X11_count_0   court_shoeCount court_claimCount court_suitCount tape_size wishes_size wishes_best wishes_bestRow chg_done chg_size acts_ran acts_kind acts_number acts_claims x1 
set_option maxHeartbeats 4000000 in
set_option maxRecDepth 100000 in
theorem L_X11_count_0 {p : Program} {l : Launch} {e : Env} {s : State} {m : MethodId} {args : Array Value} {below : List Frame} {meth : Method} {c : Code} {A : Nat → Prop} {D : va_G} {cs : Nat → ClassId} {ad : Nat → Nat} {court_shoeCount : Int32} {court_claimCount : Int32} {court_suitCount : Int32} {tape_size : Int32} {wishes_size : Int32} {wishes_best : Int32} {wishes_bestRow : Int32} {chg_done : Int32} {chg_size : Int32} {acts_ran : Int32} {acts_kind : Int32} {acts_number : Int32} {acts_claims : Int32} {R : Int32 × Unit} (C0 : zC p s m args meth c cX11_count 2 (some .int) RX11 zW) (hK : va_K D classes (zT cs) s) (hA : ∀ q : Nat, s.heap.size ≤ q → A q) (x1 : Int32) (h : B_X11_count_0 court_shoeCount court_claimCount court_suitCount tape_size wishes_size wishes_best wishes_bestRow chg_done chg_size acts_ran acts_kind acts_number acts_claims x1 = some R) (H : Heap) (locs : List Loc) (ls : Array Slot) (hP : va_P D classes (wl_X11_count ad cs court_shoeCount court_claimCount court_suitCount tape_size wishes_size wishes_best wishes_bestRow chg_done chg_size acts_ran acts_kind acts_number acts_claims) H) (hD : va_D A (wl_X11_count ad cs court_shoeCount court_claimCount court_suitCount tape_size wishes_size wishes_best wishes_bestRow chg_done chg_size acts_ran acts_kind acts_number acts_claims)) (hS : va_S A s.heap H locs) (hl : lv_has ls 2 [(0, .ref (ad 0)), (1, .int x1)]) : W p l e rm_X11_count s m args below meth c H locs 0 0 (MQ below (Q_X11_count D cs ad court_shoeCount court_claimCount court_suitCount tape_size wishes_size wishes_best wishes_bestRow chg_done chg_size acts_ran acts_kind acts_number acts_claims A R) args s 0 0 A) (F0 m 0 ls []) := by
  obtain ⟨hx, hb, hr, hml, hown, ht, hlocks⟩ := id C0
  refine lv_iload_n hx hb dX11_count_0 rfl (lv_at hl 1 rfl) ?_
  by_cases c_1 : x1 = (0 : Int32)
  · have h := zk_t c_1 h
    refine lv_tableIn (tgt := 44) hx hb dX11_count_1 (by rw [c_1]; decide) (by rw [c_1]; decide) (by rw [c_1]; rfl) (by decide) ?_
    refine lv_aload_n hx hb dX11_count_44 rfl (lv_at hl 0 rfl) ?_
    refine va_get (D := D) (ci := 11) (v := .ref (ad 4)) (C := RX11) (T := TX11) (N := 11) hx hb ht iX11 hown hK hP 0 rfl rfl 0 (by decide) (ht _ kw_696) (fun _ h9 => h9) rfl dX11_count_45 ?_
    refine va_get (D := D) (ci := 2) (v := .int court_shoeCount) (C := RX2) (T := TX2) (N := 13) hx hb ht iX2 hown hK hP 1 rfl rfl 10 (by decide) (ht _ kw_151) (fun _ h9 => h9) rfl dX11_count_48 ?_
    exact W.iret (v := court_shoeCount) hx hb hr (fun t ht2 hW => ⟨⟨court_shoeCount, (), rfl, Option.some.inj h, by rw [ht2]; exact hP, hD⟩, hS.F ht2⟩) hS.2.2 dX11_count_51 hlocks
  · have h := zk_f c_1 h
    by_cases c_2 : x1 = (1 : Int32)
    · have h := zk_t c_2 h
      refine lv_tableIn (tgt := 52) hx hb dX11_count_1 (by rw [c_2]; decide) (by rw [c_2]; decide) (by rw [c_2]; rfl) (by decide) ?_
      refine lv_aload_n hx hb dX11_count_52 rfl (lv_at hl 0 rfl) ?_
      refine va_get (D := D) (ci := 11) (v := .ref (ad 4)) (C := RX11) (T := TX11) (N := 11) hx hb ht iX11 hown hK hP 0 rfl rfl 0 (by decide) (ht _ kw_696) (fun _ h9 => h9) rfl dX11_count_53 ?_
      refine va_get (D := D) (ci := 2) (v := .int court_claimCount) (C := RX2) (T := TX2) (N := 13) hx hb ht iX2 hown hK hP 1 rfl rfl 11 (by decide) (ht _ kw_153) (fun _ h9 => h9) rfl dX11_count_56 ?_
      exact W.iret (v := court_claimCount) hx hb hr (fun t ht2 hW => ⟨⟨court_claimCount, (), rfl, Option.some.inj h, by rw [ht2]; exact hP, hD⟩, hS.F ht2⟩) hS.2.2 dX11_count_59 hlocks
    · have h := zk_f c_2 h
      by_cases c_3 : x1 = (2 : Int32)
      · have h := zk_t c_3 h
        refine lv_tableIn (tgt := 60) hx hb dX11_count_1 (by rw [c_3]; decide) (by rw [c_3]; decide) (by rw [c_3]; rfl) (by decide) ?_
        refine lv_aload_n hx hb dX11_count_60 rfl (lv_at hl 0 rfl) ?_
        refine va_get (D := D) (ci := 11) (v := .ref (ad 4)) (C := RX11) (T := TX11) (N := 11) hx hb ht iX11 hown hK hP 0 rfl rfl 0 (by decide) (ht _ kw_696) (fun _ h9 => h9) rfl dX11_count_61 ?_
        refine va_get (D := D) (ci := 2) (v := .int court_suitCount) (C := RX2) (T := TX2) (N := 13) hx hb ht iX2 hown hK hP 1 rfl rfl 12 (by decide) (ht _ kw_155) (fun _ h9 => h9) rfl dX11_count_64 ?_
        exact W.iret (v := court_suitCount) hx hb hr (fun t ht2 hW => ⟨⟨court_suitCount, (), rfl, Option.some.inj h, by rw [ht2]; exact hP, hD⟩, hS.F ht2⟩) hS.2.2 dX11_count_67 hlocks
      · have h := zk_f c_3 h
        by_cases c_4 : x1 = (3 : Int32)
        · have h := zk_t c_4 h
          refine lv_tableIn (tgt := 68) hx hb dX11_count_1 (by rw [c_4]; decide) (by rw [c_4]; decide) (by rw [c_4]; rfl) (by decide) ?_
          refine lv_aload_n hx hb dX11_count_68 rfl (lv_at hl 0 rfl) ?_
          refine va_get (D := D) (ci := 11) (v := .ref (ad 23)) (C := RX11) (T := TX11) (N := 11) hx hb ht iX11 hown hK hP 0 rfl rfl 2 (by decide) (ht _ kw_698) (fun _ h9 => h9) rfl dX11_count_69 ?_
          refine va_get (D := D) (ci := 9) (v := .int tape_size) (C := RX9) (T := TX9) (N := 2) hx hb ht iX9 hown hK hP 2 rfl rfl 1 (by decide) (ht _ kw_236) (fun _ h9 => h9) rfl dX11_count_72 ?_
          exact W.iret (v := tape_size) hx hb hr (fun t ht2 hW => ⟨⟨tape_size, (), rfl, Option.some.inj h, by rw [ht2]; exact hP, hD⟩, hS.F ht2⟩) hS.2.2 dX11_count_75 hlocks
        · have h := zk_f c_4 h
          by_cases c_5 : x1 = (4 : Int32)
          · have h := zk_t c_5 h
            refine lv_tableIn (tgt := 76) hx hb dX11_count_1 (by rw [c_5]; decide) (by rw [c_5]; decide) (by rw [c_5]; rfl) (by decide) ?_
            refine lv_aload_n hx hb dX11_count_76 rfl (lv_at hl 0 rfl) ?_
            refine va_get (D := D) (ci := 11) (v := .ref (ad 28)) (C := RX11) (T := TX11) (N := 11) hx hb ht iX11 hown hK hP 0 rfl rfl 5 (by decide) (ht _ kw_701) (fun _ h9 => h9) rfl dX11_count_77 ?_
            refine va_get (D := D) (ci := 10) (v := .int wishes_size) (C := RX10) (T := TX10) (N := 9) hx hb ht iX10 hown hK hP 3 rfl rfl 2 (by decide) (ht _ kw_390) (fun _ h9 => h9) rfl dX11_count_80 ?_
            exact W.iret (v := wishes_size) hx hb hr (fun t ht2 hW => ⟨⟨wishes_size, (), rfl, Option.some.inj h, by rw [ht2]; exact hP, hD⟩, hS.F ht2⟩) hS.2.2 dX11_count_83 hlocks
          · have h := zk_f c_5 h
            by_cases c_6 : x1 = (5 : Int32)
            · have h := zk_t c_6 h
              refine lv_tableIn (tgt := 84) hx hb dX11_count_1 (by rw [c_6]; decide) (by rw [c_6]; decide) (by rw [c_6]; rfl) (by decide) ?_
              refine lv_aload_n hx hb dX11_count_84 rfl (lv_at hl 0 rfl) ?_
              refine va_get (D := D) (ci := 11) (v := .ref (ad 34)) (C := RX11) (T := TX11) (N := 11) hx hb ht iX11 hown hK hP 0 rfl rfl 6 (by decide) (ht _ kw_702) (fun _ h9 => h9) rfl dX11_count_85 ?_
              refine va_get (D := D) (ci := 1) (v := .int chg_done) (C := RX1) (T := TX1) (N := 7) hx hb ht iX1 hown hK hP 4 rfl rfl 5 (by decide) (ht _ kw_430) (fun _ h9 => h9) rfl dX11_count_88 ?_
              exact W.iret (v := chg_done) hx hb hr (fun t ht2 hW => ⟨⟨chg_done, (), rfl, Option.some.inj h, by rw [ht2]; exact hP, hD⟩, hS.F ht2⟩) hS.2.2 dX11_count_91 hlocks
            · have h := zk_f c_6 h
              by_cases c_7 : x1 = (6 : Int32)
              · have h := zk_t c_7 h
                refine lv_tableIn (tgt := 92) hx hb dX11_count_1 (by rw [c_7]; decide) (by rw [c_7]; decide) (by rw [c_7]; rfl) (by decide) ?_
                refine lv_aload_n hx hb dX11_count_92 rfl (lv_at hl 0 rfl) ?_
                refine va_get (D := D) (ci := 11) (v := .ref (ad 39)) (C := RX11) (T := TX11) (N := 11) hx hb ht iX11 hown hK hP 0 rfl rfl 7 (by decide) (ht _ kw_703) (fun _ h9 => h9) rfl dX11_count_93 ?_
                refine va_get (D := D) (ci := 0) (v := .int acts_ran) (C := RX0) (T := TX0) (N := 5) hx hb ht iX0 hown hK hP 5 rfl rfl 1 (by decide) (ht _ kw_456) (fun _ h9 => h9) rfl dX11_count_96 ?_
                exact W.iret (v := acts_ran) hx hb hr (fun t ht2 hW => ⟨⟨acts_ran, (), rfl, Option.some.inj h, by rw [ht2]; exact hP, hD⟩, hS.F ht2⟩) hS.2.2 dX11_count_99 hlocks
              · have h := zk_f c_7 h
                refine lv_tableOut (tgt := 100) hx hb dX11_count_1 (zk_out (lo := 0) (hi := 6) [(0 : Int32), (1 : Int32), (2 : Int32), (3 : Int32), (4 : Int32), (5 : Int32), (6 : Int32)] (by decide +kernel) (List.forall_mem_cons.mpr ⟨c_1, List.forall_mem_cons.mpr ⟨c_2, List.forall_mem_cons.mpr ⟨c_3, List.forall_mem_cons.mpr ⟨c_4, List.forall_mem_cons.mpr ⟨c_5, List.forall_mem_cons.mpr ⟨c_6, List.forall_mem_cons.mpr ⟨c_7, fun _ h => absurd h List.not_mem_nil⟩⟩⟩⟩⟩⟩⟩)) (by decide) ?_
                refine lv_iconst (v := (-1 : Int32)) hx hb dX11_count_100 (by decide) ?_
                exact W.iret (v := (-1 : Int32)) hx hb hr (fun t ht2 hW => ⟨⟨(-1 : Int32), (), rfl, Option.some.inj h, by rw [ht2]; exact hP, hD⟩, hS.F ht2⟩) hS.2.2 dX11_count_101 hlocks
set_option maxHeartbeats 4000000 in
set_option maxRecDepth 100000 in
theorem c_X11_count (l : Launch) (D : va_G) (cs : Nat → ClassId) (ad : Nat → Nat) (sz : Nat) (x1 : Int32) (court_shoeCount : Int32) (court_claimCount : Int32) (court_suitCount : Int32) (tape_size : Int32) (wishes_size : Int32) (wishes_best : Int32) (wishes_bestRow : Int32) (chg_done : Int32) (chg_size : Int32) (acts_ran : Int32) (acts_kind : Int32) (acts_number : Int32) (acts_claims : Int32) (R : Int32 × Unit) (h : f_X11_count   x1 court_shoeCount court_claimCount court_suitCount tape_size wishes_size wishes_best wishes_bestRow chg_done chg_size acts_ran acts_kind acts_number acts_claims = some R) : Met l yX11_count (z_X11_count) rm_X11_count (va_Pc [.ref (ad 0), .int x1] (zPre D cs (wl_X11_count ad cs court_shoeCount court_claimCount court_suitCount tape_size wishes_size wishes_best wishes_bestRow chg_done chg_size acts_ran acts_kind acts_number acts_claims) sz)) (Q_X11_count D cs ad court_shoeCount court_claimCount court_suitCount tape_size wishes_size wishes_best wishes_bestRow chg_done chg_size acts_ran acts_kind acts_number acts_claims (va_A (wl_X11_count ad cs court_shoeCount court_claimCount court_suitCount tape_size wishes_size wishes_best wishes_bestRow chg_done chg_size acts_ran acts_kind acts_number acts_claims) sz) R) 0 0 (va_A (wl_X11_count ad cs court_shoeCount court_claimCount court_suitCount tape_size wishes_size wishes_best wishes_bestRow chg_done chg_size acts_ran acts_kind acts_number acts_claims) sz) := by
  refine Met.ofW (cc := cX11_count) (maxL := 2) (ret := (some .int)) (by decide) rfl ?_
  intro p e s m args below meth c s₁ B hml hv
  obtain ⟨rfl, hsz, hP, hK, hD0⟩ := hv
  subst hsz
  have hD := hD0.self (sz := s.heap.size)
  have C0 : zC p s m _ meth c cX11_count 2 (some .int) RX11 zW := ⟨B.exec, B.bytes, B.returns, hml, findClass_of_methodNamed B.named, fun w hw => atoms_spec (ws := z_X11_count) B.pre w (List.mem_cons_of_mem _ hw), B.notSynchronized⟩
  have hA : ∀ q : Nat, s.heap.size ≤ q → va_A (wl_X11_count ad cs court_shoeCount court_claimCount court_suitCount tape_size wishes_size wishes_best wishes_bestRow chg_done chg_size acts_ran acts_kind acts_number acts_claims) s.heap.size q := fun q h => Or.inr h
  have hl := lv_entry ([.ref (ad 0), .int x1]) (n := 2) (Nat.le_of_ble_eq_true rfl)
  rw [lg_entry_eq]
  generalize (lg_sl ([.ref (ad 0), .int x1]) ++ List.replicate (2 - (lg_sl ([.ref (ad 0), .int x1])).length) Slot.unset).toArray = ls at hl ⊢
  exact L_X11_count_0 C0 hK hA   x1  h s.heap [] ls hP hD va_S.rf hl
theorem kw_1277 : Cond.methodLink RX11 378 arraycopyName ∈ zW := zwC (i := 3) zc_6 rfl rfl
theorem zh_cX11_shift_0 : zck [42, 27, 182, 0, 111, 58, 6, 42, 29, 182, 0, 111, 58, 7, 25, 6, 198, 0, 8, 25, 7, 199] (zdu 0 cX11_shift.data.toList) = true := by decide +kernel
theorem dX11_shift_0 : decode cX11_shift 0 = .ok (.aload_n 0, 1) := zo_42 zh_cX11_shift_0 0 rfl
theorem dX11_shift_1 : decode cX11_shift 1 = .ok (.iload_n 1, 1) := zo_27 zh_cX11_shift_0 1 rfl
theorem dX11_shift_2 : decode cX11_shift 2 = .ok (.invokevirtual 111, 3) := zo_182 zh_cX11_shift_0 2 rfl
theorem dX11_shift_5 : decode cX11_shift 5 = .ok (.astore 6, 2) := zo_58 zh_cX11_shift_0 5 rfl
theorem dX11_shift_7 : decode cX11_shift 7 = .ok (.aload_n 0, 1) := zo_42 zh_cX11_shift_0 7 rfl
theorem dX11_shift_8 : decode cX11_shift 8 = .ok (.iload_n 3, 1) := zo_29 zh_cX11_shift_0 8 rfl
theorem dX11_shift_9 : decode cX11_shift 9 = .ok (.invokevirtual 111, 3) := zo_182 zh_cX11_shift_0 9 rfl
theorem dX11_shift_12 : decode cX11_shift 12 = .ok (.astore 7, 2) := zo_58 zh_cX11_shift_0 12 rfl
theorem dX11_shift_14 : decode cX11_shift 14 = .ok (.aload 6, 2) := zo_25 zh_cX11_shift_0 14 rfl
theorem dX11_shift_16 : decode cX11_shift 16 = .ok (.ifnull 8, 3) := zo_p198 zh_cX11_shift_0 16 8 rfl rfl
theorem dX11_shift_19 : decode cX11_shift 19 = .ok (.aload 7, 2) := zo_25 zh_cX11_shift_0 19 rfl
theorem zh_cX11_shift_1 : zck [7, 199, 0, 5, 2, 172, 25, 6, 180, 0, 115, 2, 159, 0, 12, 25, 7, 180, 0, 115, 2, 160] (zdu 20 cX11_shift.data.toList) = true := by decide +kernel
theorem dX11_shift_21 : decode cX11_shift 21 = .ok (.ifnonnull 5, 3) := zo_p199 zh_cX11_shift_1 1 5 rfl rfl
theorem dX11_shift_24 : decode cX11_shift 24 = .ok (.iconst (-1), 1) := zo_2 zh_cX11_shift_1 4 rfl
theorem dX11_shift_25 : decode cX11_shift 25 = .ok (.ireturn, 1) := zo_172 zh_cX11_shift_1 5 rfl
theorem dX11_shift_26 : decode cX11_shift 26 = .ok (.aload 6, 2) := zo_25 zh_cX11_shift_1 6 rfl
theorem dX11_shift_28 : decode cX11_shift 28 = .ok (.getfield 115, 3) := zo_180 zh_cX11_shift_1 8 rfl
theorem dX11_shift_31 : decode cX11_shift 31 = .ok (.iconst (-1), 1) := zo_2 zh_cX11_shift_1 11 rfl
theorem dX11_shift_32 : decode cX11_shift 32 = .ok (.if_icmp .eq 12, 3) := zo_p159 zh_cX11_shift_1 12 12 rfl rfl
theorem dX11_shift_35 : decode cX11_shift 35 = .ok (.aload 7, 2) := zo_25 zh_cX11_shift_1 15 rfl
theorem dX11_shift_37 : decode cX11_shift 37 = .ok (.getfield 115, 3) := zo_180 zh_cX11_shift_1 17 rfl
theorem zh_cX11_shift_2 : zck [2, 160, 0, 6, 16, 245, 172, 25, 6, 180, 0, 115, 8, 159, 0, 16, 25, 6, 180, 0, 115, 25] (zdu 40 cX11_shift.data.toList) = true := by decide +kernel
theorem dX11_shift_40 : decode cX11_shift 40 = .ok (.iconst (-1), 1) := zo_2 zh_cX11_shift_2 0 rfl
theorem dX11_shift_41 : decode cX11_shift 41 = .ok (.if_icmp .ne 6, 3) := zo_p160 zh_cX11_shift_2 1 6 rfl rfl
theorem dX11_shift_44 : decode cX11_shift 44 = .ok (.bipush (-11), 2) := zo_n16 zh_cX11_shift_2 4 10 rfl rfl
theorem dX11_shift_46 : decode cX11_shift 46 = .ok (.ireturn, 1) := zo_172 zh_cX11_shift_2 6 rfl
theorem dX11_shift_47 : decode cX11_shift 47 = .ok (.aload 6, 2) := zo_25 zh_cX11_shift_2 7 rfl
theorem dX11_shift_49 : decode cX11_shift 49 = .ok (.getfield 115, 3) := zo_180 zh_cX11_shift_2 9 rfl
theorem dX11_shift_52 : decode cX11_shift 52 = .ok (.iconst 5, 1) := zo_8 zh_cX11_shift_2 12 rfl
theorem dX11_shift_53 : decode cX11_shift 53 = .ok (.if_icmp .eq 16, 3) := zo_p159 zh_cX11_shift_2 13 16 rfl rfl
theorem dX11_shift_56 : decode cX11_shift 56 = .ok (.aload 6, 2) := zo_25 zh_cX11_shift_2 16 rfl
theorem dX11_shift_58 : decode cX11_shift 58 = .ok (.getfield 115, 3) := zo_180 zh_cX11_shift_2 18 rfl
theorem zh_cX11_shift_3 : zck [115, 25, 7, 180, 0, 115, 159, 0, 6, 16, 244, 172, 25, 6, 28, 21, 5, 182, 1, 119, 153, 0] (zdu 60 cX11_shift.data.toList) = true := by decide +kernel
theorem dX11_shift_61 : decode cX11_shift 61 = .ok (.aload 7, 2) := zo_25 zh_cX11_shift_3 1 rfl
theorem dX11_shift_63 : decode cX11_shift 63 = .ok (.getfield 115, 3) := zo_180 zh_cX11_shift_3 3 rfl
theorem dX11_shift_66 : decode cX11_shift 66 = .ok (.if_icmp .eq 6, 3) := zo_p159 zh_cX11_shift_3 6 6 rfl rfl
theorem dX11_shift_69 : decode cX11_shift 69 = .ok (.bipush (-12), 2) := zo_n16 zh_cX11_shift_3 9 11 rfl rfl
theorem dX11_shift_71 : decode cX11_shift 71 = .ok (.ireturn, 1) := zo_172 zh_cX11_shift_3 11 rfl
theorem dX11_shift_72 : decode cX11_shift 72 = .ok (.aload 6, 2) := zo_25 zh_cX11_shift_3 12 rfl
theorem dX11_shift_74 : decode cX11_shift 74 = .ok (.iload_n 2, 1) := zo_28 zh_cX11_shift_3 14 rfl
theorem dX11_shift_75 : decode cX11_shift 75 = .ok (.iload 5, 2) := zo_21 zh_cX11_shift_3 15 rfl
theorem dX11_shift_77 : decode cX11_shift 77 = .ok (.invokevirtual 375, 3) := zo_182 zh_cX11_shift_3 17 rfl
theorem zh_cX11_shift_4 : zck [153, 0, 15, 25, 7, 21, 4, 21, 5, 182, 1, 119, 154, 0, 6, 16, 243, 172, 25, 6, 180, 1] (zdu 80 cX11_shift.data.toList) = true := by decide +kernel
theorem dX11_shift_80 : decode cX11_shift 80 = .ok (.ifCond .eq 15, 3) := zo_p153 zh_cX11_shift_4 0 15 rfl rfl
theorem dX11_shift_83 : decode cX11_shift 83 = .ok (.aload 7, 2) := zo_25 zh_cX11_shift_4 3 rfl
theorem dX11_shift_85 : decode cX11_shift 85 = .ok (.iload 4, 2) := zo_21 zh_cX11_shift_4 5 rfl
theorem dX11_shift_87 : decode cX11_shift 87 = .ok (.iload 5, 2) := zo_21 zh_cX11_shift_4 7 rfl
theorem dX11_shift_89 : decode cX11_shift 89 = .ok (.invokevirtual 375, 3) := zo_182 zh_cX11_shift_4 9 rfl
theorem dX11_shift_92 : decode cX11_shift 92 = .ok (.ifCond .ne 6, 3) := zo_p154 zh_cX11_shift_4 12 6 rfl rfl
theorem dX11_shift_95 : decode cX11_shift 95 = .ok (.bipush (-13), 2) := zo_n16 zh_cX11_shift_4 15 12 rfl rfl
theorem dX11_shift_97 : decode cX11_shift 97 = .ok (.ireturn, 1) := zo_172 zh_cX11_shift_4 17 rfl
theorem dX11_shift_98 : decode cX11_shift 98 = .ok (.aload 6, 2) := zo_25 zh_cX11_shift_4 18 rfl
theorem zh_cX11_shift_5 : zck [180, 1, 109, 28, 25, 7, 180, 1, 109, 21, 4, 21, 5, 184, 1, 122, 21, 5, 172] (zdu 100 cX11_shift.data.toList) = true := by decide +kernel
theorem dX11_shift_100 : decode cX11_shift 100 = .ok (.getfield 365, 3) := zo_180 zh_cX11_shift_5 0 rfl
theorem dX11_shift_103 : decode cX11_shift 103 = .ok (.iload_n 2, 1) := zo_28 zh_cX11_shift_5 3 rfl
theorem dX11_shift_104 : decode cX11_shift 104 = .ok (.aload 7, 2) := zo_25 zh_cX11_shift_5 4 rfl
theorem dX11_shift_106 : decode cX11_shift 106 = .ok (.getfield 365, 3) := zo_180 zh_cX11_shift_5 6 rfl
theorem dX11_shift_109 : decode cX11_shift 109 = .ok (.iload 4, 2) := zo_21 zh_cX11_shift_5 9 rfl
theorem dX11_shift_111 : decode cX11_shift 111 = .ok (.iload 5, 2) := zo_21 zh_cX11_shift_5 11 rfl
theorem dX11_shift_113 : decode cX11_shift 113 = .ok (.invokestatic 378, 3) := zo_184 zh_cX11_shift_5 13 rfl
theorem dX11_shift_116 : decode cX11_shift 116 = .ok (.iload 5, 2) := zo_21 zh_cX11_shift_5 16 rfl
theorem dX11_shift_118 : decode cX11_shift 118 = .ok (.ireturn, 1) := zo_172 zh_cX11_shift_5 18 rfl
abbrev z_X11_shift : List Cond := .code yX11_shift cX11_shift 8 (some .int) :: zW
abbrev wl_X11_shift (ad : Nat → Nat) (cs : Nat → ClassId) (h_pl : Nat) (h_pl_elements : Nat) (root_places : Nat → Option Nat) (pl_holds : Int32) (pl_suit : Int32) (pl_size : Int32) (pl_elements : Nat → Int64) : va_W := [((ad 0), .inr (11, [.ref (ad 4), .ref (ad 15), .ref (ad 23), .ref (ad 25), .ref (ad 26), .ref (ad 28), .ref (ad 34), .ref (ad 39), .ref (ad 1), .ref (ad 2), .ref (ad 3)])), ((ad 1), .inl (cs 7, 6, .inr (.inr (.inr (.inr root_places))))), (h_pl, .inr (6, [.int pl_holds, .int pl_suit, .int pl_size, .ref h_pl_elements])), (h_pl_elements, .inl (cs 1, 60, .inr (.inl pl_elements)))]
def Q_X11_shift (D : va_G) (cs : Nat → ClassId) (ad : Nat → Nat) (h_pl : Nat) (h_pl_elements : Nat) (root_places : Nat → Option Nat) (pl_holds : Int32) (pl_suit : Int32) (pl_size : Int32) (A : Nat → Prop) (R : Int32 × (Nat → Int64)) : Array Value → State → Outcome → State → Prop :=
  va_Qi (fun (r : Int32) (u : (Nat → Int64)) => (r, u) = R) (fun (u : (Nat → Int64)) (t : State) => va_P D classes (wl_X11_shift ad cs h_pl h_pl_elements root_places pl_holds pl_suit pl_size u) t.heap ∧ va_D A (wl_X11_shift ad cs h_pl h_pl_elements root_places pl_holds pl_suit pl_size u)) A
abbrev rm_X11_shift : Room := { frames := 1, cells := 0, slots := 0, locals := 40 }
def B_X11_shift_0 (h_pl : Nat)   (root_places : Nat → Option Nat) (pl_holds : Int32) (pl_suit : Int32) (pl_size : Int32) (x1 : Int32) (x2 : Int32) (x3 : Int32) (x4 : Int32) (x5 : Int32) (pl_elements : Nat → Int64) : Option (Int32 × (Nat → Int64)) :=
  (zk_b2 (f_X11_placeAt h_pl x1 root_places pl_holds pl_suit pl_size) (fun r_1 u_2 => (if r_1 = true then (zk_b2 (f_X11_placeAt h_pl x3 root_places pl_holds pl_suit pl_size) (fun r_5 u_6 => (if r_5 = true then (if pl_holds = (-1 : Int32) then (some ((-11 : Int32), pl_elements)) else (if pl_holds = (-1 : Int32) then (some ((-11 : Int32), pl_elements)) else (if pl_holds = (5 : Int32) then (some ((-12 : Int32), pl_elements)) else (if pl_holds = pl_holds then (zk_b2 (f_X6_hasRange x2 x5 pl_holds pl_suit pl_size) (fun r_13 u_14 => (if r_13 = 0 then (some ((-13 : Int32), pl_elements)) else (zk_b2 (f_X6_hasRange x4 x5 pl_holds pl_suit pl_size) (fun r_17 u_18 => (if r_17 = 0 then (some ((-13 : Int32), pl_elements)) else (if (x2 < 0 ∨ x4 < 0 ∨ x5 < 0 ∨ 60 < x2.toNatClampNeg + x5.toNatClampNeg ∨ 60 < x4.toNatClampNeg + x5.toNatClampNeg) then none else (zk_let (va_cpy pl_elements pl_elements x2.toNatClampNeg x4.toNatClampNeg x5.toNatClampNeg) (fun f_22 => (some (x5, f_22))))))))))) else (some ((-12 : Int32), pl_elements)))))) else (some ((-1 : Int32), pl_elements))))) else (zk_b2 (f_X11_placeAt h_pl x3 root_places pl_holds pl_suit pl_size) (fun r_23 u_24 => (if r_23 = true then (some ((-1 : Int32), pl_elements)) else (some ((-1 : Int32), pl_elements))))))))
def f_X11_shift (h_pl : Nat)  (x1 : Int32) (x2 : Int32) (x3 : Int32) (x4 : Int32) (x5 : Int32) (root_places : Nat → Option Nat) (pl_holds : Int32) (pl_suit : Int32) (pl_size : Int32) (pl_elements : Nat → Int64) : Option (Int32 × (Nat → Int64)) := B_X11_shift_0 h_pl  root_places pl_holds pl_suit pl_size x1 x2 x3 x4 x5 pl_elements
set_option maxHeartbeats 4000000 in
set_option maxRecDepth 100000 in
theorem L_X11_shift_0 {p : Program} {l : Launch} {e : Env} {s : State} {m : MethodId} {args : Array Value} {below : List Frame} {meth : Method} {c : Code} {A : Nat → Prop} {D : va_G} {cs : Nat → ClassId} {ad : Nat → Nat} {h_pl : Nat} {h_pl_elements : Nat} {root_places : Nat → Option Nat} {pl_holds : Int32} {pl_suit : Int32} {pl_size : Int32} {R : Int32 × (Nat → Int64)} (C0 : zC p s m args meth c cX11_shift 8 (some .int) RX11 zW) (hK : va_K D classes (zT cs) s) (hA : ∀ q : Nat, s.heap.size ≤ q → A q) (x1 : Int32) (x2 : Int32) (x3 : Int32) (x4 : Int32) (x5 : Int32) (pl_elements : Nat → Int64) (h : B_X11_shift_0 h_pl root_places pl_holds pl_suit pl_size x1 x2 x3 x4 x5 pl_elements = some R) (H : Heap) (locs : List Loc) (ls : Array Slot) (hP : va_P D classes (wl_X11_shift ad cs h_pl h_pl_elements root_places pl_holds pl_suit pl_size pl_elements) H) (hD : va_D A (wl_X11_shift ad cs h_pl h_pl_elements root_places pl_holds pl_suit pl_size pl_elements)) (hS : va_S A s.heap H locs) (hl : lv_has ls 8 [(0, .ref (ad 0)), (1, .int x1), (2, .int x2), (3, .int x3), (4, .int x4), (5, .int x5)]) : W p l e rm_X11_shift s m args below meth c H locs 0 0 (MQ below (Q_X11_shift D cs ad h_pl h_pl_elements root_places pl_holds pl_suit pl_size A R) args s 0 0 A) (F0 m 0 ls []) := by
  obtain ⟨hx, hb, hr, hml, hown, ht, hlocks⟩ := id C0
  refine lv_aload_n hx hb dX11_shift_0 rfl (lv_at hl 0 rfl) ?_
  refine lv_iload_n hx hb dX11_shift_1 rfl (lv_at hl 1 rfl) ?_
  obtain ⟨r_1, u_2, hc_3, h⟩ := zk_o2 h
  refine zz_vq (post := (fun r u => r = (if r_1 = true then some h_pl else none) ∧ u = (u_2))) (w1 := fun u => (wl_X11_placeAt ad cs h_pl h_pl_elements root_places pl_holds pl_suit pl_size)) (As := [.int x1]) (rest := []) (c_X11_placeAt l D cs ad h_pl h_pl_elements H.size x1 root_places pl_holds pl_suit pl_size (r_1, u_2) hc_3) ⟨hx, hb, hml, hown, ht⟩ (cwV 1 ht g_X11_111 rfl rfl rfl ⟨rfl, hd_X11_placeAt⟩ ⟨Nat.le_of_ble_eq_true rfl, Nat.le_of_ble_eq_true rfl⟩) (va_recv hK hP (ci := 11) (q0 := 0) rfl rfl) hP hD hS hK hA [0, 1, 2] rfl rfl [(ad 0), (ad 1), h_pl] rfl (fun _ => rfl) rfl hl.1 (Nat.le_of_ble_eq_true rfl) dX11_shift_2 ⟨Nat.zero_le _, Nat.zero_le _⟩ (fun r u H locs hq hP hS => ?_)
  obtain ⟨hq1, hq2⟩ := hq; cases hq2; subst hq1
  have hP : va_P D classes (wl_X11_shift ad cs h_pl h_pl_elements root_places pl_holds pl_suit pl_size pl_elements) H := hP
  have hD : va_D A (wl_X11_shift ad cs h_pl h_pl_elements root_places pl_holds pl_suit pl_size pl_elements) := zDk hD [(ad 0), (ad 1), h_pl, h_pl_elements] rfl rfl
  by_cases c_4 : r_1 = true
  · have h := zk_t c_4 h
    refine W.eq (g2 := F0 m 5 ls [.ref h_pl]) (by rw [if_pos c_4]; rfl) ?_
    refine lv_astore (lv' := [(6, .ref h_pl), (0, .ref (ad 0)), (1, .int x1), (2, .int x2), (3, .int x3), (4, .int x4), (5, .int x5)]) hx hb dX11_shift_5 hl (by decide) rfl (fun ls hl => ?_)
    refine lv_aload_n hx hb dX11_shift_7 rfl (lv_at hl 1 rfl) ?_
    refine lv_iload_n hx hb dX11_shift_8 rfl (lv_at hl 4 rfl) ?_
    obtain ⟨r_5, u_6, hc_7, h⟩ := zk_o2 h
    refine zz_vq (post := (fun r u => r = (if r_5 = true then some h_pl else none) ∧ u = (u_6))) (w1 := fun u => (wl_X11_placeAt ad cs h_pl h_pl_elements root_places pl_holds pl_suit pl_size)) (As := [.int x3]) (rest := []) (c_X11_placeAt l D cs ad h_pl h_pl_elements H.size x3 root_places pl_holds pl_suit pl_size (r_5, u_6) hc_7) ⟨hx, hb, hml, hown, ht⟩ (cwV 1 ht g_X11_111 rfl rfl rfl ⟨rfl, hd_X11_placeAt⟩ ⟨Nat.le_of_ble_eq_true rfl, Nat.le_of_ble_eq_true rfl⟩) (va_recv hK hP (ci := 11) (q0 := 0) rfl rfl) hP hD hS hK hA [0, 1, 2] rfl rfl [(ad 0), (ad 1), h_pl] rfl (fun _ => rfl) rfl hl.1 (Nat.le_of_ble_eq_true rfl) dX11_shift_9 ⟨Nat.zero_le _, Nat.zero_le _⟩ (fun r u H locs hq hP hS => ?_)
    obtain ⟨hq1, hq2⟩ := hq; cases hq2; subst hq1
    have hP : va_P D classes (wl_X11_shift ad cs h_pl h_pl_elements root_places pl_holds pl_suit pl_size pl_elements) H := hP
    have hD : va_D A (wl_X11_shift ad cs h_pl h_pl_elements root_places pl_holds pl_suit pl_size pl_elements) := zDk hD [(ad 0), (ad 1), h_pl, h_pl_elements] rfl rfl
    by_cases c_8 : r_5 = true
    · have h := zk_t c_8 h
      refine W.eq (g2 := F0 m 12 ls [.ref h_pl]) (by rw [if_pos c_8]; rfl) ?_
      refine lv_astore (lv' := [(7, .ref h_pl), (6, .ref h_pl), (0, .ref (ad 0)), (1, .int x1), (2, .int x2), (3, .int x3), (4, .int x4), (5, .int x5)]) hx hb dX11_shift_12 hl (by decide) rfl (fun ls hl => ?_)
      refine lv_aload hx hb dX11_shift_14 (lv_at hl 1 rfl) ?_
      refine lv_ifnull hx hb dX11_shift_16 ?_
      refine lv_aload hx hb dX11_shift_19 (lv_at hl 0 rfl) ?_
      refine lv_ifnonnull (tgt := 26) hx hb dX11_shift_21 (by decide) ?_
      refine lv_aload hx hb dX11_shift_26 (lv_at hl 1 rfl) ?_
      refine va_get (D := D) (ci := 6) (v := .int pl_holds) (C := RX6) (T := TX6) (N := 4) hx hb ht iX6 hown hK hP 2 rfl rfl 0 (by decide) (ht _ kw_681) (fun _ h9 => h9) rfl dX11_shift_28 ?_
      refine lv_iconst (v := (-1 : Int32)) hx hb dX11_shift_31 (by decide) ?_
      refine lv_icmp_eq (tgt := 44) hx hb dX11_shift_32 (by decide) (fun c_9 => ?_) (fun c_9 => ?_)
      · have h := zk_t c_9 h
        refine lv_bipush (v := (-11 : Int32)) hx hb dX11_shift_44 (by decide) ?_
        exact W.iret (v := (-11 : Int32)) hx hb hr (fun t ht2 hW => ⟨⟨(-11 : Int32), pl_elements, rfl, Option.some.inj h, by rw [ht2]; exact hP, hD⟩, hS.F ht2⟩) hS.2.2 dX11_shift_46 hlocks
      · have h := zk_f c_9 h
        refine lv_aload hx hb dX11_shift_35 (lv_at hl 0 rfl) ?_
        refine va_get (D := D) (ci := 6) (v := .int pl_holds) (C := RX6) (T := TX6) (N := 4) hx hb ht iX6 hown hK hP 2 rfl rfl 0 (by decide) (ht _ kw_681) (fun _ h9 => h9) rfl dX11_shift_37 ?_
        refine lv_iconst (v := (-1 : Int32)) hx hb dX11_shift_40 (by decide) ?_
        refine lv_icmp_ne (tgt := 47) hx hb dX11_shift_41 (by decide) (fun c_10 => ?_) (fun c_10 => ?_)
        · have h := zk_f c_10 h
          refine lv_aload hx hb dX11_shift_47 (lv_at hl 1 rfl) ?_
          refine va_get (D := D) (ci := 6) (v := .int pl_holds) (C := RX6) (T := TX6) (N := 4) hx hb ht iX6 hown hK hP 2 rfl rfl 0 (by decide) (ht _ kw_681) (fun _ h9 => h9) rfl dX11_shift_49 ?_
          refine lv_iconst (v := (5 : Int32)) hx hb dX11_shift_52 (by decide) ?_
          refine lv_icmp_eq (tgt := 69) hx hb dX11_shift_53 (by decide) (fun c_11 => ?_) (fun c_11 => ?_)
          · have h := zk_t c_11 h
            refine lv_bipush (v := (-12 : Int32)) hx hb dX11_shift_69 (by decide) ?_
            exact W.iret (v := (-12 : Int32)) hx hb hr (fun t ht2 hW => ⟨⟨(-12 : Int32), pl_elements, rfl, Option.some.inj h, by rw [ht2]; exact hP, hD⟩, hS.F ht2⟩) hS.2.2 dX11_shift_71 hlocks
          · have h := zk_f c_11 h
            refine lv_aload hx hb dX11_shift_56 (lv_at hl 1 rfl) ?_
            refine va_get (D := D) (ci := 6) (v := .int pl_holds) (C := RX6) (T := TX6) (N := 4) hx hb ht iX6 hown hK hP 2 rfl rfl 0 (by decide) (ht _ kw_681) (fun _ h9 => h9) rfl dX11_shift_58 ?_
            refine lv_aload hx hb dX11_shift_61 (lv_at hl 0 rfl) ?_
            refine va_get (D := D) (ci := 6) (v := .int pl_holds) (C := RX6) (T := TX6) (N := 4) hx hb ht iX6 hown hK hP 2 rfl rfl 0 (by decide) (ht _ kw_681) (fun _ h9 => h9) rfl dX11_shift_63 ?_
            refine lv_icmp_eq (tgt := 72) hx hb dX11_shift_66 (by decide) (fun c_12 => ?_) (fun c_12 => ?_)
            · have h := zk_t c_12 h
              refine lv_aload hx hb dX11_shift_72 (lv_at hl 1 rfl) ?_
              refine lv_iload_n hx hb dX11_shift_74 rfl (lv_at hl 4 rfl) ?_
              refine lv_iload hx hb dX11_shift_75 (lv_at hl 7 rfl) ?_
              obtain ⟨r_13, u_14, hc_15, h⟩ := zk_o2 h
              refine zz_vi (post := (fun r u => (r, u) = (r_13, u_14))) (w1 := fun u => (wl_X6_hasRange ad cs h_pl h_pl_elements pl_holds pl_suit pl_size)) (As := [.int x2, .int x5]) (rest := []) (c_X6_hasRange l D cs ad h_pl h_pl_elements H.size x2 x5 pl_holds pl_suit pl_size (r_13, u_14) hc_15) ⟨hx, hb, hml, hown, ht⟩ (cwV 2 ht g_X11_375 rfl rfl rfl ⟨rfl, hd_X6_hasRange⟩ ⟨Nat.le_of_ble_eq_true rfl, Nat.le_of_ble_eq_true rfl⟩) (va_recv hK hP (ci := 6) (q0 := 2) rfl rfl) hP hD hS hK hA [2] rfl rfl [h_pl] rfl (fun _ => rfl) rfl hl.1 (Nat.le_of_ble_eq_true rfl) dX11_shift_77 ⟨Nat.zero_le _, Nat.zero_le _⟩ (fun r u H locs hq hP hS => ?_)
              cases hq
              have hP : va_P D classes (wl_X11_shift ad cs h_pl h_pl_elements root_places pl_holds pl_suit pl_size pl_elements) H := hP
              have hD : va_D A (wl_X11_shift ad cs h_pl h_pl_elements root_places pl_holds pl_suit pl_size pl_elements) := zDk hD [(ad 0), (ad 1), h_pl, h_pl_elements] rfl rfl
              refine lv_if_eq (tgt := 95) hx hb dX11_shift_80 (by decide) (fun c_16 => ?_) (fun c_16 => ?_)
              · have h := zk_t c_16 h
                refine lv_bipush (v := (-13 : Int32)) hx hb dX11_shift_95 (by decide) ?_
                exact W.iret (v := (-13 : Int32)) hx hb hr (fun t ht2 hW => ⟨⟨(-13 : Int32), pl_elements, rfl, Option.some.inj h, by rw [ht2]; exact hP, hD⟩, hS.F ht2⟩) hS.2.2 dX11_shift_97 hlocks
              · have h := zk_f c_16 h
                refine lv_aload hx hb dX11_shift_83 (lv_at hl 0 rfl) ?_
                refine lv_iload hx hb dX11_shift_85 (lv_at hl 6 rfl) ?_
                refine lv_iload hx hb dX11_shift_87 (lv_at hl 7 rfl) ?_
                obtain ⟨r_17, u_18, hc_19, h⟩ := zk_o2 h
                refine zz_vi (post := (fun r u => (r, u) = (r_17, u_18))) (w1 := fun u => (wl_X6_hasRange ad cs h_pl h_pl_elements pl_holds pl_suit pl_size)) (As := [.int x4, .int x5]) (rest := []) (c_X6_hasRange l D cs ad h_pl h_pl_elements H.size x4 x5 pl_holds pl_suit pl_size (r_17, u_18) hc_19) ⟨hx, hb, hml, hown, ht⟩ (cwV 2 ht g_X11_375 rfl rfl rfl ⟨rfl, hd_X6_hasRange⟩ ⟨Nat.le_of_ble_eq_true rfl, Nat.le_of_ble_eq_true rfl⟩) (va_recv hK hP (ci := 6) (q0 := 2) rfl rfl) hP hD hS hK hA [2] rfl rfl [h_pl] rfl (fun _ => rfl) rfl hl.1 (Nat.le_of_ble_eq_true rfl) dX11_shift_89 ⟨Nat.zero_le _, Nat.zero_le _⟩ (fun r u H locs hq hP hS => ?_)
                cases hq
                have hP : va_P D classes (wl_X11_shift ad cs h_pl h_pl_elements root_places pl_holds pl_suit pl_size pl_elements) H := hP
                have hD : va_D A (wl_X11_shift ad cs h_pl h_pl_elements root_places pl_holds pl_suit pl_size pl_elements) := zDk hD [(ad 0), (ad 1), h_pl, h_pl_elements] rfl rfl
                refine lv_if_ne (tgt := 98) hx hb dX11_shift_92 (by decide) (fun c_20 => ?_) (fun c_20 => ?_)
                · have h := zk_f c_20 h
                  refine lv_aload hx hb dX11_shift_98 (lv_at hl 1 rfl) ?_
                  refine va_get (D := D) (ci := 6) (v := .ref h_pl_elements) (C := RX6) (T := TX6) (N := 4) hx hb ht iX6 hown hK hP 2 rfl rfl 3 (by decide) (ht _ kw_686) (fun _ h9 => h9) rfl dX11_shift_100 ?_
                  refine lv_iload_n hx hb dX11_shift_103 rfl (lv_at hl 4 rfl) ?_
                  refine lv_aload hx hb dX11_shift_104 (lv_at hl 0 rfl) ?_
                  refine va_get (D := D) (ci := 6) (v := .ref h_pl_elements) (C := RX6) (T := TX6) (N := 4) hx hb ht iX6 hown hK hP 2 rfl rfl 3 (by decide) (ht _ kw_686) (fun _ h9 => h9) rfl dX11_shift_106 ?_
                  refine lv_iload hx hb dX11_shift_109 (lv_at hl 6 rfl) ?_
                  refine lv_iload hx hb dX11_shift_111 (lv_at hl 7 rfl) ?_
                  obtain ⟨g_21, h⟩ := zk_gd h
                  obtain ⟨f_22, ef_22, h⟩ := zk_lt h
                  refine va_copyl (ty := .long) hx hb (by rw [hml]; exact hl.1.symm) hown (ht _ kw_1277) (ht _ kw_665) (ht _ kw_664) (ht _ kw_93) hK hP hD hS 3 3 1 1 rfl rfl rfl rfl rfl (fun z => g_21 (Or.inl z)) (fun z => g_21 (Or.inr (Or.inl z))) (fun z => g_21 (Or.inr (Or.inr (Or.inl z)))) (Nat.not_lt.mp fun z => g_21 (Or.inr (Or.inr (Or.inr (Or.inl z))))) (Nat.not_lt.mp fun z => g_21 (Or.inr (Or.inr (Or.inr (Or.inr z))))) (fun _ _ => rfl) (Nat.le_of_ble_eq_true rfl) (Nat.le_of_ble_eq_true rfl) dX11_shift_113 (fun H locs hP hD hS => ?_)
                  have hP : va_P D classes (wl_X11_shift ad cs h_pl h_pl_elements root_places pl_holds pl_suit pl_size f_22) H := by rw [ef_22]; exact hP
                  have hD : va_D A (wl_X11_shift ad cs h_pl h_pl_elements root_places pl_holds pl_suit pl_size f_22) := by rw [ef_22]; exact hD
                  refine lv_iload hx hb dX11_shift_116 (lv_at hl 7 rfl) ?_
                  exact W.iret (v := x5) hx hb hr (fun t ht2 hW => ⟨⟨x5, f_22, rfl, Option.some.inj h, by rw [ht2]; exact hP, hD⟩, hS.F ht2⟩) hS.2.2 dX11_shift_118 hlocks
                · have h := zk_t c_20 h
                  refine lv_bipush (v := (-13 : Int32)) hx hb dX11_shift_95 (by decide) ?_
                  exact W.iret (v := (-13 : Int32)) hx hb hr (fun t ht2 hW => ⟨⟨(-13 : Int32), pl_elements, rfl, Option.some.inj h, by rw [ht2]; exact hP, hD⟩, hS.F ht2⟩) hS.2.2 dX11_shift_97 hlocks
            · have h := zk_f c_12 h
              refine lv_bipush (v := (-12 : Int32)) hx hb dX11_shift_69 (by decide) ?_
              exact W.iret (v := (-12 : Int32)) hx hb hr (fun t ht2 hW => ⟨⟨(-12 : Int32), pl_elements, rfl, Option.some.inj h, by rw [ht2]; exact hP, hD⟩, hS.F ht2⟩) hS.2.2 dX11_shift_71 hlocks
        · have h := zk_t c_10 h
          refine lv_bipush (v := (-11 : Int32)) hx hb dX11_shift_44 (by decide) ?_
          exact W.iret (v := (-11 : Int32)) hx hb hr (fun t ht2 hW => ⟨⟨(-11 : Int32), pl_elements, rfl, Option.some.inj h, by rw [ht2]; exact hP, hD⟩, hS.F ht2⟩) hS.2.2 dX11_shift_46 hlocks
    · have h := zk_f c_8 h
      refine W.eq (g2 := F0 m 12 ls [.null]) (by rw [if_neg c_8]; rfl) ?_
      refine lv_astoreN (lv' := [(7, .null), (6, .ref h_pl), (0, .ref (ad 0)), (1, .int x1), (2, .int x2), (3, .int x3), (4, .int x4), (5, .int x5)]) hx hb dX11_shift_12 hl (by decide) rfl (fun ls hl => ?_)
      refine lv_aload hx hb dX11_shift_14 (lv_at hl 1 rfl) ?_
      refine lv_ifnull hx hb dX11_shift_16 ?_
      refine lv_aloadN hx hb dX11_shift_19 (lv_at hl 0 rfl) ?_
      refine lv_ifnonnullN hx hb dX11_shift_21 ?_
      refine lv_iconst (v := (-1 : Int32)) hx hb dX11_shift_24 (by decide) ?_
      exact W.iret (v := (-1 : Int32)) hx hb hr (fun t ht2 hW => ⟨⟨(-1 : Int32), pl_elements, rfl, Option.some.inj h, by rw [ht2]; exact hP, hD⟩, hS.F ht2⟩) hS.2.2 dX11_shift_25 hlocks
  · have h := zk_f c_4 h
    refine W.eq (g2 := F0 m 5 ls [.null]) (by rw [if_neg c_4]; rfl) ?_
    refine lv_astoreN (lv' := [(6, .null), (0, .ref (ad 0)), (1, .int x1), (2, .int x2), (3, .int x3), (4, .int x4), (5, .int x5)]) hx hb dX11_shift_5 hl (by decide) rfl (fun ls hl => ?_)
    refine lv_aload_n hx hb dX11_shift_7 rfl (lv_at hl 1 rfl) ?_
    refine lv_iload_n hx hb dX11_shift_8 rfl (lv_at hl 4 rfl) ?_
    obtain ⟨r_23, u_24, hc_25, h⟩ := zk_o2 h
    refine zz_vq (post := (fun r u => r = (if r_23 = true then some h_pl else none) ∧ u = (u_24))) (w1 := fun u => (wl_X11_placeAt ad cs h_pl h_pl_elements root_places pl_holds pl_suit pl_size)) (As := [.int x3]) (rest := []) (c_X11_placeAt l D cs ad h_pl h_pl_elements H.size x3 root_places pl_holds pl_suit pl_size (r_23, u_24) hc_25) ⟨hx, hb, hml, hown, ht⟩ (cwV 1 ht g_X11_111 rfl rfl rfl ⟨rfl, hd_X11_placeAt⟩ ⟨Nat.le_of_ble_eq_true rfl, Nat.le_of_ble_eq_true rfl⟩) (va_recv hK hP (ci := 11) (q0 := 0) rfl rfl) hP hD hS hK hA [0, 1, 2] rfl rfl [(ad 0), (ad 1), h_pl] rfl (fun _ => rfl) rfl hl.1 (Nat.le_of_ble_eq_true rfl) dX11_shift_9 ⟨Nat.zero_le _, Nat.zero_le _⟩ (fun r u H locs hq hP hS => ?_)
    obtain ⟨hq1, hq2⟩ := hq; cases hq2; subst hq1
    have hP : va_P D classes (wl_X11_shift ad cs h_pl h_pl_elements root_places pl_holds pl_suit pl_size pl_elements) H := hP
    have hD : va_D A (wl_X11_shift ad cs h_pl h_pl_elements root_places pl_holds pl_suit pl_size pl_elements) := zDk hD [(ad 0), (ad 1), h_pl, h_pl_elements] rfl rfl
    by_cases c_26 : r_23 = true
    · have h := zk_t c_26 h
      refine W.eq (g2 := F0 m 12 ls [.ref h_pl]) (by rw [if_pos c_26]; rfl) ?_
      refine lv_astore (lv' := [(7, .ref h_pl), (6, .null), (0, .ref (ad 0)), (1, .int x1), (2, .int x2), (3, .int x3), (4, .int x4), (5, .int x5)]) hx hb dX11_shift_12 hl (by decide) rfl (fun ls hl => ?_)
      refine lv_aloadN hx hb dX11_shift_14 (lv_at hl 1 rfl) ?_
      refine lv_ifnullN (tgt := 24) hx hb dX11_shift_16 (by decide) ?_
      refine lv_iconst (v := (-1 : Int32)) hx hb dX11_shift_24 (by decide) ?_
      exact W.iret (v := (-1 : Int32)) hx hb hr (fun t ht2 hW => ⟨⟨(-1 : Int32), pl_elements, rfl, Option.some.inj h, by rw [ht2]; exact hP, hD⟩, hS.F ht2⟩) hS.2.2 dX11_shift_25 hlocks
    · have h := zk_f c_26 h
      refine W.eq (g2 := F0 m 12 ls [.null]) (by rw [if_neg c_26]; rfl) ?_
      refine lv_astoreN (lv' := [(7, .null), (6, .null), (0, .ref (ad 0)), (1, .int x1), (2, .int x2), (3, .int x3), (4, .int x4), (5, .int x5)]) hx hb dX11_shift_12 hl (by decide) rfl (fun ls hl => ?_)
      refine lv_aloadN hx hb dX11_shift_14 (lv_at hl 1 rfl) ?_
      refine lv_ifnullN (tgt := 24) hx hb dX11_shift_16 (by decide) ?_
      refine lv_iconst (v := (-1 : Int32)) hx hb dX11_shift_24 (by decide) ?_
      exact W.iret (v := (-1 : Int32)) hx hb hr (fun t ht2 hW => ⟨⟨(-1 : Int32), pl_elements, rfl, Option.some.inj h, by rw [ht2]; exact hP, hD⟩, hS.F ht2⟩) hS.2.2 dX11_shift_25 hlocks
set_option maxHeartbeats 4000000 in
set_option maxRecDepth 100000 in
theorem c_X11_shift (l : Launch) (D : va_G) (cs : Nat → ClassId) (ad : Nat → Nat) (h_pl : Nat) (h_pl_elements : Nat) (sz : Nat) (x1 : Int32) (x2 : Int32) (x3 : Int32) (x4 : Int32) (x5 : Int32) (root_places : Nat → Option Nat) (pl_holds : Int32) (pl_suit : Int32) (pl_size : Int32) (pl_elements : Nat → Int64) (R : Int32 × (Nat → Int64)) (h : f_X11_shift h_pl  x1 x2 x3 x4 x5 root_places pl_holds pl_suit pl_size pl_elements = some R) : Met l yX11_shift (z_X11_shift) rm_X11_shift (va_Pc [.ref (ad 0), .int x1, .int x2, .int x3, .int x4, .int x5] (zPre D cs (wl_X11_shift ad cs h_pl h_pl_elements root_places pl_holds pl_suit pl_size pl_elements) sz)) (Q_X11_shift D cs ad h_pl h_pl_elements root_places pl_holds pl_suit pl_size (va_A (wl_X11_shift ad cs h_pl h_pl_elements root_places pl_holds pl_suit pl_size pl_elements) sz) R) 0 0 (va_A (wl_X11_shift ad cs h_pl h_pl_elements root_places pl_holds pl_suit pl_size pl_elements) sz) := by
  refine Met.ofW (cc := cX11_shift) (maxL := 8) (ret := (some .int)) (by decide) rfl ?_
  intro p e s m args below meth c s₁ B hml hv
  obtain ⟨rfl, hsz, hP, hK, hD0⟩ := hv
  subst hsz
  have hD := hD0.self (sz := s.heap.size)
  have C0 : zC p s m _ meth c cX11_shift 8 (some .int) RX11 zW := ⟨B.exec, B.bytes, B.returns, hml, findClass_of_methodNamed B.named, fun w hw => atoms_spec (ws := z_X11_shift) B.pre w (List.mem_cons_of_mem _ hw), B.notSynchronized⟩
  have hA : ∀ q : Nat, s.heap.size ≤ q → va_A (wl_X11_shift ad cs h_pl h_pl_elements root_places pl_holds pl_suit pl_size pl_elements) s.heap.size q := fun q h => Or.inr h
  have hl := lv_entry ([.ref (ad 0), .int x1, .int x2, .int x3, .int x4, .int x5]) (n := 8) (Nat.le_of_ble_eq_true rfl)
  rw [lg_entry_eq]
  generalize (lg_sl ([.ref (ad 0), .int x1, .int x2, .int x3, .int x4, .int x5]) ++ List.replicate (8 - (lg_sl ([.ref (ad 0), .int x1, .int x2, .int x3, .int x4, .int x5])).length) Slot.unset).toArray = ls at hl ⊢
  exact L_X11_shift_0 C0 hK hA   x1 x2 x3 x4 x5 pl_elements h s.heap [] ls hP hD va_S.rf hl
abbrev wl_X11_shiftB (ad : Nat → Nat) (cs : Nat → ClassId) (h_pl : Nat) (h_pl_elements : Nat) (h_pm : Nat) (h_pm_elements : Nat) (root_places : Nat → Option Nat) (pl_holds : Int32) (pl_suit : Int32) (pl_size : Int32) (pl_elements : Nat → Int64) (pm_holds : Int32) (pm_suit : Int32) (pm_size : Int32) (pm_elements : Nat → Int64) : va_W := [((ad 0), .inr (11, [.ref (ad 4), .ref (ad 15), .ref (ad 23), .ref (ad 25), .ref (ad 26), .ref (ad 28), .ref (ad 34), .ref (ad 39), .ref (ad 1), .ref (ad 2), .ref (ad 3)])), ((ad 1), .inl (cs 7, 6, .inr (.inr (.inr (.inr root_places))))), (h_pl, .inr (6, [.int pl_holds, .int pl_suit, .int pl_size, .ref h_pl_elements])), (h_pl_elements, .inl (cs 1, 60, .inr (.inl pl_elements))), (h_pm, .inr (6, [.int pm_holds, .int pm_suit, .int pm_size, .ref h_pm_elements])), (h_pm_elements, .inl (cs 1, 60, .inr (.inl pm_elements)))]
def Q_X11_shiftB (D : va_G) (cs : Nat → ClassId) (ad : Nat → Nat) (h_pl : Nat) (h_pl_elements : Nat) (h_pm : Nat) (h_pm_elements : Nat) (root_places : Nat → Option Nat) (pl_holds : Int32) (pl_suit : Int32) (pl_size : Int32) (pl_elements : Nat → Int64) (pm_holds : Int32) (pm_suit : Int32) (pm_size : Int32) (A : Nat → Prop) (R : Int32 × (Nat → Int64)) : Array Value → State → Outcome → State → Prop :=
  va_Qi (fun (r : Int32) (u : (Nat → Int64)) => (r, u) = R) (fun (u : (Nat → Int64)) (t : State) => va_P D classes (wl_X11_shiftB ad cs h_pl h_pl_elements h_pm h_pm_elements root_places pl_holds pl_suit pl_size pl_elements pm_holds pm_suit pm_size u) t.heap ∧ va_D A (wl_X11_shiftB ad cs h_pl h_pl_elements h_pm h_pm_elements root_places pl_holds pl_suit pl_size pl_elements pm_holds pm_suit pm_size u)) A
abbrev rm_X11_shiftB : Room := { frames := 1, cells := 0, slots := 0, locals := 40 }
def B_X11_shiftB_0 (h_pl : Nat) (h_pm : Nat)   (root_places : Nat → Option Nat) (pl_holds : Int32) (pl_suit : Int32) (pl_size : Int32) (pl_elements : Nat → Int64) (pm_holds : Int32) (pm_suit : Int32) (pm_size : Int32) (x1 : Int32) (x2 : Int32) (x3 : Int32) (x4 : Int32) (x5 : Int32) (pm_elements : Nat → Int64) : Option (Int32 × (Nat → Int64)) :=
  (zk_b2 (f_X11_placeAt h_pl x1 root_places pl_holds pl_suit pl_size) (fun r_1 u_2 => (if r_1 = true then (zk_b2 (f_X11_placeAt h_pm x3 root_places pm_holds pm_suit pm_size) (fun r_5 u_6 => (if r_5 = true then (if pl_holds = (-1 : Int32) then (some ((-11 : Int32), pm_elements)) else (if pm_holds = (-1 : Int32) then (some ((-11 : Int32), pm_elements)) else (if pl_holds = (5 : Int32) then (some ((-12 : Int32), pm_elements)) else (if pl_holds = pm_holds then (zk_b2 (f_X6_hasRange x2 x5 pl_holds pl_suit pl_size) (fun r_13 u_14 => (if r_13 = 0 then (some ((-13 : Int32), pm_elements)) else (zk_b2 (f_X6_hasRange x4 x5 pm_holds pm_suit pm_size) (fun r_17 u_18 => (if r_17 = 0 then (some ((-13 : Int32), pm_elements)) else (if (x2 < 0 ∨ x4 < 0 ∨ x5 < 0 ∨ 60 < x2.toNatClampNeg + x5.toNatClampNeg ∨ 60 < x4.toNatClampNeg + x5.toNatClampNeg) then none else (zk_let (va_cpy pl_elements pm_elements x2.toNatClampNeg x4.toNatClampNeg x5.toNatClampNeg) (fun f_22 => (some (x5, f_22))))))))))) else (some ((-12 : Int32), pm_elements)))))) else (some ((-1 : Int32), pm_elements))))) else (zk_b2 (f_X11_placeAt h_pm x3 root_places pm_holds pm_suit pm_size) (fun r_23 u_24 => (if r_23 = true then (some ((-1 : Int32), pm_elements)) else (some ((-1 : Int32), pm_elements))))))))
def f_X11_shiftB (h_pl : Nat) (h_pm : Nat)  (x1 : Int32) (x2 : Int32) (x3 : Int32) (x4 : Int32) (x5 : Int32) (root_places : Nat → Option Nat) (pl_holds : Int32) (pl_suit : Int32) (pl_size : Int32) (pl_elements : Nat → Int64) (pm_holds : Int32) (pm_suit : Int32) (pm_size : Int32) (pm_elements : Nat → Int64) : Option (Int32 × (Nat → Int64)) := B_X11_shiftB_0 h_pl h_pm  root_places pl_holds pl_suit pl_size pl_elements pm_holds pm_suit pm_size x1 x2 x3 x4 x5 pm_elements
set_option maxHeartbeats 4000000 in
set_option maxRecDepth 100000 in
theorem L_X11_shiftB_0 {p : Program} {l : Launch} {e : Env} {s : State} {m : MethodId} {args : Array Value} {below : List Frame} {meth : Method} {c : Code} {A : Nat → Prop} {D : va_G} {cs : Nat → ClassId} {ad : Nat → Nat} {h_pl : Nat} {h_pl_elements : Nat} {h_pm : Nat} {h_pm_elements : Nat} {root_places : Nat → Option Nat} {pl_holds : Int32} {pl_suit : Int32} {pl_size : Int32} {pl_elements : Nat → Int64} {pm_holds : Int32} {pm_suit : Int32} {pm_size : Int32} {R : Int32 × (Nat → Int64)} (C0 : zC p s m args meth c cX11_shift 8 (some .int) RX11 zW) (hK : va_K D classes (zT cs) s) (hA : ∀ q : Nat, s.heap.size ≤ q → A q) (x1 : Int32) (x2 : Int32) (x3 : Int32) (x4 : Int32) (x5 : Int32) (pm_elements : Nat → Int64) (h : B_X11_shiftB_0 h_pl h_pm root_places pl_holds pl_suit pl_size pl_elements pm_holds pm_suit pm_size x1 x2 x3 x4 x5 pm_elements = some R) (H : Heap) (locs : List Loc) (ls : Array Slot) (hP : va_P D classes (wl_X11_shiftB ad cs h_pl h_pl_elements h_pm h_pm_elements root_places pl_holds pl_suit pl_size pl_elements pm_holds pm_suit pm_size pm_elements) H) (hD : va_D A (wl_X11_shiftB ad cs h_pl h_pl_elements h_pm h_pm_elements root_places pl_holds pl_suit pl_size pl_elements pm_holds pm_suit pm_size pm_elements)) (hS : va_S A s.heap H locs) (hl : lv_has ls 8 [(0, .ref (ad 0)), (1, .int x1), (2, .int x2), (3, .int x3), (4, .int x4), (5, .int x5)]) : W p l e rm_X11_shiftB s m args below meth c H locs 0 0 (MQ below (Q_X11_shiftB D cs ad h_pl h_pl_elements h_pm h_pm_elements root_places pl_holds pl_suit pl_size pl_elements pm_holds pm_suit pm_size A R) args s 0 0 A) (F0 m 0 ls []) := by
  obtain ⟨hx, hb, hr, hml, hown, ht, hlocks⟩ := id C0
  refine lv_aload_n hx hb dX11_shift_0 rfl (lv_at hl 0 rfl) ?_
  refine lv_iload_n hx hb dX11_shift_1 rfl (lv_at hl 1 rfl) ?_
  obtain ⟨r_1, u_2, hc_3, h⟩ := zk_o2 h
  refine zz_vq (post := (fun r u => r = (if r_1 = true then some h_pl else none) ∧ u = (u_2))) (w1 := fun u => (wl_X11_placeAt ad cs h_pl h_pl_elements root_places pl_holds pl_suit pl_size)) (As := [.int x1]) (rest := []) (c_X11_placeAt l D cs ad h_pl h_pl_elements H.size x1 root_places pl_holds pl_suit pl_size (r_1, u_2) hc_3) ⟨hx, hb, hml, hown, ht⟩ (cwV 1 ht g_X11_111 rfl rfl rfl ⟨rfl, hd_X11_placeAt⟩ ⟨Nat.le_of_ble_eq_true rfl, Nat.le_of_ble_eq_true rfl⟩) (va_recv hK hP (ci := 11) (q0 := 0) rfl rfl) hP hD hS hK hA [0, 1, 2] rfl rfl [(ad 0), (ad 1), h_pl] rfl (fun _ => rfl) rfl hl.1 (Nat.le_of_ble_eq_true rfl) dX11_shift_2 ⟨Nat.zero_le _, Nat.zero_le _⟩ (fun r u H locs hq hP hS => ?_)
  obtain ⟨hq1, hq2⟩ := hq; cases hq2; subst hq1
  have hP : va_P D classes (wl_X11_shiftB ad cs h_pl h_pl_elements h_pm h_pm_elements root_places pl_holds pl_suit pl_size pl_elements pm_holds pm_suit pm_size pm_elements) H := hP
  have hD : va_D A (wl_X11_shiftB ad cs h_pl h_pl_elements h_pm h_pm_elements root_places pl_holds pl_suit pl_size pl_elements pm_holds pm_suit pm_size pm_elements) := zDk hD [(ad 0), (ad 1), h_pl, h_pl_elements, h_pm, h_pm_elements] rfl rfl
  by_cases c_4 : r_1 = true
  · have h := zk_t c_4 h
    refine W.eq (g2 := F0 m 5 ls [.ref h_pl]) (by rw [if_pos c_4]; rfl) ?_
    refine lv_astore (lv' := [(6, .ref h_pl), (0, .ref (ad 0)), (1, .int x1), (2, .int x2), (3, .int x3), (4, .int x4), (5, .int x5)]) hx hb dX11_shift_5 hl (by decide) rfl (fun ls hl => ?_)
    refine lv_aload_n hx hb dX11_shift_7 rfl (lv_at hl 1 rfl) ?_
    refine lv_iload_n hx hb dX11_shift_8 rfl (lv_at hl 4 rfl) ?_
    obtain ⟨r_5, u_6, hc_7, h⟩ := zk_o2 h
    refine zz_vq (post := (fun r u => r = (if r_5 = true then some h_pm else none) ∧ u = (u_6))) (w1 := fun u => (wl_X11_placeAt ad cs h_pm h_pm_elements root_places pm_holds pm_suit pm_size)) (As := [.int x3]) (rest := []) (c_X11_placeAt l D cs ad h_pm h_pm_elements H.size x3 root_places pm_holds pm_suit pm_size (r_5, u_6) hc_7) ⟨hx, hb, hml, hown, ht⟩ (cwV 1 ht g_X11_111 rfl rfl rfl ⟨rfl, hd_X11_placeAt⟩ ⟨Nat.le_of_ble_eq_true rfl, Nat.le_of_ble_eq_true rfl⟩) (va_recv hK hP (ci := 11) (q0 := 0) rfl rfl) hP hD hS hK hA [0, 1, 4] rfl rfl [(ad 0), (ad 1), h_pm] rfl (fun _ => rfl) rfl hl.1 (Nat.le_of_ble_eq_true rfl) dX11_shift_9 ⟨Nat.zero_le _, Nat.zero_le _⟩ (fun r u H locs hq hP hS => ?_)
    obtain ⟨hq1, hq2⟩ := hq; cases hq2; subst hq1
    have hP : va_P D classes (wl_X11_shiftB ad cs h_pl h_pl_elements h_pm h_pm_elements root_places pl_holds pl_suit pl_size pl_elements pm_holds pm_suit pm_size pm_elements) H := hP
    have hD : va_D A (wl_X11_shiftB ad cs h_pl h_pl_elements h_pm h_pm_elements root_places pl_holds pl_suit pl_size pl_elements pm_holds pm_suit pm_size pm_elements) := zDk hD [(ad 0), (ad 1), h_pl, h_pl_elements, h_pm, h_pm_elements] rfl rfl
    by_cases c_8 : r_5 = true
    · have h := zk_t c_8 h
      refine W.eq (g2 := F0 m 12 ls [.ref h_pm]) (by rw [if_pos c_8]; rfl) ?_
      refine lv_astore (lv' := [(7, .ref h_pm), (6, .ref h_pl), (0, .ref (ad 0)), (1, .int x1), (2, .int x2), (3, .int x3), (4, .int x4), (5, .int x5)]) hx hb dX11_shift_12 hl (by decide) rfl (fun ls hl => ?_)
      refine lv_aload hx hb dX11_shift_14 (lv_at hl 1 rfl) ?_
      refine lv_ifnull hx hb dX11_shift_16 ?_
      refine lv_aload hx hb dX11_shift_19 (lv_at hl 0 rfl) ?_
      refine lv_ifnonnull (tgt := 26) hx hb dX11_shift_21 (by decide) ?_
      refine lv_aload hx hb dX11_shift_26 (lv_at hl 1 rfl) ?_
      refine va_get (D := D) (ci := 6) (v := .int pl_holds) (C := RX6) (T := TX6) (N := 4) hx hb ht iX6 hown hK hP 2 rfl rfl 0 (by decide) (ht _ kw_681) (fun _ h9 => h9) rfl dX11_shift_28 ?_
      refine lv_iconst (v := (-1 : Int32)) hx hb dX11_shift_31 (by decide) ?_
      refine lv_icmp_eq (tgt := 44) hx hb dX11_shift_32 (by decide) (fun c_9 => ?_) (fun c_9 => ?_)
      · have h := zk_t c_9 h
        refine lv_bipush (v := (-11 : Int32)) hx hb dX11_shift_44 (by decide) ?_
        exact W.iret (v := (-11 : Int32)) hx hb hr (fun t ht2 hW => ⟨⟨(-11 : Int32), pm_elements, rfl, Option.some.inj h, by rw [ht2]; exact hP, hD⟩, hS.F ht2⟩) hS.2.2 dX11_shift_46 hlocks
      · have h := zk_f c_9 h
        refine lv_aload hx hb dX11_shift_35 (lv_at hl 0 rfl) ?_
        refine va_get (D := D) (ci := 6) (v := .int pm_holds) (C := RX6) (T := TX6) (N := 4) hx hb ht iX6 hown hK hP 4 rfl rfl 0 (by decide) (ht _ kw_681) (fun _ h9 => h9) rfl dX11_shift_37 ?_
        refine lv_iconst (v := (-1 : Int32)) hx hb dX11_shift_40 (by decide) ?_
        refine lv_icmp_ne (tgt := 47) hx hb dX11_shift_41 (by decide) (fun c_10 => ?_) (fun c_10 => ?_)
        · have h := zk_f c_10 h
          refine lv_aload hx hb dX11_shift_47 (lv_at hl 1 rfl) ?_
          refine va_get (D := D) (ci := 6) (v := .int pl_holds) (C := RX6) (T := TX6) (N := 4) hx hb ht iX6 hown hK hP 2 rfl rfl 0 (by decide) (ht _ kw_681) (fun _ h9 => h9) rfl dX11_shift_49 ?_
          refine lv_iconst (v := (5 : Int32)) hx hb dX11_shift_52 (by decide) ?_
          refine lv_icmp_eq (tgt := 69) hx hb dX11_shift_53 (by decide) (fun c_11 => ?_) (fun c_11 => ?_)
          · have h := zk_t c_11 h
            refine lv_bipush (v := (-12 : Int32)) hx hb dX11_shift_69 (by decide) ?_
            exact W.iret (v := (-12 : Int32)) hx hb hr (fun t ht2 hW => ⟨⟨(-12 : Int32), pm_elements, rfl, Option.some.inj h, by rw [ht2]; exact hP, hD⟩, hS.F ht2⟩) hS.2.2 dX11_shift_71 hlocks
          · have h := zk_f c_11 h
            refine lv_aload hx hb dX11_shift_56 (lv_at hl 1 rfl) ?_
            refine va_get (D := D) (ci := 6) (v := .int pl_holds) (C := RX6) (T := TX6) (N := 4) hx hb ht iX6 hown hK hP 2 rfl rfl 0 (by decide) (ht _ kw_681) (fun _ h9 => h9) rfl dX11_shift_58 ?_
            refine lv_aload hx hb dX11_shift_61 (lv_at hl 0 rfl) ?_
            refine va_get (D := D) (ci := 6) (v := .int pm_holds) (C := RX6) (T := TX6) (N := 4) hx hb ht iX6 hown hK hP 4 rfl rfl 0 (by decide) (ht _ kw_681) (fun _ h9 => h9) rfl dX11_shift_63 ?_
            refine lv_icmp_eq (tgt := 72) hx hb dX11_shift_66 (by decide) (fun c_12 => ?_) (fun c_12 => ?_)
            · have h := zk_t c_12 h
              refine lv_aload hx hb dX11_shift_72 (lv_at hl 1 rfl) ?_
              refine lv_iload_n hx hb dX11_shift_74 rfl (lv_at hl 4 rfl) ?_
              refine lv_iload hx hb dX11_shift_75 (lv_at hl 7 rfl) ?_
              obtain ⟨r_13, u_14, hc_15, h⟩ := zk_o2 h
              refine zz_vi (post := (fun r u => (r, u) = (r_13, u_14))) (w1 := fun u => (wl_X6_hasRange ad cs h_pl h_pl_elements pl_holds pl_suit pl_size)) (As := [.int x2, .int x5]) (rest := []) (c_X6_hasRange l D cs ad h_pl h_pl_elements H.size x2 x5 pl_holds pl_suit pl_size (r_13, u_14) hc_15) ⟨hx, hb, hml, hown, ht⟩ (cwV 2 ht g_X11_375 rfl rfl rfl ⟨rfl, hd_X6_hasRange⟩ ⟨Nat.le_of_ble_eq_true rfl, Nat.le_of_ble_eq_true rfl⟩) (va_recv hK hP (ci := 6) (q0 := 2) rfl rfl) hP hD hS hK hA [2] rfl rfl [h_pl] rfl (fun _ => rfl) rfl hl.1 (Nat.le_of_ble_eq_true rfl) dX11_shift_77 ⟨Nat.zero_le _, Nat.zero_le _⟩ (fun r u H locs hq hP hS => ?_)
              cases hq
              have hP : va_P D classes (wl_X11_shiftB ad cs h_pl h_pl_elements h_pm h_pm_elements root_places pl_holds pl_suit pl_size pl_elements pm_holds pm_suit pm_size pm_elements) H := hP
              have hD : va_D A (wl_X11_shiftB ad cs h_pl h_pl_elements h_pm h_pm_elements root_places pl_holds pl_suit pl_size pl_elements pm_holds pm_suit pm_size pm_elements) := zDk hD [(ad 0), (ad 1), h_pl, h_pl_elements, h_pm, h_pm_elements] rfl rfl
              refine lv_if_eq (tgt := 95) hx hb dX11_shift_80 (by decide) (fun c_16 => ?_) (fun c_16 => ?_)
              · have h := zk_t c_16 h
                refine lv_bipush (v := (-13 : Int32)) hx hb dX11_shift_95 (by decide) ?_
                exact W.iret (v := (-13 : Int32)) hx hb hr (fun t ht2 hW => ⟨⟨(-13 : Int32), pm_elements, rfl, Option.some.inj h, by rw [ht2]; exact hP, hD⟩, hS.F ht2⟩) hS.2.2 dX11_shift_97 hlocks
              · have h := zk_f c_16 h
                refine lv_aload hx hb dX11_shift_83 (lv_at hl 0 rfl) ?_
                refine lv_iload hx hb dX11_shift_85 (lv_at hl 6 rfl) ?_
                refine lv_iload hx hb dX11_shift_87 (lv_at hl 7 rfl) ?_
                obtain ⟨r_17, u_18, hc_19, h⟩ := zk_o2 h
                refine zz_vi (post := (fun r u => (r, u) = (r_17, u_18))) (w1 := fun u => (wl_X6_hasRange ad cs h_pm h_pm_elements pm_holds pm_suit pm_size)) (As := [.int x4, .int x5]) (rest := []) (c_X6_hasRange l D cs ad h_pm h_pm_elements H.size x4 x5 pm_holds pm_suit pm_size (r_17, u_18) hc_19) ⟨hx, hb, hml, hown, ht⟩ (cwV 2 ht g_X11_375 rfl rfl rfl ⟨rfl, hd_X6_hasRange⟩ ⟨Nat.le_of_ble_eq_true rfl, Nat.le_of_ble_eq_true rfl⟩) (va_recv hK hP (ci := 6) (q0 := 4) rfl rfl) hP hD hS hK hA [4] rfl rfl [h_pm] rfl (fun _ => rfl) rfl hl.1 (Nat.le_of_ble_eq_true rfl) dX11_shift_89 ⟨Nat.zero_le _, Nat.zero_le _⟩ (fun r u H locs hq hP hS => ?_)
                cases hq
                have hP : va_P D classes (wl_X11_shiftB ad cs h_pl h_pl_elements h_pm h_pm_elements root_places pl_holds pl_suit pl_size pl_elements pm_holds pm_suit pm_size pm_elements) H := hP
                have hD : va_D A (wl_X11_shiftB ad cs h_pl h_pl_elements h_pm h_pm_elements root_places pl_holds pl_suit pl_size pl_elements pm_holds pm_suit pm_size pm_elements) := zDk hD [(ad 0), (ad 1), h_pl, h_pl_elements, h_pm, h_pm_elements] rfl rfl
                refine lv_if_ne (tgt := 98) hx hb dX11_shift_92 (by decide) (fun c_20 => ?_) (fun c_20 => ?_)
                · have h := zk_f c_20 h
                  refine lv_aload hx hb dX11_shift_98 (lv_at hl 1 rfl) ?_
                  refine va_get (D := D) (ci := 6) (v := .ref h_pl_elements) (C := RX6) (T := TX6) (N := 4) hx hb ht iX6 hown hK hP 2 rfl rfl 3 (by decide) (ht _ kw_686) (fun _ h9 => h9) rfl dX11_shift_100 ?_
                  refine lv_iload_n hx hb dX11_shift_103 rfl (lv_at hl 4 rfl) ?_
                  refine lv_aload hx hb dX11_shift_104 (lv_at hl 0 rfl) ?_
                  refine va_get (D := D) (ci := 6) (v := .ref h_pm_elements) (C := RX6) (T := TX6) (N := 4) hx hb ht iX6 hown hK hP 4 rfl rfl 3 (by decide) (ht _ kw_686) (fun _ h9 => h9) rfl dX11_shift_106 ?_
                  refine lv_iload hx hb dX11_shift_109 (lv_at hl 6 rfl) ?_
                  refine lv_iload hx hb dX11_shift_111 (lv_at hl 7 rfl) ?_
                  obtain ⟨g_21, h⟩ := zk_gd h
                  obtain ⟨f_22, ef_22, h⟩ := zk_lt h
                  refine va_copyl (ty := .long) hx hb (by rw [hml]; exact hl.1.symm) hown (ht _ kw_1277) (ht _ kw_665) (ht _ kw_664) (ht _ kw_93) hK hP hD hS 3 5 1 1 rfl rfl rfl rfl rfl (fun z => g_21 (Or.inl z)) (fun z => g_21 (Or.inr (Or.inl z))) (fun z => g_21 (Or.inr (Or.inr (Or.inl z)))) (Nat.not_lt.mp fun z => g_21 (Or.inr (Or.inr (Or.inr (Or.inl z))))) (Nat.not_lt.mp fun z => g_21 (Or.inr (Or.inr (Or.inr (Or.inr z))))) (fun _ _ => rfl) (Nat.le_of_ble_eq_true rfl) (Nat.le_of_ble_eq_true rfl) dX11_shift_113 (fun H locs hP hD hS => ?_)
                  have hP : va_P D classes (wl_X11_shiftB ad cs h_pl h_pl_elements h_pm h_pm_elements root_places pl_holds pl_suit pl_size pl_elements pm_holds pm_suit pm_size f_22) H := by rw [ef_22]; exact hP
                  have hD : va_D A (wl_X11_shiftB ad cs h_pl h_pl_elements h_pm h_pm_elements root_places pl_holds pl_suit pl_size pl_elements pm_holds pm_suit pm_size f_22) := by rw [ef_22]; exact hD
                  refine lv_iload hx hb dX11_shift_116 (lv_at hl 7 rfl) ?_
                  exact W.iret (v := x5) hx hb hr (fun t ht2 hW => ⟨⟨x5, f_22, rfl, Option.some.inj h, by rw [ht2]; exact hP, hD⟩, hS.F ht2⟩) hS.2.2 dX11_shift_118 hlocks
                · have h := zk_t c_20 h
                  refine lv_bipush (v := (-13 : Int32)) hx hb dX11_shift_95 (by decide) ?_
                  exact W.iret (v := (-13 : Int32)) hx hb hr (fun t ht2 hW => ⟨⟨(-13 : Int32), pm_elements, rfl, Option.some.inj h, by rw [ht2]; exact hP, hD⟩, hS.F ht2⟩) hS.2.2 dX11_shift_97 hlocks
            · have h := zk_f c_12 h
              refine lv_bipush (v := (-12 : Int32)) hx hb dX11_shift_69 (by decide) ?_
              exact W.iret (v := (-12 : Int32)) hx hb hr (fun t ht2 hW => ⟨⟨(-12 : Int32), pm_elements, rfl, Option.some.inj h, by rw [ht2]; exact hP, hD⟩, hS.F ht2⟩) hS.2.2 dX11_shift_71 hlocks
        · have h := zk_t c_10 h
          refine lv_bipush (v := (-11 : Int32)) hx hb dX11_shift_44 (by decide) ?_
          exact W.iret (v := (-11 : Int32)) hx hb hr (fun t ht2 hW => ⟨⟨(-11 : Int32), pm_elements, rfl, Option.some.inj h, by rw [ht2]; exact hP, hD⟩, hS.F ht2⟩) hS.2.2 dX11_shift_46 hlocks
    · have h := zk_f c_8 h
      refine W.eq (g2 := F0 m 12 ls [.null]) (by rw [if_neg c_8]; rfl) ?_
      refine lv_astoreN (lv' := [(7, .null), (6, .ref h_pl), (0, .ref (ad 0)), (1, .int x1), (2, .int x2), (3, .int x3), (4, .int x4), (5, .int x5)]) hx hb dX11_shift_12 hl (by decide) rfl (fun ls hl => ?_)
      refine lv_aload hx hb dX11_shift_14 (lv_at hl 1 rfl) ?_
      refine lv_ifnull hx hb dX11_shift_16 ?_
      refine lv_aloadN hx hb dX11_shift_19 (lv_at hl 0 rfl) ?_
      refine lv_ifnonnullN hx hb dX11_shift_21 ?_
      refine lv_iconst (v := (-1 : Int32)) hx hb dX11_shift_24 (by decide) ?_
      exact W.iret (v := (-1 : Int32)) hx hb hr (fun t ht2 hW => ⟨⟨(-1 : Int32), pm_elements, rfl, Option.some.inj h, by rw [ht2]; exact hP, hD⟩, hS.F ht2⟩) hS.2.2 dX11_shift_25 hlocks
  · have h := zk_f c_4 h
    refine W.eq (g2 := F0 m 5 ls [.null]) (by rw [if_neg c_4]; rfl) ?_
    refine lv_astoreN (lv' := [(6, .null), (0, .ref (ad 0)), (1, .int x1), (2, .int x2), (3, .int x3), (4, .int x4), (5, .int x5)]) hx hb dX11_shift_5 hl (by decide) rfl (fun ls hl => ?_)
    refine lv_aload_n hx hb dX11_shift_7 rfl (lv_at hl 1 rfl) ?_
    refine lv_iload_n hx hb dX11_shift_8 rfl (lv_at hl 4 rfl) ?_
    obtain ⟨r_23, u_24, hc_25, h⟩ := zk_o2 h
    refine zz_vq (post := (fun r u => r = (if r_23 = true then some h_pm else none) ∧ u = (u_24))) (w1 := fun u => (wl_X11_placeAt ad cs h_pm h_pm_elements root_places pm_holds pm_suit pm_size)) (As := [.int x3]) (rest := []) (c_X11_placeAt l D cs ad h_pm h_pm_elements H.size x3 root_places pm_holds pm_suit pm_size (r_23, u_24) hc_25) ⟨hx, hb, hml, hown, ht⟩ (cwV 1 ht g_X11_111 rfl rfl rfl ⟨rfl, hd_X11_placeAt⟩ ⟨Nat.le_of_ble_eq_true rfl, Nat.le_of_ble_eq_true rfl⟩) (va_recv hK hP (ci := 11) (q0 := 0) rfl rfl) hP hD hS hK hA [0, 1, 4] rfl rfl [(ad 0), (ad 1), h_pm] rfl (fun _ => rfl) rfl hl.1 (Nat.le_of_ble_eq_true rfl) dX11_shift_9 ⟨Nat.zero_le _, Nat.zero_le _⟩ (fun r u H locs hq hP hS => ?_)
    obtain ⟨hq1, hq2⟩ := hq; cases hq2; subst hq1
    have hP : va_P D classes (wl_X11_shiftB ad cs h_pl h_pl_elements h_pm h_pm_elements root_places pl_holds pl_suit pl_size pl_elements pm_holds pm_suit pm_size pm_elements) H := hP
    have hD : va_D A (wl_X11_shiftB ad cs h_pl h_pl_elements h_pm h_pm_elements root_places pl_holds pl_suit pl_size pl_elements pm_holds pm_suit pm_size pm_elements) := zDk hD [(ad 0), (ad 1), h_pl, h_pl_elements, h_pm, h_pm_elements] rfl rfl
    by_cases c_26 : r_23 = true
    · have h := zk_t c_26 h
      refine W.eq (g2 := F0 m 12 ls [.ref h_pm]) (by rw [if_pos c_26]; rfl) ?_
      refine lv_astore (lv' := [(7, .ref h_pm), (6, .null), (0, .ref (ad 0)), (1, .int x1), (2, .int x2), (3, .int x3), (4, .int x4), (5, .int x5)]) hx hb dX11_shift_12 hl (by decide) rfl (fun ls hl => ?_)
      refine lv_aloadN hx hb dX11_shift_14 (lv_at hl 1 rfl) ?_
      refine lv_ifnullN (tgt := 24) hx hb dX11_shift_16 (by decide) ?_
      refine lv_iconst (v := (-1 : Int32)) hx hb dX11_shift_24 (by decide) ?_
      exact W.iret (v := (-1 : Int32)) hx hb hr (fun t ht2 hW => ⟨⟨(-1 : Int32), pm_elements, rfl, Option.some.inj h, by rw [ht2]; exact hP, hD⟩, hS.F ht2⟩) hS.2.2 dX11_shift_25 hlocks
    · have h := zk_f c_26 h
      refine W.eq (g2 := F0 m 12 ls [.null]) (by rw [if_neg c_26]; rfl) ?_
      refine lv_astoreN (lv' := [(7, .null), (6, .null), (0, .ref (ad 0)), (1, .int x1), (2, .int x2), (3, .int x3), (4, .int x4), (5, .int x5)]) hx hb dX11_shift_12 hl (by decide) rfl (fun ls hl => ?_)
      refine lv_aloadN hx hb dX11_shift_14 (lv_at hl 1 rfl) ?_
      refine lv_ifnullN (tgt := 24) hx hb dX11_shift_16 (by decide) ?_
      refine lv_iconst (v := (-1 : Int32)) hx hb dX11_shift_24 (by decide) ?_
      exact W.iret (v := (-1 : Int32)) hx hb hr (fun t ht2 hW => ⟨⟨(-1 : Int32), pm_elements, rfl, Option.some.inj h, by rw [ht2]; exact hP, hD⟩, hS.F ht2⟩) hS.2.2 dX11_shift_25 hlocks
set_option maxHeartbeats 4000000 in
set_option maxRecDepth 100000 in
theorem c_X11_shiftB (l : Launch) (D : va_G) (cs : Nat → ClassId) (ad : Nat → Nat) (h_pl : Nat) (h_pl_elements : Nat) (h_pm : Nat) (h_pm_elements : Nat) (sz : Nat) (x1 : Int32) (x2 : Int32) (x3 : Int32) (x4 : Int32) (x5 : Int32) (root_places : Nat → Option Nat) (pl_holds : Int32) (pl_suit : Int32) (pl_size : Int32) (pl_elements : Nat → Int64) (pm_holds : Int32) (pm_suit : Int32) (pm_size : Int32) (pm_elements : Nat → Int64) (R : Int32 × (Nat → Int64)) (h : f_X11_shiftB h_pl h_pm  x1 x2 x3 x4 x5 root_places pl_holds pl_suit pl_size pl_elements pm_holds pm_suit pm_size pm_elements = some R) : Met l yX11_shift (z_X11_shift) rm_X11_shiftB (va_Pc [.ref (ad 0), .int x1, .int x2, .int x3, .int x4, .int x5] (zPre D cs (wl_X11_shiftB ad cs h_pl h_pl_elements h_pm h_pm_elements root_places pl_holds pl_suit pl_size pl_elements pm_holds pm_suit pm_size pm_elements) sz)) (Q_X11_shiftB D cs ad h_pl h_pl_elements h_pm h_pm_elements root_places pl_holds pl_suit pl_size pl_elements pm_holds pm_suit pm_size (va_A (wl_X11_shiftB ad cs h_pl h_pl_elements h_pm h_pm_elements root_places pl_holds pl_suit pl_size pl_elements pm_holds pm_suit pm_size pm_elements) sz) R) 0 0 (va_A (wl_X11_shiftB ad cs h_pl h_pl_elements h_pm h_pm_elements root_places pl_holds pl_suit pl_size pl_elements pm_holds pm_suit pm_size pm_elements) sz) := by
  refine Met.ofW (cc := cX11_shift) (maxL := 8) (ret := (some .int)) (by decide) rfl ?_
  intro p e s m args below meth c s₁ B hml hv
  obtain ⟨rfl, hsz, hP, hK, hD0⟩ := hv
  subst hsz
  have hD := hD0.self (sz := s.heap.size)
  have C0 : zC p s m _ meth c cX11_shift 8 (some .int) RX11 zW := ⟨B.exec, B.bytes, B.returns, hml, findClass_of_methodNamed B.named, fun w hw => atoms_spec (ws := z_X11_shift) B.pre w (List.mem_cons_of_mem _ hw), B.notSynchronized⟩
  have hA : ∀ q : Nat, s.heap.size ≤ q → va_A (wl_X11_shiftB ad cs h_pl h_pl_elements h_pm h_pm_elements root_places pl_holds pl_suit pl_size pl_elements pm_holds pm_suit pm_size pm_elements) s.heap.size q := fun q h => Or.inr h
  have hl := lv_entry ([.ref (ad 0), .int x1, .int x2, .int x3, .int x4, .int x5]) (n := 8) (Nat.le_of_ble_eq_true rfl)
  rw [lg_entry_eq]
  generalize (lg_sl ([.ref (ad 0), .int x1, .int x2, .int x3, .int x4, .int x5]) ++ List.replicate (8 - (lg_sl ([.ref (ad 0), .int x1, .int x2, .int x3, .int x4, .int x5])).length) Slot.unset).toArray = ls at hl ⊢
  exact L_X11_shiftB_0 C0 hK hA   x1 x2 x3 x4 x5 pm_elements h s.heap [] ls hP hD va_S.rf hl
