theorem kw_7 : Cond.selects RX10 yX10_seek yX10_seek ∈ zW := zwI (i := 7) (by decide +kernel) (by decide +kernel)
theorem kw_1123 : Cond.instanceMethod yX10_seek ∈ zW := zwC (i := 89) zc_5 rfl rfl
theorem kw_1124 : Cond.code yX10_seek cX10_seek 7 none ∈ zW := zwC (i := 90) zc_5 rfl rfl
theorem kw_1125 : Cond.methodLink RX10 106 yJ6_bitCount_0f7a4 ∈ zW := zwC (i := 91) zc_5 rfl rfl
theorem kw_1126 : Cond.methodLink RX10 112 yX10_mayAsk ∈ zW := zwC (i := 92) zc_5 rfl rfl
theorem kw_1127 : Cond.instanceMethod yX10_mayAsk ∈ zW := zwC (i := 93) zc_5 rfl rfl
theorem kw_1128 : Cond.selects RX10 yX10_mayAsk yX10_mayAsk ∈ zW := zwC (i := 94) zc_5 rfl rfl
theorem kw_1129 : Cond.code yX10_mayAsk cX10_mayAsk 6 (some .boolean) ∈ zW := zwC (i := 95) zc_5 rfl rfl
theorem kw_1130 : Cond.methodLink RX10 116 yX10_seek ∈ zW := zwC (i := 96) zc_5 rfl rfl
theorem zh_cX10_seek_0 : zck [29, 184, 0, 106, 42, 180, 0, 34, 96, 27, 100, 42, 180, 0, 38, 163, 0, 4, 177, 27, 42, 180] (zdu 0 cX10_seek.data.toList) = true := by decide +kernel
theorem dX10_seek_0 : decode cX10_seek 0 = .ok (.iload_n 3, 1) := zo_29 zh_cX10_seek_0 0 rfl
theorem dX10_seek_1 : decode cX10_seek 1 = .ok (.invokestatic 106, 3) := zo_184 zh_cX10_seek_0 1 rfl
theorem dX10_seek_4 : decode cX10_seek 4 = .ok (.aload_n 0, 1) := zo_42 zh_cX10_seek_0 4 rfl
theorem dX10_seek_5 : decode cX10_seek 5 = .ok (.getfield 34, 3) := zo_180 zh_cX10_seek_0 5 rfl
theorem dX10_seek_8 : decode cX10_seek 8 = .ok (.iadd, 1) := zo_96 zh_cX10_seek_0 8 rfl
theorem dX10_seek_9 : decode cX10_seek 9 = .ok (.iload_n 1, 1) := zo_27 zh_cX10_seek_0 9 rfl
theorem dX10_seek_10 : decode cX10_seek 10 = .ok (.isub, 1) := zo_100 zh_cX10_seek_0 10 rfl
theorem dX10_seek_11 : decode cX10_seek 11 = .ok (.aload_n 0, 1) := zo_42 zh_cX10_seek_0 11 rfl
theorem dX10_seek_12 : decode cX10_seek 12 = .ok (.getfield 38, 3) := zo_180 zh_cX10_seek_0 12 rfl
theorem dX10_seek_15 : decode cX10_seek 15 = .ok (.if_icmp .gt 4, 3) := zo_p163 zh_cX10_seek_0 15 4 rfl rfl
theorem dX10_seek_18 : decode cX10_seek 18 = .ok (.return_, 1) := zo_177 zh_cX10_seek_0 18 rfl
theorem dX10_seek_19 : decode cX10_seek 19 = .ok (.iload_n 1, 1) := zo_27 zh_cX10_seek_0 19 rfl
theorem zh_cX10_seek_1 : zck [42, 180, 0, 34, 161, 0, 18, 42, 29, 184, 0, 106, 181, 0, 38, 42, 21, 4, 181, 0, 41, 177] (zdu 20 cX10_seek.data.toList) = true := by decide +kernel
theorem dX10_seek_20 : decode cX10_seek 20 = .ok (.aload_n 0, 1) := zo_42 zh_cX10_seek_1 0 rfl
theorem dX10_seek_21 : decode cX10_seek 21 = .ok (.getfield 34, 3) := zo_180 zh_cX10_seek_1 1 rfl
theorem dX10_seek_24 : decode cX10_seek 24 = .ok (.if_icmp .lt 18, 3) := zo_p161 zh_cX10_seek_1 4 18 rfl rfl
theorem dX10_seek_27 : decode cX10_seek 27 = .ok (.aload_n 0, 1) := zo_42 zh_cX10_seek_1 7 rfl
theorem dX10_seek_28 : decode cX10_seek 28 = .ok (.iload_n 3, 1) := zo_29 zh_cX10_seek_1 8 rfl
theorem dX10_seek_29 : decode cX10_seek 29 = .ok (.invokestatic 106, 3) := zo_184 zh_cX10_seek_1 9 rfl
theorem dX10_seek_32 : decode cX10_seek 32 = .ok (.putfield 38, 3) := zo_181 zh_cX10_seek_1 12 rfl
theorem dX10_seek_35 : decode cX10_seek 35 = .ok (.aload_n 0, 1) := zo_42 zh_cX10_seek_1 15 rfl
theorem dX10_seek_36 : decode cX10_seek 36 = .ok (.iload 4, 2) := zo_21 zh_cX10_seek_1 16 rfl
theorem dX10_seek_38 : decode cX10_seek 38 = .ok (.putfield 41, 3) := zo_181 zh_cX10_seek_1 18 rfl
theorem zh_cX10_seek_2 : zck [41, 177, 3, 54, 5, 21, 5, 42, 180, 0, 34, 162, 0, 73, 28, 21, 5, 122, 4, 126, 154, 0] (zdu 40 cX10_seek.data.toList) = true := by decide +kernel
theorem dX10_seek_41 : decode cX10_seek 41 = .ok (.return_, 1) := zo_177 zh_cX10_seek_2 1 rfl
theorem dX10_seek_42 : decode cX10_seek 42 = .ok (.iconst 0, 1) := zo_3 zh_cX10_seek_2 2 rfl
theorem dX10_seek_43 : decode cX10_seek 43 = .ok (.istore 5, 2) := zo_54 zh_cX10_seek_2 3 rfl
theorem dX10_seek_45 : decode cX10_seek 45 = .ok (.iload 5, 2) := zo_21 zh_cX10_seek_2 5 rfl
theorem dX10_seek_47 : decode cX10_seek 47 = .ok (.aload_n 0, 1) := zo_42 zh_cX10_seek_2 7 rfl
theorem dX10_seek_48 : decode cX10_seek 48 = .ok (.getfield 34, 3) := zo_180 zh_cX10_seek_2 8 rfl
theorem dX10_seek_51 : decode cX10_seek 51 = .ok (.if_icmp .ge 73, 3) := zo_p162 zh_cX10_seek_2 11 73 rfl rfl
theorem dX10_seek_54 : decode cX10_seek 54 = .ok (.iload_n 2, 1) := zo_28 zh_cX10_seek_2 14 rfl
theorem dX10_seek_55 : decode cX10_seek 55 = .ok (.iload 5, 2) := zo_21 zh_cX10_seek_2 15 rfl
theorem dX10_seek_57 : decode cX10_seek 57 = .ok (.ishr, 1) := zo_122 zh_cX10_seek_2 17 rfl
theorem dX10_seek_58 : decode cX10_seek 58 = .ok (.iconst 1, 1) := zo_4 zh_cX10_seek_2 18 rfl
theorem dX10_seek_59 : decode cX10_seek 59 = .ok (.iand, 1) := zo_126 zh_cX10_seek_2 19 rfl
theorem zh_cX10_seek_3 : zck [154, 0, 58, 42, 180, 0, 24, 27, 21, 5, 79, 42, 21, 5, 27, 29, 182, 0, 112, 153, 0, 9] (zdu 60 cX10_seek.data.toList) = true := by decide +kernel
theorem dX10_seek_60 : decode cX10_seek 60 = .ok (.ifCond .ne 58, 3) := zo_p154 zh_cX10_seek_3 0 58 rfl rfl
theorem dX10_seek_63 : decode cX10_seek 63 = .ok (.aload_n 0, 1) := zo_42 zh_cX10_seek_3 3 rfl
theorem dX10_seek_64 : decode cX10_seek 64 = .ok (.getfield 24, 3) := zo_180 zh_cX10_seek_3 4 rfl
theorem dX10_seek_67 : decode cX10_seek 67 = .ok (.iload_n 1, 1) := zo_27 zh_cX10_seek_3 7 rfl
theorem dX10_seek_68 : decode cX10_seek 68 = .ok (.iload 5, 2) := zo_21 zh_cX10_seek_3 8 rfl
theorem dX10_seek_70 : decode cX10_seek 70 = .ok (.iastore, 1) := zo_79 zh_cX10_seek_3 10 rfl
theorem dX10_seek_71 : decode cX10_seek 71 = .ok (.aload_n 0, 1) := zo_42 zh_cX10_seek_3 11 rfl
theorem dX10_seek_72 : decode cX10_seek 72 = .ok (.iload 5, 2) := zo_21 zh_cX10_seek_3 12 rfl
theorem dX10_seek_74 : decode cX10_seek 74 = .ok (.iload_n 1, 1) := zo_27 zh_cX10_seek_3 14 rfl
theorem dX10_seek_75 : decode cX10_seek 75 = .ok (.iload_n 3, 1) := zo_29 zh_cX10_seek_3 15 rfl
theorem dX10_seek_76 : decode cX10_seek 76 = .ok (.invokevirtual 112, 3) := zo_182 zh_cX10_seek_3 16 rfl
theorem dX10_seek_79 : decode cX10_seek 79 = .ok (.ifCond .eq 9, 3) := zo_p153 zh_cX10_seek_3 19 9 rfl rfl
theorem zh_cX10_seek_4 : zck [0, 9, 4, 27, 120, 167, 0, 4, 3, 54, 6, 42, 27, 4, 96, 28, 4, 21, 5, 120, 128, 29] (zdu 80 cX10_seek.data.toList) = true := by decide +kernel
theorem dX10_seek_82 : decode cX10_seek 82 = .ok (.iconst 1, 1) := zo_4 zh_cX10_seek_4 2 rfl
theorem dX10_seek_83 : decode cX10_seek 83 = .ok (.iload_n 1, 1) := zo_27 zh_cX10_seek_4 3 rfl
theorem dX10_seek_84 : decode cX10_seek 84 = .ok (.ishl, 1) := zo_120 zh_cX10_seek_4 4 rfl
theorem dX10_seek_85 : decode cX10_seek 85 = .ok (.goto 4, 3) := zo_p167 zh_cX10_seek_4 5 4 rfl rfl
theorem dX10_seek_88 : decode cX10_seek 88 = .ok (.iconst 0, 1) := zo_3 zh_cX10_seek_4 8 rfl
theorem dX10_seek_89 : decode cX10_seek 89 = .ok (.istore 6, 2) := zo_54 zh_cX10_seek_4 9 rfl
theorem dX10_seek_91 : decode cX10_seek 91 = .ok (.aload_n 0, 1) := zo_42 zh_cX10_seek_4 11 rfl
theorem dX10_seek_92 : decode cX10_seek 92 = .ok (.iload_n 1, 1) := zo_27 zh_cX10_seek_4 12 rfl
theorem dX10_seek_93 : decode cX10_seek 93 = .ok (.iconst 1, 1) := zo_4 zh_cX10_seek_4 13 rfl
theorem dX10_seek_94 : decode cX10_seek 94 = .ok (.iadd, 1) := zo_96 zh_cX10_seek_4 14 rfl
theorem dX10_seek_95 : decode cX10_seek 95 = .ok (.iload_n 2, 1) := zo_28 zh_cX10_seek_4 15 rfl
theorem dX10_seek_96 : decode cX10_seek 96 = .ok (.iconst 1, 1) := zo_4 zh_cX10_seek_4 16 rfl
theorem dX10_seek_97 : decode cX10_seek 97 = .ok (.iload 5, 2) := zo_21 zh_cX10_seek_4 17 rfl
theorem dX10_seek_99 : decode cX10_seek 99 = .ok (.ishl, 1) := zo_120 zh_cX10_seek_4 19 rfl
theorem zh_cX10_seek_5 : zck [128, 29, 21, 6, 128, 21, 4, 16, 10, 104, 21, 5, 96, 4, 96, 182, 0, 116, 132, 5, 1, 167] (zdu 100 cX10_seek.data.toList) = true := by decide +kernel
theorem dX10_seek_100 : decode cX10_seek 100 = .ok (.ior, 1) := zo_128 zh_cX10_seek_5 0 rfl
theorem dX10_seek_101 : decode cX10_seek 101 = .ok (.iload_n 3, 1) := zo_29 zh_cX10_seek_5 1 rfl
theorem dX10_seek_102 : decode cX10_seek 102 = .ok (.iload 6, 2) := zo_21 zh_cX10_seek_5 2 rfl
theorem dX10_seek_104 : decode cX10_seek 104 = .ok (.ior, 1) := zo_128 zh_cX10_seek_5 4 rfl
theorem dX10_seek_105 : decode cX10_seek 105 = .ok (.iload 4, 2) := zo_21 zh_cX10_seek_5 5 rfl
theorem dX10_seek_107 : decode cX10_seek 107 = .ok (.bipush 10, 2) := zo_p16 zh_cX10_seek_5 7 10 rfl rfl
theorem dX10_seek_109 : decode cX10_seek 109 = .ok (.imul, 1) := zo_104 zh_cX10_seek_5 9 rfl
theorem dX10_seek_110 : decode cX10_seek 110 = .ok (.iload 5, 2) := zo_21 zh_cX10_seek_5 10 rfl
theorem dX10_seek_112 : decode cX10_seek 112 = .ok (.iadd, 1) := zo_96 zh_cX10_seek_5 12 rfl
theorem dX10_seek_113 : decode cX10_seek 113 = .ok (.iconst 1, 1) := zo_4 zh_cX10_seek_5 13 rfl
theorem dX10_seek_114 : decode cX10_seek 114 = .ok (.iadd, 1) := zo_96 zh_cX10_seek_5 14 rfl
theorem dX10_seek_115 : decode cX10_seek 115 = .ok (.invokevirtual 116, 3) := zo_182 zh_cX10_seek_5 15 rfl
theorem dX10_seek_118 : decode cX10_seek 118 = .ok (.iinc 5 1, 3) := zo_p132 zh_cX10_seek_5 18 1 rfl rfl
theorem zh_cX10_seek_6 : zck [1, 167, 255, 180, 177] (zdu 120 cX10_seek.data.toList) = true := by decide +kernel
theorem dX10_seek_121 : decode cX10_seek 121 = .ok (.goto (-76), 3) := zo_n167 zh_cX10_seek_6 1 75 rfl rfl
theorem dX10_seek_124 : decode cX10_seek 124 = .ok (.return_, 1) := zo_177 zh_cX10_seek_6 4 rfl
abbrev z_X10_seek : List Cond := .code yX10_seek cX10_seek 7 none :: zW
abbrev wl_X10_seek (ad : Nat → Nat) (cs : Nat → ClassId)  (wishes_size : Int32) (wishes_best : Int32) (wishes_bestRow : Int32) (wishes_closed : Nat → Int32) (wishes_closers : Nat → Int32) (wishes_placeOn : Nat → Int32) : va_W := [((ad 28), .inr (10, [.ref (ad 29), .ref (ad 30), .int wishes_size, .ref (ad 31), .ref (ad 32), .ref (ad 33), .ref (ad 85), .int wishes_best, .int wishes_bestRow])), ((ad 31), .inl (cs 0, 5, .inl wishes_closed)), ((ad 32), .inl (cs 0, 125, .inl wishes_closers)), ((ad 33), .inl (cs 0, 5, .inl wishes_placeOn))]
def Q_X10_seek (D : va_G) (cs : Nat → ClassId) (ad : Nat → Nat)  (wishes_size : Int32) (wishes_closed : Nat → Int32) (wishes_closers : Nat → Int32) (A : Nat → Prop) (R : Int32 × Int32 × (Nat → Int32)) : Array Value → State → Outcome → State → Prop :=
  va_Qv (fun u : Int32 × Int32 × (Nat → Int32) => u = R) (fun (u : Int32 × Int32 × (Nat → Int32)) (t : State) => va_P D classes (wl_X10_seek ad cs wishes_size u.1 u.2.1 wishes_closed wishes_closers u.2.2) t.heap ∧ va_D A (wl_X10_seek ad cs wishes_size u.1 u.2.1 wishes_closed wishes_closers u.2.2)) A
theorem g_X10_106 : GoodIn zW (va_wsS RX10 106 yJ6_bitCount_0f7a4 z_J6_bitCount_0f7a4) := zGS kw_1125 kw_957 kw_96 kw_958
theorem g_X10_112 : GoodIn zW (wsV RX10 112 RX10 yX10_mayAsk z_X10_mayAsk) := zGV kw_1126 kw_1127 kw_1128 kw_81 kw_1129
theorem g_X10_116 : GoodIn zW (wsV RX10 116 RX10 yX10_seek z_X10_seek) := zGV kw_1130 kw_1123 kw_7 kw_81 kw_1124
theorem hd_X10_mayAsk : yX10_mayAsk.cls ≠ "java/lang/invoke/MethodHandle" ∧ yX10_mayAsk.cls ≠ "java/lang/invoke/VarHandle" ∧ (parseMethodDescriptor yX10_mayAsk.desc).map (fun d => d.parameters.length) = some 3 := by decide +kernel
theorem hd_X10_seek : yX10_seek.cls ≠ "java/lang/invoke/MethodHandle" ∧ yX10_seek.cls ≠ "java/lang/invoke/VarHandle" ∧ (parseMethodDescriptor yX10_seek.desc).map (fun d => d.parameters.length) = some 4 := by decide +kernel
def B_X10_seek_118  (r_X10_seek : Int32 → Int32 → Int32 → Int32 → Int32 → Int32 → Int32 → (Nat → Int32) → (Nat → Int32) → (Nat → Int32) → (Option (Int32 × Int32 × (Nat → Int32)))) (g45 : Int32 → Int32 → Int32 → Int32 → Int32 → Int32 → Int32 → (Nat → Int32) → (Option (Int32 × Int32 × (Nat → Int32)))) (wishes_size : Int32) (wishes_closed : Nat → Int32) (wishes_closers : Nat → Int32) (x1 : Int32) (x2 : Int32) (x3 : Int32) (x4 : Int32) (x5 : Int32) (wishes_best : Int32) (wishes_bestRow : Int32) (wishes_placeOn : Nat → Int32) : Option (Int32 × Int32 × (Nat → Int32)) :=
  (zk_let (x5 + (1 : Int32)) (fun v_21 => (g45 x1 x2 x3 x4 v_21 wishes_best wishes_bestRow wishes_placeOn)))
def B_X10_seek_89  (r_X10_seek : Int32 → Int32 → Int32 → Int32 → Int32 → Int32 → Int32 → (Nat → Int32) → (Nat → Int32) → (Nat → Int32) → (Option (Int32 × Int32 × (Nat → Int32)))) (g45 : Int32 → Int32 → Int32 → Int32 → Int32 → Int32 → Int32 → (Nat → Int32) → (Option (Int32 × Int32 × (Nat → Int32)))) (wishes_size : Int32) (wishes_closed : Nat → Int32) (wishes_closers : Nat → Int32) (x1 : Int32) (x2 : Int32) (x3 : Int32) (x4 : Int32) (x5 : Int32) (s0 : Int32) (wishes_best : Int32) (wishes_bestRow : Int32) (wishes_placeOn : Nat → Int32) : Option (Int32 × Int32 × (Nat → Int32)) :=
  (zk_b3 (r_X10_seek (x1 + (1 : Int32)) (x2 ||| ((1 : Int32) <<< (x5 &&& 31))) (x3 ||| s0) (((x4 * (10 : Int32)) + x5) + (1 : Int32)) wishes_size wishes_best wishes_bestRow wishes_closed wishes_closers wishes_placeOn) (fun u_17 u_18 u_19 => (B_X10_seek_118 r_X10_seek g45 wishes_size wishes_closed wishes_closers x1 x2 x3 x4 x5 u_17 u_18 u_19)))
def B_X10_seek_45  (r_X10_seek : Int32 → Int32 → Int32 → Int32 → Int32 → Int32 → Int32 → (Nat → Int32) → (Nat → Int32) → (Nat → Int32) → (Option (Int32 × Int32 × (Nat → Int32)))) (g45 : Int32 → Int32 → Int32 → Int32 → Int32 → Int32 → Int32 → (Nat → Int32) → (Option (Int32 × Int32 × (Nat → Int32)))) (wishes_size : Int32) (wishes_closed : Nat → Int32) (wishes_closers : Nat → Int32) (x1 : Int32) (x2 : Int32) (x3 : Int32) (x4 : Int32) (x5 : Int32) (wishes_best : Int32) (wishes_bestRow : Int32) (wishes_placeOn : Nat → Int32) : Option (Int32 × Int32 × (Nat → Int32)) :=
  (if wishes_size ≤ x5 then (some (wishes_best, wishes_bestRow, wishes_placeOn)) else (if ((x2 >>> (x5 &&& 31)) &&& (1 : Int32)) = 0 then (if (x1 < 0 ∨ 5 ≤ x1.toNatClampNeg) then none else (zk_let (upd wishes_placeOn x1.toNatClampNeg x5) (fun f_12 => (zk_b2 (f_X10_mayAsk 100000 x5 x1 x3 wishes_size wishes_best wishes_bestRow wishes_closed wishes_closers f_12) (fun r_13 u_14 => (if r_13 = 0 then (B_X10_seek_89 r_X10_seek g45 wishes_size wishes_closed wishes_closers x1 x2 x3 x4 x5 (0 : Int32) wishes_best wishes_bestRow f_12) else (B_X10_seek_89 r_X10_seek g45 wishes_size wishes_closed wishes_closers x1 x2 x3 x4 x5 ((1 : Int32) <<< (x1 &&& 31)) wishes_best wishes_bestRow f_12))))))) else (B_X10_seek_118 r_X10_seek g45 wishes_size wishes_closed wishes_closers x1 x2 x3 x4 x5 wishes_best wishes_bestRow wishes_placeOn)))
def B_X10_seek_0  (r_X10_seek : Int32 → Int32 → Int32 → Int32 → Int32 → Int32 → Int32 → (Nat → Int32) → (Nat → Int32) → (Nat → Int32) → (Option (Int32 × Int32 × (Nat → Int32)))) (g45 : Int32 → Int32 → Int32 → Int32 → Int32 → Int32 → Int32 → (Nat → Int32) → (Option (Int32 × Int32 × (Nat → Int32)))) (wishes_size : Int32) (wishes_closed : Nat → Int32) (wishes_closers : Nat → Int32) (x1 : Int32) (x2 : Int32) (x3 : Int32) (x4 : Int32) (wishes_best : Int32) (wishes_bestRow : Int32) (wishes_placeOn : Nat → Int32) : Option (Int32 × Int32 × (Nat → Int32)) :=
  (zk_b2 (f_J6_bitCount_0f7a4 x3) (fun r_1 u_2 => (if wishes_best < ((r_1 + wishes_size) - x1) then (if x1 < wishes_size then (g45 x1 x2 x3 x4 (0 : Int32) wishes_best wishes_bestRow wishes_placeOn) else (zk_b2 (f_J6_bitCount_0f7a4 x3) (fun r_6 u_7 => (some (r_6, x4, wishes_placeOn))))) else (some (wishes_best, wishes_bestRow, wishes_placeOn)))))
def G_X10_seek  (r_X10_seek : Int32 → Int32 → Int32 → Int32 → Int32 → Int32 → Int32 → (Nat → Int32) → (Nat → Int32) → (Nat → Int32) → (Option (Int32 × Int32 × (Nat → Int32)))) (wishes_size : Int32) (wishes_closed : Nat → Int32) (wishes_closers : Nat → Int32) (n : Nat) : (Int32 → Int32 → Int32 → Int32 → Int32 → Int32 → Int32 → (Nat → Int32) → (Option (Int32 × Int32 × (Nat → Int32)))) :=
  Nat.rec (motive := fun _ => (Int32 → Int32 → Int32 → Int32 → Int32 → Int32 → Int32 → (Nat → Int32) → (Option (Int32 × Int32 × (Nat → Int32))))) ((fun _ _ _ _ _ _ _ _ => none)) (fun _ ih => (B_X10_seek_45  r_X10_seek ih wishes_size wishes_closed wishes_closers)) n
def f_X10_seek  (r_X10_seek : Int32 → Int32 → Int32 → Int32 → Int32 → Int32 → Int32 → (Nat → Int32) → (Nat → Int32) → (Nat → Int32) → (Option (Int32 × Int32 × (Nat → Int32)))) (n : Nat) (x1 : Int32) (x2 : Int32) (x3 : Int32) (x4 : Int32) (wishes_size : Int32) (wishes_best : Int32) (wishes_bestRow : Int32) (wishes_closed : Nat → Int32) (wishes_closers : Nat → Int32) (wishes_placeOn : Nat → Int32) : Option (Int32 × Int32 × (Nat → Int32)) := B_X10_seek_0  r_X10_seek ((G_X10_seek  r_X10_seek wishes_size wishes_closed wishes_closers n)) wishes_size wishes_closed wishes_closers x1 x2 x3 x4 wishes_best wishes_bestRow wishes_placeOn
def grp_grp185 (n : Nat) : (Int32 → Int32 → Int32 → Int32 → Int32 → Int32 → Int32 → (Nat → Int32) → (Nat → Int32) → (Nat → Int32) → (Option (Int32 × Int32 × (Nat → Int32)))) :=
  Nat.rec (motive := fun _ => (Int32 → Int32 → Int32 → Int32 → Int32 → Int32 → Int32 → (Nat → Int32) → (Nat → Int32) → (Nat → Int32) → (Option (Int32 × Int32 × (Nat → Int32))))) ((fun _ _ _ _ _ _ _ _ _ _ => none)) (fun _ ih => (f_X10_seek (ih) 100000)) n
set_option maxHeartbeats 4000000 in
set_option maxRecDepth 100000 in
theorem L_X10_seek_118 {p : Program} {l : Launch} {e : Env} {s : State} {m : MethodId} {args : Array Value} {below : List Frame} {meth : Method} {c : Code} {A : Nat → Prop} {D : va_G} {cs : Nat → ClassId} {ad : Nat → Nat} {wishes_size : Int32} {wishes_closed : Nat → Int32} {wishes_closers : Nat → Int32} {R : Int32 × Int32 × (Nat → Int32)} {g45 : Int32 → Int32 → Int32 → Int32 → Int32 → Int32 → Int32 → (Nat → Int32) → (Option (Int32 × Int32 × (Nat → Int32)))} (C0 : zC p s m args meth c cX10_seek 7 none RX10 zW) (hK : va_K D classes (zT cs) s) (hA : ∀ q : Nat, s.heap.size ≤ q → A q) {fr lo : Nat} {r_X10_seek : Int32 → Int32 → Int32 → Int32 → Int32 → Int32 → Int32 → (Nat → Int32) → (Nat → Int32) → (Nat → Int32) → (Option (Int32 × Int32 × (Nat → Int32)))} (hr_X10_seek : ∀ (D : va_G) (cs : Nat → ClassId) (ad : Nat → Nat) (sz : Nat) (x1 : Int32) (x2 : Int32) (x3 : Int32) (x4 : Int32) (wishes_size : Int32) (wishes_best : Int32) (wishes_bestRow : Int32) (wishes_closed : Nat → Int32) (wishes_closers : Nat → Int32) (wishes_placeOn : Nat → Int32) (R : Int32 × Int32 × (Nat → Int32)) (h : r_X10_seek x1 x2 x3 x4 wishes_size wishes_best wishes_bestRow wishes_closed wishes_closers wishes_placeOn = some R), Met l yX10_seek z_X10_seek ({ frames := fr, cells := 0, slots := 0, locals := lo } : Room) (va_Pc [.ref (ad 28), .int x1, .int x2, .int x3, .int x4] (zPre D cs (wl_X10_seek ad cs wishes_size wishes_best wishes_bestRow wishes_closed wishes_closers wishes_placeOn) sz)) (Q_X10_seek D cs ad wishes_size wishes_closed wishes_closers (va_A (wl_X10_seek ad cs wishes_size wishes_best wishes_bestRow wishes_closed wishes_closers wishes_placeOn) sz) R) 0 0 (va_A (wl_X10_seek ad cs wishes_size wishes_best wishes_bestRow wishes_closed wishes_closers wishes_placeOn) sz)) (ih45 : ∀ (x1 : Int32) (x2 : Int32) (x3 : Int32) (x4 : Int32) (x5 : Int32) (wishes_best : Int32) (wishes_bestRow : Int32) (wishes_placeOn : Nat → Int32) (h : g45 x1 x2 x3 x4 x5 wishes_best wishes_bestRow wishes_placeOn = some R) (H : Heap) (locs : List Loc) (ls : Array Slot) (hP : va_P D classes (wl_X10_seek ad cs wishes_size wishes_best wishes_bestRow wishes_closed wishes_closers wishes_placeOn) H) (hD : va_D A (wl_X10_seek ad cs wishes_size wishes_best wishes_bestRow wishes_closed wishes_closers wishes_placeOn)) (hS : va_S A s.heap H locs) (hl : lv_has ls 7 [(0, .ref (ad 28)), (1, .int x1), (2, .int x2), (3, .int x3), (4, .int x4), (5, .int x5)]), W p l e ({ frames := fr + 2, cells := 0, slots := 0, locals := lo + 47 } : Room) s m args below meth c H locs 0 0 (MQ below (Q_X10_seek D cs ad wishes_size wishes_closed wishes_closers A R) args s 0 0 A) (F0 m 45 ls [])) (x1 : Int32) (x2 : Int32) (x3 : Int32) (x4 : Int32) (x5 : Int32) (wishes_best : Int32) (wishes_bestRow : Int32) (wishes_placeOn : Nat → Int32) (h : B_X10_seek_118 r_X10_seek g45 wishes_size wishes_closed wishes_closers x1 x2 x3 x4 x5 wishes_best wishes_bestRow wishes_placeOn = some R) (H : Heap) (locs : List Loc) (ls : Array Slot) (hP : va_P D classes (wl_X10_seek ad cs wishes_size wishes_best wishes_bestRow wishes_closed wishes_closers wishes_placeOn) H) (hD : va_D A (wl_X10_seek ad cs wishes_size wishes_best wishes_bestRow wishes_closed wishes_closers wishes_placeOn)) (hS : va_S A s.heap H locs) (hl : lv_has ls 7 [(0, .ref (ad 28)), (1, .int x1), (2, .int x2), (3, .int x3), (4, .int x4), (5, .int x5)]) : W p l e ({ frames := fr + 2, cells := 0, slots := 0, locals := lo + 47 } : Room) s m args below meth c H locs 0 0 (MQ below (Q_X10_seek D cs ad wishes_size wishes_closed wishes_closers A R) args s 0 0 A) (F0 m 118 ls []) := by
  obtain ⟨hx, hb, hr, hml, hown, ht, hlocks⟩ := id C0
  obtain ⟨v_21, ev_21, h⟩ := zk_lt h
  refine lv_iinc (v := v_21) (lv' := [(5, .int v_21), (0, .ref (ad 28)), (1, .int x1), (2, .int x2), (3, .int x3), (4, .int x4)]) hx hb dX10_seek_118 hl (k := 5) rfl (by rw [ev_21]; rfl) (by decide) rfl (fun ls hl => ?_)
  refine lv_goto (tgt := 45) hx hb dX10_seek_121 (by decide) ?_
  exact ih45 x1 x2 x3 x4 v_21 wishes_best wishes_bestRow wishes_placeOn h H locs ls hP hD hS (lv_sub hl [1, 2, 3, 4, 5, 0] rfl)
set_option maxHeartbeats 4000000 in
set_option maxRecDepth 100000 in
theorem L_X10_seek_89 {p : Program} {l : Launch} {e : Env} {s : State} {m : MethodId} {args : Array Value} {below : List Frame} {meth : Method} {c : Code} {A : Nat → Prop} {D : va_G} {cs : Nat → ClassId} {ad : Nat → Nat} {wishes_size : Int32} {wishes_closed : Nat → Int32} {wishes_closers : Nat → Int32} {R : Int32 × Int32 × (Nat → Int32)} {g45 : Int32 → Int32 → Int32 → Int32 → Int32 → Int32 → Int32 → (Nat → Int32) → (Option (Int32 × Int32 × (Nat → Int32)))} (C0 : zC p s m args meth c cX10_seek 7 none RX10 zW) (hK : va_K D classes (zT cs) s) (hA : ∀ q : Nat, s.heap.size ≤ q → A q) {fr lo : Nat} {r_X10_seek : Int32 → Int32 → Int32 → Int32 → Int32 → Int32 → Int32 → (Nat → Int32) → (Nat → Int32) → (Nat → Int32) → (Option (Int32 × Int32 × (Nat → Int32)))} (hr_X10_seek : ∀ (D : va_G) (cs : Nat → ClassId) (ad : Nat → Nat) (sz : Nat) (x1 : Int32) (x2 : Int32) (x3 : Int32) (x4 : Int32) (wishes_size : Int32) (wishes_best : Int32) (wishes_bestRow : Int32) (wishes_closed : Nat → Int32) (wishes_closers : Nat → Int32) (wishes_placeOn : Nat → Int32) (R : Int32 × Int32 × (Nat → Int32)) (h : r_X10_seek x1 x2 x3 x4 wishes_size wishes_best wishes_bestRow wishes_closed wishes_closers wishes_placeOn = some R), Met l yX10_seek z_X10_seek ({ frames := fr, cells := 0, slots := 0, locals := lo } : Room) (va_Pc [.ref (ad 28), .int x1, .int x2, .int x3, .int x4] (zPre D cs (wl_X10_seek ad cs wishes_size wishes_best wishes_bestRow wishes_closed wishes_closers wishes_placeOn) sz)) (Q_X10_seek D cs ad wishes_size wishes_closed wishes_closers (va_A (wl_X10_seek ad cs wishes_size wishes_best wishes_bestRow wishes_closed wishes_closers wishes_placeOn) sz) R) 0 0 (va_A (wl_X10_seek ad cs wishes_size wishes_best wishes_bestRow wishes_closed wishes_closers wishes_placeOn) sz)) (ih45 : ∀ (x1 : Int32) (x2 : Int32) (x3 : Int32) (x4 : Int32) (x5 : Int32) (wishes_best : Int32) (wishes_bestRow : Int32) (wishes_placeOn : Nat → Int32) (h : g45 x1 x2 x3 x4 x5 wishes_best wishes_bestRow wishes_placeOn = some R) (H : Heap) (locs : List Loc) (ls : Array Slot) (hP : va_P D classes (wl_X10_seek ad cs wishes_size wishes_best wishes_bestRow wishes_closed wishes_closers wishes_placeOn) H) (hD : va_D A (wl_X10_seek ad cs wishes_size wishes_best wishes_bestRow wishes_closed wishes_closers wishes_placeOn)) (hS : va_S A s.heap H locs) (hl : lv_has ls 7 [(0, .ref (ad 28)), (1, .int x1), (2, .int x2), (3, .int x3), (4, .int x4), (5, .int x5)]), W p l e ({ frames := fr + 2, cells := 0, slots := 0, locals := lo + 47 } : Room) s m args below meth c H locs 0 0 (MQ below (Q_X10_seek D cs ad wishes_size wishes_closed wishes_closers A R) args s 0 0 A) (F0 m 45 ls [])) (x1 : Int32) (x2 : Int32) (x3 : Int32) (x4 : Int32) (x5 : Int32) (s0 : Int32) (wishes_best : Int32) (wishes_bestRow : Int32) (wishes_placeOn : Nat → Int32) (h : B_X10_seek_89 r_X10_seek g45 wishes_size wishes_closed wishes_closers x1 x2 x3 x4 x5 s0 wishes_best wishes_bestRow wishes_placeOn = some R) (H : Heap) (locs : List Loc) (ls : Array Slot) (hP : va_P D classes (wl_X10_seek ad cs wishes_size wishes_best wishes_bestRow wishes_closed wishes_closers wishes_placeOn) H) (hD : va_D A (wl_X10_seek ad cs wishes_size wishes_best wishes_bestRow wishes_closed wishes_closers wishes_placeOn)) (hS : va_S A s.heap H locs) (hl : lv_has ls 7 [(0, .ref (ad 28)), (1, .int x1), (2, .int x2), (3, .int x3), (4, .int x4), (5, .int x5)]) : W p l e ({ frames := fr + 2, cells := 0, slots := 0, locals := lo + 47 } : Room) s m args below meth c H locs 0 0 (MQ below (Q_X10_seek D cs ad wishes_size wishes_closed wishes_closers A R) args s 0 0 A) (F0 m 89 ls [.int s0]) := by
  obtain ⟨hx, hb, hr, hml, hown, ht, hlocks⟩ := id C0
  refine lv_istore (lv' := [(6, .int s0), (0, .ref (ad 28)), (1, .int x1), (2, .int x2), (3, .int x3), (4, .int x4), (5, .int x5)]) hx hb dX10_seek_89 hl (by decide) rfl (fun ls hl => ?_)
  refine lv_aload_n hx hb dX10_seek_91 rfl (lv_at hl 1 rfl) ?_
  refine lv_iload_n hx hb dX10_seek_92 rfl (lv_at hl 2 rfl) ?_
  refine lv_iconst (v := (1 : Int32)) hx hb dX10_seek_93 (by decide) ?_
  refine lv_iadd hx hb dX10_seek_94 ?_
  refine lv_iload_n hx hb dX10_seek_95 rfl (lv_at hl 3 rfl) ?_
  refine lv_iconst (v := (1 : Int32)) hx hb dX10_seek_96 (by decide) ?_
  refine lv_iload hx hb dX10_seek_97 (lv_at hl 6 rfl) ?_
  refine lv_ishl hx hb dX10_seek_99 ?_
  refine lv_ior hx hb dX10_seek_100 ?_
  refine lv_iload_n hx hb dX10_seek_101 rfl (lv_at hl 4 rfl) ?_
  refine lv_iload hx hb dX10_seek_102 (lv_at hl 0 rfl) ?_
  refine lv_ior hx hb dX10_seek_104 ?_
  refine lv_iload hx hb dX10_seek_105 (lv_at hl 5 rfl) ?_
  refine lv_bipush (v := (10 : Int32)) hx hb dX10_seek_107 (by decide) ?_
  refine lv_imul hx hb dX10_seek_109 ?_
  refine lv_iload hx hb dX10_seek_110 (lv_at hl 6 rfl) ?_
  refine lv_iadd hx hb dX10_seek_112 ?_
  refine lv_iconst (v := (1 : Int32)) hx hb dX10_seek_113 (by decide) ?_
  refine lv_iadd hx hb dX10_seek_114 ?_
  obtain ⟨u_17, u_18, u_19, hc_20, h⟩ := zk_o3 h
  refine zz_vv (post := (fun u => u = (u_17, u_18, u_19))) (w1 := fun u => (wl_X10_seek ad cs wishes_size u.1 u.2.1 wishes_closed wishes_closers u.2.2)) (As := [.int (x1 + (1 : Int32)), .int (x2 ||| ((1 : Int32) <<< (x5 &&& 31))), .int (x3 ||| s0), .int (((x4 * (10 : Int32)) + x5) + (1 : Int32))]) (rest := []) (hr_X10_seek D cs ad  H.size (x1 + (1 : Int32)) (x2 ||| ((1 : Int32) <<< (x5 &&& 31))) (x3 ||| s0) (((x4 * (10 : Int32)) + x5) + (1 : Int32)) wishes_size wishes_best wishes_bestRow wishes_closed wishes_closers wishes_placeOn (u_17, u_18, u_19) hc_20) ⟨hx, hb, hml, hown, ht⟩ (cwV 4 ht g_X10_116 rfl rfl rfl ⟨rfl, hd_X10_seek⟩ ⟨(by show fr + 1 ≤ fr + 2; omega), (by show 8 + (7 + 11) + lo ≤ lo + 47; omega)⟩) (va_recv hK hP (ci := 10) (q0 := 0) rfl rfl) hP hD hS hK hA [0, 1, 2, 3] rfl rfl [(ad 28), (ad 31), (ad 32), (ad 33)] rfl (fun _ => rfl) rfl hl.1 (Nat.le_of_ble_eq_true rfl) dX10_seek_115 ⟨Nat.zero_le _, Nat.zero_le _⟩ (fun u H locs hq hP hS => ?_)
  cases hq
  have hP : va_P D classes (wl_X10_seek ad cs wishes_size u_17 u_18 wishes_closed wishes_closers u_19) H := hP
  have hD : va_D A (wl_X10_seek ad cs wishes_size u_17 u_18 wishes_closed wishes_closers u_19) := zDk hD [(ad 28), (ad 31), (ad 32), (ad 33)] rfl rfl
  exact L_X10_seek_118 C0 hK hA hr_X10_seek ih45 x1 x2 x3 x4 x5 u_17 u_18 u_19 h H locs ls hP hD hS (lv_sub hl [1, 2, 3, 4, 5, 6] rfl)
set_option maxHeartbeats 4000000 in
set_option maxRecDepth 100000 in
theorem L_X10_seek_45 {p : Program} {l : Launch} {e : Env} {s : State} {m : MethodId} {args : Array Value} {below : List Frame} {meth : Method} {c : Code} {A : Nat → Prop} {D : va_G} {cs : Nat → ClassId} {ad : Nat → Nat} {wishes_size : Int32} {wishes_closed : Nat → Int32} {wishes_closers : Nat → Int32} {R : Int32 × Int32 × (Nat → Int32)} {g45 : Int32 → Int32 → Int32 → Int32 → Int32 → Int32 → Int32 → (Nat → Int32) → (Option (Int32 × Int32 × (Nat → Int32)))} (C0 : zC p s m args meth c cX10_seek 7 none RX10 zW) (hK : va_K D classes (zT cs) s) (hA : ∀ q : Nat, s.heap.size ≤ q → A q) {fr lo : Nat} {r_X10_seek : Int32 → Int32 → Int32 → Int32 → Int32 → Int32 → Int32 → (Nat → Int32) → (Nat → Int32) → (Nat → Int32) → (Option (Int32 × Int32 × (Nat → Int32)))} (hr_X10_seek : ∀ (D : va_G) (cs : Nat → ClassId) (ad : Nat → Nat) (sz : Nat) (x1 : Int32) (x2 : Int32) (x3 : Int32) (x4 : Int32) (wishes_size : Int32) (wishes_best : Int32) (wishes_bestRow : Int32) (wishes_closed : Nat → Int32) (wishes_closers : Nat → Int32) (wishes_placeOn : Nat → Int32) (R : Int32 × Int32 × (Nat → Int32)) (h : r_X10_seek x1 x2 x3 x4 wishes_size wishes_best wishes_bestRow wishes_closed wishes_closers wishes_placeOn = some R), Met l yX10_seek z_X10_seek ({ frames := fr, cells := 0, slots := 0, locals := lo } : Room) (va_Pc [.ref (ad 28), .int x1, .int x2, .int x3, .int x4] (zPre D cs (wl_X10_seek ad cs wishes_size wishes_best wishes_bestRow wishes_closed wishes_closers wishes_placeOn) sz)) (Q_X10_seek D cs ad wishes_size wishes_closed wishes_closers (va_A (wl_X10_seek ad cs wishes_size wishes_best wishes_bestRow wishes_closed wishes_closers wishes_placeOn) sz) R) 0 0 (va_A (wl_X10_seek ad cs wishes_size wishes_best wishes_bestRow wishes_closed wishes_closers wishes_placeOn) sz)) (ih45 : ∀ (x1 : Int32) (x2 : Int32) (x3 : Int32) (x4 : Int32) (x5 : Int32) (wishes_best : Int32) (wishes_bestRow : Int32) (wishes_placeOn : Nat → Int32) (h : g45 x1 x2 x3 x4 x5 wishes_best wishes_bestRow wishes_placeOn = some R) (H : Heap) (locs : List Loc) (ls : Array Slot) (hP : va_P D classes (wl_X10_seek ad cs wishes_size wishes_best wishes_bestRow wishes_closed wishes_closers wishes_placeOn) H) (hD : va_D A (wl_X10_seek ad cs wishes_size wishes_best wishes_bestRow wishes_closed wishes_closers wishes_placeOn)) (hS : va_S A s.heap H locs) (hl : lv_has ls 7 [(0, .ref (ad 28)), (1, .int x1), (2, .int x2), (3, .int x3), (4, .int x4), (5, .int x5)]), W p l e ({ frames := fr + 2, cells := 0, slots := 0, locals := lo + 47 } : Room) s m args below meth c H locs 0 0 (MQ below (Q_X10_seek D cs ad wishes_size wishes_closed wishes_closers A R) args s 0 0 A) (F0 m 45 ls [])) (x1 : Int32) (x2 : Int32) (x3 : Int32) (x4 : Int32) (x5 : Int32) (wishes_best : Int32) (wishes_bestRow : Int32) (wishes_placeOn : Nat → Int32) (h : B_X10_seek_45 r_X10_seek g45 wishes_size wishes_closed wishes_closers x1 x2 x3 x4 x5 wishes_best wishes_bestRow wishes_placeOn = some R) (H : Heap) (locs : List Loc) (ls : Array Slot) (hP : va_P D classes (wl_X10_seek ad cs wishes_size wishes_best wishes_bestRow wishes_closed wishes_closers wishes_placeOn) H) (hD : va_D A (wl_X10_seek ad cs wishes_size wishes_best wishes_bestRow wishes_closed wishes_closers wishes_placeOn)) (hS : va_S A s.heap H locs) (hl : lv_has ls 7 [(0, .ref (ad 28)), (1, .int x1), (2, .int x2), (3, .int x3), (4, .int x4), (5, .int x5)]) : W p l e ({ frames := fr + 2, cells := 0, slots := 0, locals := lo + 47 } : Room) s m args below meth c H locs 0 0 (MQ below (Q_X10_seek D cs ad wishes_size wishes_closed wishes_closers A R) args s 0 0 A) (F0 m 45 ls []) := by
  obtain ⟨hx, hb, hr, hml, hown, ht, hlocks⟩ := id C0
  refine lv_iload hx hb dX10_seek_45 (lv_at hl 5 rfl) ?_
  refine lv_aload_n hx hb dX10_seek_47 rfl (lv_at hl 0 rfl) ?_
  refine va_get (D := D) (ci := 10) (v := .int wishes_size) (C := RX10) (T := TX10) (N := 9) hx hb ht iX10 hown hK hP 0 rfl rfl 2 (by decide) (ht _ kw_389) (fun _ h9 => h9) rfl dX10_seek_48 ?_
  refine lv_icmp_ge (tgt := 124) hx hb dX10_seek_51 (by decide) (fun c_9 => ?_) (fun c_9 => ?_)
  · have h := zk_t c_9 h
    exact W.vret hx hb hr (fun t ht2 hW => ⟨⟨(wishes_best, wishes_bestRow, wishes_placeOn), rfl, Option.some.inj h, by rw [ht2]; exact hP, hD⟩, hS.F ht2⟩) hS.2.2 dX10_seek_124 hlocks
  · have h := zk_f c_9 h
    refine lv_iload_n hx hb dX10_seek_54 rfl (lv_at hl 2 rfl) ?_
    refine lv_iload hx hb dX10_seek_55 (lv_at hl 5 rfl) ?_
    refine lv_ishr hx hb dX10_seek_57 ?_
    refine lv_iconst (v := (1 : Int32)) hx hb dX10_seek_58 (by decide) ?_
    refine lv_iand hx hb dX10_seek_59 ?_
    refine lv_if_ne (tgt := 118) hx hb dX10_seek_60 (by decide) (fun c_10 => ?_) (fun c_10 => ?_)
    · have h := zk_f c_10 h
      exact L_X10_seek_118 C0 hK hA hr_X10_seek ih45 x1 x2 x3 x4 x5 wishes_best wishes_bestRow wishes_placeOn h H locs ls hP hD hS (lv_sub hl [0, 1, 2, 3, 4, 5] rfl)
    · have h := zk_t c_10 h
      refine lv_aload_n hx hb dX10_seek_63 rfl (lv_at hl 0 rfl) ?_
      refine va_get (D := D) (ci := 10) (v := .ref (ad 33)) (C := RX10) (T := TX10) (N := 9) hx hb ht iX10 hown hK hP 0 rfl rfl 5 (by decide) (ht _ kw_393) (fun _ h9 => h9) rfl dX10_seek_64 ?_
      refine lv_iload_n hx hb dX10_seek_67 rfl (lv_at hl 1 rfl) ?_
      refine lv_iload hx hb dX10_seek_68 (lv_at hl 5 rfl) ?_
      obtain ⟨g_11, h⟩ := zk_gd h
      obtain ⟨f_12, ef_12, h⟩ := zk_lt h
      refine va_iast hx hb hK hP hD hS 3 0 rfl rfl g_11 dX10_seek_70 (fun H locs hP hD hS => ?_)
      have hP : va_P D classes (wl_X10_seek ad cs wishes_size wishes_best wishes_bestRow wishes_closed wishes_closers f_12) H := by rw [ef_12]; exact hP
      have hD : va_D A (wl_X10_seek ad cs wishes_size wishes_best wishes_bestRow wishes_closed wishes_closers f_12) := by rw [ef_12]; exact hD
      refine lv_aload_n hx hb dX10_seek_71 rfl (lv_at hl 0 rfl) ?_
      refine lv_iload hx hb dX10_seek_72 (lv_at hl 5 rfl) ?_
      refine lv_iload_n hx hb dX10_seek_74 rfl (lv_at hl 1 rfl) ?_
      refine lv_iload_n hx hb dX10_seek_75 rfl (lv_at hl 3 rfl) ?_
      obtain ⟨r_13, u_14, hc_15, h⟩ := zk_o2 h
      refine zz_vi (post := (fun r u => (r, u) = (r_13, u_14))) (w1 := fun u => (wl_X10_mayAsk ad cs wishes_size wishes_best wishes_bestRow wishes_closed wishes_closers f_12)) (As := [.int x5, .int x1, .int x3]) (rest := []) (c_X10_mayAsk l D cs ad  H.size 100000 x5 x1 x3 wishes_size wishes_best wishes_bestRow wishes_closed wishes_closers f_12 (r_13, u_14) hc_15) ⟨hx, hb, hml, hown, ht⟩ (cwV 3 ht g_X10_112 rfl rfl rfl ⟨rfl, hd_X10_mayAsk⟩ ⟨(by show 1 + 1 ≤ fr + 2; omega), (by show 8 + (6 + 11) + 22 ≤ lo + 47; omega)⟩) (va_recv hK hP (ci := 10) (q0 := 0) rfl rfl) hP hD hS hK hA [0, 1, 2, 3] rfl rfl [(ad 28), (ad 31), (ad 32), (ad 33)] rfl (fun _ => rfl) rfl hl.1 (Nat.le_of_ble_eq_true rfl) dX10_seek_76 ⟨Nat.zero_le _, Nat.zero_le _⟩ (fun r u H locs hq hP hS => ?_)
      cases hq
      have hP : va_P D classes (wl_X10_seek ad cs wishes_size wishes_best wishes_bestRow wishes_closed wishes_closers f_12) H := hP
      have hD : va_D A (wl_X10_seek ad cs wishes_size wishes_best wishes_bestRow wishes_closed wishes_closers f_12) := zDk hD [(ad 28), (ad 31), (ad 32), (ad 33)] rfl rfl
      refine lv_if_eq (tgt := 88) hx hb dX10_seek_79 (by decide) (fun c_16 => ?_) (fun c_16 => ?_)
      · have h := zk_t c_16 h
        refine lv_iconst (v := (0 : Int32)) hx hb dX10_seek_88 (by decide) ?_
        exact L_X10_seek_89 C0 hK hA hr_X10_seek ih45 x1 x2 x3 x4 x5 (0 : Int32) wishes_best wishes_bestRow f_12 h H locs ls hP hD hS (lv_sub hl [0, 1, 2, 3, 4, 5] rfl)
      · have h := zk_f c_16 h
        refine lv_iconst (v := (1 : Int32)) hx hb dX10_seek_82 (by decide) ?_
        refine lv_iload_n hx hb dX10_seek_83 rfl (lv_at hl 1 rfl) ?_
        refine lv_ishl hx hb dX10_seek_84 ?_
        refine lv_goto (tgt := 89) hx hb dX10_seek_85 (by decide) ?_
        exact L_X10_seek_89 C0 hK hA hr_X10_seek ih45 x1 x2 x3 x4 x5 ((1 : Int32) <<< (x1 &&& 31)) wishes_best wishes_bestRow f_12 h H locs ls hP hD hS (lv_sub hl [0, 1, 2, 3, 4, 5] rfl)
set_option maxHeartbeats 4000000 in
set_option maxRecDepth 100000 in
theorem L_X10_seek_0 {p : Program} {l : Launch} {e : Env} {s : State} {m : MethodId} {args : Array Value} {below : List Frame} {meth : Method} {c : Code} {A : Nat → Prop} {D : va_G} {cs : Nat → ClassId} {ad : Nat → Nat} {wishes_size : Int32} {wishes_closed : Nat → Int32} {wishes_closers : Nat → Int32} {R : Int32 × Int32 × (Nat → Int32)} {g45 : Int32 → Int32 → Int32 → Int32 → Int32 → Int32 → Int32 → (Nat → Int32) → (Option (Int32 × Int32 × (Nat → Int32)))} (C0 : zC p s m args meth c cX10_seek 7 none RX10 zW) (hK : va_K D classes (zT cs) s) (hA : ∀ q : Nat, s.heap.size ≤ q → A q) {fr lo : Nat} {r_X10_seek : Int32 → Int32 → Int32 → Int32 → Int32 → Int32 → Int32 → (Nat → Int32) → (Nat → Int32) → (Nat → Int32) → (Option (Int32 × Int32 × (Nat → Int32)))} (hr_X10_seek : ∀ (D : va_G) (cs : Nat → ClassId) (ad : Nat → Nat) (sz : Nat) (x1 : Int32) (x2 : Int32) (x3 : Int32) (x4 : Int32) (wishes_size : Int32) (wishes_best : Int32) (wishes_bestRow : Int32) (wishes_closed : Nat → Int32) (wishes_closers : Nat → Int32) (wishes_placeOn : Nat → Int32) (R : Int32 × Int32 × (Nat → Int32)) (h : r_X10_seek x1 x2 x3 x4 wishes_size wishes_best wishes_bestRow wishes_closed wishes_closers wishes_placeOn = some R), Met l yX10_seek z_X10_seek ({ frames := fr, cells := 0, slots := 0, locals := lo } : Room) (va_Pc [.ref (ad 28), .int x1, .int x2, .int x3, .int x4] (zPre D cs (wl_X10_seek ad cs wishes_size wishes_best wishes_bestRow wishes_closed wishes_closers wishes_placeOn) sz)) (Q_X10_seek D cs ad wishes_size wishes_closed wishes_closers (va_A (wl_X10_seek ad cs wishes_size wishes_best wishes_bestRow wishes_closed wishes_closers wishes_placeOn) sz) R) 0 0 (va_A (wl_X10_seek ad cs wishes_size wishes_best wishes_bestRow wishes_closed wishes_closers wishes_placeOn) sz)) (ih45 : ∀ (x1 : Int32) (x2 : Int32) (x3 : Int32) (x4 : Int32) (x5 : Int32) (wishes_best : Int32) (wishes_bestRow : Int32) (wishes_placeOn : Nat → Int32) (h : g45 x1 x2 x3 x4 x5 wishes_best wishes_bestRow wishes_placeOn = some R) (H : Heap) (locs : List Loc) (ls : Array Slot) (hP : va_P D classes (wl_X10_seek ad cs wishes_size wishes_best wishes_bestRow wishes_closed wishes_closers wishes_placeOn) H) (hD : va_D A (wl_X10_seek ad cs wishes_size wishes_best wishes_bestRow wishes_closed wishes_closers wishes_placeOn)) (hS : va_S A s.heap H locs) (hl : lv_has ls 7 [(0, .ref (ad 28)), (1, .int x1), (2, .int x2), (3, .int x3), (4, .int x4), (5, .int x5)]), W p l e ({ frames := fr + 2, cells := 0, slots := 0, locals := lo + 47 } : Room) s m args below meth c H locs 0 0 (MQ below (Q_X10_seek D cs ad wishes_size wishes_closed wishes_closers A R) args s 0 0 A) (F0 m 45 ls [])) (x1 : Int32) (x2 : Int32) (x3 : Int32) (x4 : Int32) (wishes_best : Int32) (wishes_bestRow : Int32) (wishes_placeOn : Nat → Int32) (h : B_X10_seek_0 r_X10_seek g45 wishes_size wishes_closed wishes_closers x1 x2 x3 x4 wishes_best wishes_bestRow wishes_placeOn = some R) (H : Heap) (locs : List Loc) (ls : Array Slot) (hP : va_P D classes (wl_X10_seek ad cs wishes_size wishes_best wishes_bestRow wishes_closed wishes_closers wishes_placeOn) H) (hD : va_D A (wl_X10_seek ad cs wishes_size wishes_best wishes_bestRow wishes_closed wishes_closers wishes_placeOn)) (hS : va_S A s.heap H locs) (hl : lv_has ls 7 [(0, .ref (ad 28)), (1, .int x1), (2, .int x2), (3, .int x3), (4, .int x4)]) : W p l e ({ frames := fr + 2, cells := 0, slots := 0, locals := lo + 47 } : Room) s m args below meth c H locs 0 0 (MQ below (Q_X10_seek D cs ad wishes_size wishes_closed wishes_closers A R) args s 0 0 A) (F0 m 0 ls []) := by
  obtain ⟨hx, hb, hr, hml, hown, ht, hlocks⟩ := id C0
  refine lv_iload_n hx hb dX10_seek_0 rfl (lv_at hl 3 rfl) ?_
  obtain ⟨r_1, u_2, hc_3, h⟩ := zk_o2 h
  refine zz_si (post := (fun r u => (r, u) = (r_1, u_2))) (w1 := fun u => (wl_J6_bitCount_0f7a4 ad cs )) (As := [.int x3]) (rest := []) (c_J6_bitCount_0f7a4 l D cs ad  H.size x3 (r_1, u_2) hc_3) ⟨hx, hb, hml, hown, ht⟩ (va_cwS 1 ht g_X10_106 rfl rfl rfl hd_J6_bitCount_0f7a4 ⟨(by show 0 + 1 ≤ fr + 2; omega), (by show 8 + (1 + 11) + 0 ≤ lo + 47; omega)⟩) hP hD hS hK hA [] rfl rfl [] rfl (fun _ => rfl) rfl hl.1 (Nat.le_of_ble_eq_true rfl) dX10_seek_1 ⟨Nat.zero_le _, Nat.zero_le _⟩ (fun r u H locs hq hP hS => ?_)
  cases hq
  have hP : va_P D classes (wl_X10_seek ad cs wishes_size wishes_best wishes_bestRow wishes_closed wishes_closers wishes_placeOn) H := hP
  refine lv_aload_n hx hb dX10_seek_4 rfl (lv_at hl 0 rfl) ?_
  refine va_get (D := D) (ci := 10) (v := .int wishes_size) (C := RX10) (T := TX10) (N := 9) hx hb ht iX10 hown hK hP 0 rfl rfl 2 (by decide) (ht _ kw_389) (fun _ h9 => h9) rfl dX10_seek_5 ?_
  refine lv_iadd hx hb dX10_seek_8 ?_
  refine lv_iload_n hx hb dX10_seek_9 rfl (lv_at hl 1 rfl) ?_
  refine lv_isub hx hb dX10_seek_10 ?_
  refine lv_aload_n hx hb dX10_seek_11 rfl (lv_at hl 0 rfl) ?_
  refine va_get (D := D) (ci := 10) (v := .int wishes_best) (C := RX10) (T := TX10) (N := 9) hx hb ht iX10 hown hK hP 0 rfl rfl 7 (by decide) (ht _ kw_395) (fun _ h9 => h9) rfl dX10_seek_12 ?_
  refine lv_icmp_gt (tgt := 19) hx hb dX10_seek_15 (by decide) (fun c_4 => ?_) (fun c_4 => ?_)
  · have h := zk_t c_4 h
    refine lv_iload_n hx hb dX10_seek_19 rfl (lv_at hl 1 rfl) ?_
    refine lv_aload_n hx hb dX10_seek_20 rfl (lv_at hl 0 rfl) ?_
    refine va_get (D := D) (ci := 10) (v := .int wishes_size) (C := RX10) (T := TX10) (N := 9) hx hb ht iX10 hown hK hP 0 rfl rfl 2 (by decide) (ht _ kw_389) (fun _ h9 => h9) rfl dX10_seek_21 ?_
    refine lv_icmp_lt (tgt := 42) hx hb dX10_seek_24 (by decide) (fun c_5 => ?_) (fun c_5 => ?_)
    · have h := zk_t c_5 h
      refine lv_iconst (v := (0 : Int32)) hx hb dX10_seek_42 (by decide) ?_
      refine lv_istore (lv' := [(5, .int (0 : Int32)), (0, .ref (ad 28)), (1, .int x1), (2, .int x2), (3, .int x3), (4, .int x4)]) hx hb dX10_seek_43 hl (by decide) rfl (fun ls hl => ?_)
      exact ih45 x1 x2 x3 x4 (0 : Int32) wishes_best wishes_bestRow wishes_placeOn h H locs ls hP hD hS (lv_sub hl [1, 2, 3, 4, 5, 0] rfl)
    · have h := zk_f c_5 h
      refine lv_aload_n hx hb dX10_seek_27 rfl (lv_at hl 0 rfl) ?_
      refine lv_iload_n hx hb dX10_seek_28 rfl (lv_at hl 3 rfl) ?_
      obtain ⟨r_6, u_7, hc_8, h⟩ := zk_o2 h
      refine zz_si (post := (fun r u => (r, u) = (r_6, u_7))) (w1 := fun u => (wl_J6_bitCount_0f7a4 ad cs )) (As := [.int x3]) (rest := [.ref (ad 28)]) (c_J6_bitCount_0f7a4 l D cs ad  H.size x3 (r_6, u_7) hc_8) ⟨hx, hb, hml, hown, ht⟩ (va_cwS 1 ht g_X10_106 rfl rfl rfl hd_J6_bitCount_0f7a4 ⟨(by show 0 + 1 ≤ fr + 2; omega), (by show 8 + (1 + 11) + 0 ≤ lo + 47; omega)⟩) hP hD hS hK hA [] rfl rfl [] rfl (fun _ => rfl) rfl hl.1 (Nat.le_of_ble_eq_true rfl) dX10_seek_29 ⟨Nat.zero_le _, Nat.zero_le _⟩ (fun r u H locs hq hP hS => ?_)
      cases hq
      have hP : va_P D classes (wl_X10_seek ad cs wishes_size wishes_best wishes_bestRow wishes_closed wishes_closers wishes_placeOn) H := hP
      refine va_put (D := D) (ci := 10) (v := .int r_6) (ty := .int) (C := RX10) (T := TX10) (N := 9) hx hb ht iX10 tyX10 tyX10_ok nmX10 hown hK hP hD hS 0 rfl rfl 7 (by decide) (ht _ kw_395) (fun _ h9 => h9) rfl (by decide +kernel) rfl rfl (Nat.le_of_ble_eq_true rfl) dX10_seek_32 (fun H locs hP hD hS => ?_)
      have hP : va_P D classes (wl_X10_seek ad cs wishes_size r_6 wishes_bestRow wishes_closed wishes_closers wishes_placeOn) H := hP
      have hD : va_D A (wl_X10_seek ad cs wishes_size r_6 wishes_bestRow wishes_closed wishes_closers wishes_placeOn) := hD
      refine lv_aload_n hx hb dX10_seek_35 rfl (lv_at hl 0 rfl) ?_
      refine lv_iload hx hb dX10_seek_36 (lv_at hl 4 rfl) ?_
      refine va_put (D := D) (ci := 10) (v := .int x4) (ty := .int) (C := RX10) (T := TX10) (N := 9) hx hb ht iX10 tyX10 tyX10_ok nmX10 hown hK hP hD hS 0 rfl rfl 8 (by decide) (ht _ kw_397) (fun _ h9 => h9) rfl (by decide +kernel) rfl rfl (Nat.le_of_ble_eq_true rfl) dX10_seek_38 (fun H locs hP hD hS => ?_)
      have hP : va_P D classes (wl_X10_seek ad cs wishes_size r_6 x4 wishes_closed wishes_closers wishes_placeOn) H := hP
      have hD : va_D A (wl_X10_seek ad cs wishes_size r_6 x4 wishes_closed wishes_closers wishes_placeOn) := hD
      exact W.vret hx hb hr (fun t ht2 hW => ⟨⟨(r_6, x4, wishes_placeOn), rfl, Option.some.inj h, by rw [ht2]; exact hP, hD⟩, hS.F ht2⟩) hS.2.2 dX10_seek_41 hlocks
  · have h := zk_f c_4 h
    exact W.vret hx hb hr (fun t ht2 hW => ⟨⟨(wishes_best, wishes_bestRow, wishes_placeOn), rfl, Option.some.inj h, by rw [ht2]; exact hP, hD⟩, hS.F ht2⟩) hS.2.2 dX10_seek_18 hlocks
theorem LG_X10_seek {p : Program} {l : Launch} {e : Env} {s : State} {m : MethodId} {args : Array Value} {below : List Frame} {meth : Method} {c : Code} {A : Nat → Prop} {D : va_G} {cs : Nat → ClassId} {ad : Nat → Nat} {wishes_size : Int32} {wishes_closed : Nat → Int32} {wishes_closers : Nat → Int32} {R : Int32 × Int32 × (Nat → Int32)} (C0 : zC p s m args meth c cX10_seek 7 none RX10 zW) (hK : va_K D classes (zT cs) s) (hA : ∀ q : Nat, s.heap.size ≤ q → A q) {fr lo : Nat} {r_X10_seek : Int32 → Int32 → Int32 → Int32 → Int32 → Int32 → Int32 → (Nat → Int32) → (Nat → Int32) → (Nat → Int32) → (Option (Int32 × Int32 × (Nat → Int32)))} (hr_X10_seek : ∀ (D : va_G) (cs : Nat → ClassId) (ad : Nat → Nat) (sz : Nat) (x1 : Int32) (x2 : Int32) (x3 : Int32) (x4 : Int32) (wishes_size : Int32) (wishes_best : Int32) (wishes_bestRow : Int32) (wishes_closed : Nat → Int32) (wishes_closers : Nat → Int32) (wishes_placeOn : Nat → Int32) (R : Int32 × Int32 × (Nat → Int32)) (h : r_X10_seek x1 x2 x3 x4 wishes_size wishes_best wishes_bestRow wishes_closed wishes_closers wishes_placeOn = some R), Met l yX10_seek z_X10_seek ({ frames := fr, cells := 0, slots := 0, locals := lo } : Room) (va_Pc [.ref (ad 28), .int x1, .int x2, .int x3, .int x4] (zPre D cs (wl_X10_seek ad cs wishes_size wishes_best wishes_bestRow wishes_closed wishes_closers wishes_placeOn) sz)) (Q_X10_seek D cs ad wishes_size wishes_closed wishes_closers (va_A (wl_X10_seek ad cs wishes_size wishes_best wishes_bestRow wishes_closed wishes_closers wishes_placeOn) sz) R) 0 0 (va_A (wl_X10_seek ad cs wishes_size wishes_best wishes_bestRow wishes_closed wishes_closers wishes_placeOn) sz)) : ∀ n : Nat, (∀ (x1 : Int32) (x2 : Int32) (x3 : Int32) (x4 : Int32) (x5 : Int32) (wishes_best : Int32) (wishes_bestRow : Int32) (wishes_placeOn : Nat → Int32) (h : (G_X10_seek  r_X10_seek wishes_size wishes_closed wishes_closers n) x1 x2 x3 x4 x5 wishes_best wishes_bestRow wishes_placeOn = some R) (H : Heap) (locs : List Loc) (ls : Array Slot) (hP : va_P D classes (wl_X10_seek ad cs wishes_size wishes_best wishes_bestRow wishes_closed wishes_closers wishes_placeOn) H) (hD : va_D A (wl_X10_seek ad cs wishes_size wishes_best wishes_bestRow wishes_closed wishes_closers wishes_placeOn)) (hS : va_S A s.heap H locs) (hl : lv_has ls 7 [(0, .ref (ad 28)), (1, .int x1), (2, .int x2), (3, .int x3), (4, .int x4), (5, .int x5)]), W p l e ({ frames := fr + 2, cells := 0, slots := 0, locals := lo + 47 } : Room) s m args below meth c H locs 0 0 (MQ below (Q_X10_seek D cs ad wishes_size wishes_closed wishes_closers A R) args s 0 0 A) (F0 m 45 ls [])) := by
  intro n
  induction n with
  | zero =>
    refine ?_ <;> (intros; rename_i h _ _ _ _ _ _ _; cases h)
  | succ n ih =>
    exact L_X10_seek_45 C0 hK hA hr_X10_seek ih
set_option maxHeartbeats 4000000 in
set_option maxRecDepth 100000 in
theorem c_X10_seek (l : Launch) (D : va_G) (cs : Nat → ClassId) (ad : Nat → Nat) {fr lo : Nat} {r_X10_seek : Int32 → Int32 → Int32 → Int32 → Int32 → Int32 → Int32 → (Nat → Int32) → (Nat → Int32) → (Nat → Int32) → (Option (Int32 × Int32 × (Nat → Int32)))} (hr_X10_seek : ∀ (D : va_G) (cs : Nat → ClassId) (ad : Nat → Nat) (sz : Nat) (x1 : Int32) (x2 : Int32) (x3 : Int32) (x4 : Int32) (wishes_size : Int32) (wishes_best : Int32) (wishes_bestRow : Int32) (wishes_closed : Nat → Int32) (wishes_closers : Nat → Int32) (wishes_placeOn : Nat → Int32) (R : Int32 × Int32 × (Nat → Int32)) (h : r_X10_seek x1 x2 x3 x4 wishes_size wishes_best wishes_bestRow wishes_closed wishes_closers wishes_placeOn = some R), Met l yX10_seek z_X10_seek ({ frames := fr, cells := 0, slots := 0, locals := lo } : Room) (va_Pc [.ref (ad 28), .int x1, .int x2, .int x3, .int x4] (zPre D cs (wl_X10_seek ad cs wishes_size wishes_best wishes_bestRow wishes_closed wishes_closers wishes_placeOn) sz)) (Q_X10_seek D cs ad wishes_size wishes_closed wishes_closers (va_A (wl_X10_seek ad cs wishes_size wishes_best wishes_bestRow wishes_closed wishes_closers wishes_placeOn) sz) R) 0 0 (va_A (wl_X10_seek ad cs wishes_size wishes_best wishes_bestRow wishes_closed wishes_closers wishes_placeOn) sz)) (sz : Nat) (n : Nat) (x1 : Int32) (x2 : Int32) (x3 : Int32) (x4 : Int32) (wishes_size : Int32) (wishes_best : Int32) (wishes_bestRow : Int32) (wishes_closed : Nat → Int32) (wishes_closers : Nat → Int32) (wishes_placeOn : Nat → Int32) (R : Int32 × Int32 × (Nat → Int32)) (h : f_X10_seek  r_X10_seek n x1 x2 x3 x4 wishes_size wishes_best wishes_bestRow wishes_closed wishes_closers wishes_placeOn = some R) : Met l yX10_seek (z_X10_seek) ({ frames := fr + 2, cells := 0, slots := 0, locals := lo + 47 } : Room) (va_Pc [.ref (ad 28), .int x1, .int x2, .int x3, .int x4] (zPre D cs (wl_X10_seek ad cs wishes_size wishes_best wishes_bestRow wishes_closed wishes_closers wishes_placeOn) sz)) (Q_X10_seek D cs ad wishes_size wishes_closed wishes_closers (va_A (wl_X10_seek ad cs wishes_size wishes_best wishes_bestRow wishes_closed wishes_closers wishes_placeOn) sz) R) 0 0 (va_A (wl_X10_seek ad cs wishes_size wishes_best wishes_bestRow wishes_closed wishes_closers wishes_placeOn) sz) := by
  refine Met.ofW (cc := cX10_seek) (maxL := 7) (ret := none) (by decide) rfl ?_
  intro p e s m args below meth c s₁ B hml hv
  obtain ⟨rfl, hsz, hP, hK, hD0⟩ := hv
  subst hsz
  have hD := hD0.self (sz := s.heap.size)
  have C0 : zC p s m _ meth c cX10_seek 7 none RX10 zW := ⟨B.exec, B.bytes, B.returns, hml, findClass_of_methodNamed B.named, fun w hw => atoms_spec (ws := z_X10_seek) B.pre w (List.mem_cons_of_mem _ hw), B.notSynchronized⟩
  have hA : ∀ q : Nat, s.heap.size ≤ q → va_A (wl_X10_seek ad cs wishes_size wishes_best wishes_bestRow wishes_closed wishes_closers wishes_placeOn) s.heap.size q := fun q h => Or.inr h
  have hl := lv_entry ([.ref (ad 28), .int x1, .int x2, .int x3, .int x4]) (n := 7) (Nat.le_of_ble_eq_true rfl)
  rw [lg_entry_eq]
  generalize (lg_sl ([.ref (ad 28), .int x1, .int x2, .int x3, .int x4]) ++ List.replicate (7 - (lg_sl ([.ref (ad 28), .int x1, .int x2, .int x3, .int x4])).length) Slot.unset).toArray = ls at hl ⊢
  exact L_X10_seek_0 C0 hK hA hr_X10_seek ((LG_X10_seek C0 hK hA hr_X10_seek n)) x1 x2 x3 x4 wishes_best wishes_bestRow wishes_placeOn h s.heap [] ls hP hD va_S.rf hl
theorem cg_grp185 (l : Launch) : ∀ n : Nat, (∀ (D : va_G) (cs : Nat → ClassId) (ad : Nat → Nat) (sz : Nat) (x1 : Int32) (x2 : Int32) (x3 : Int32) (x4 : Int32) (wishes_size : Int32) (wishes_best : Int32) (wishes_bestRow : Int32) (wishes_closed : Nat → Int32) (wishes_closers : Nat → Int32) (wishes_placeOn : Nat → Int32) (R : Int32 × Int32 × (Nat → Int32)) (h : ((grp_grp185 n)) x1 x2 x3 x4 wishes_size wishes_best wishes_bestRow wishes_closed wishes_closers wishes_placeOn = some R), Met l yX10_seek z_X10_seek ({ frames := 2 * n, cells := 0, slots := 0, locals := 47 * n } : Room) (va_Pc [.ref (ad 28), .int x1, .int x2, .int x3, .int x4] (zPre D cs (wl_X10_seek ad cs wishes_size wishes_best wishes_bestRow wishes_closed wishes_closers wishes_placeOn) sz)) (Q_X10_seek D cs ad wishes_size wishes_closed wishes_closers (va_A (wl_X10_seek ad cs wishes_size wishes_best wishes_bestRow wishes_closed wishes_closers wishes_placeOn) sz) R) 0 0 (va_A (wl_X10_seek ad cs wishes_size wishes_best wishes_bestRow wishes_closed wishes_closers wishes_placeOn) sz)) := by
  intro n
  induction n with
  | zero =>
    refine ?_ <;> (intros; rename_i h; cases h)
  | succ n ih =>
    exact (fun D cs ad   sz x1 x2 x3 x4 wishes_size wishes_best wishes_bestRow wishes_closed wishes_closers wishes_placeOn R h => c_X10_seek l D cs ad   (ih) sz 100000 x1 x2 x3 x4 wishes_size wishes_best wishes_bestRow wishes_closed wishes_closers wishes_placeOn R h)
theorem kw_696 : Cond.fieldLink RX11 10 "AlreadyJudged" "court" "LAlreadyJudged$Court;" ∈ zW := zwC (i := 142) zc_3 rfl rfl
theorem kw_734 : Cond.methodLink RX11 103 yX2_isShoe ∈ zW := zwC (i := 180) zc_3 rfl rfl
theorem kw_735 : Cond.static yX2_isShoe ∈ zW := zwC (i := 181) zc_3 rfl rfl
theorem kw_736 : Cond.code yX2_isShoe cX2_isShoe 4 (some .boolean) ∈ zW := zwC (i := 182) zc_3 rfl rfl
theorem kw_740 : Cond.methodLink RX11 107 yX2_addShoe ∈ zW := zwC (i := 186) zc_3 rfl rfl
theorem kw_741 : Cond.instanceMethod yX2_addShoe ∈ zW := zwC (i := 187) zc_3 rfl rfl
theorem kw_742 : Cond.selects RX2 yX2_addShoe yX2_addShoe ∈ zW := zwC (i := 188) zc_3 rfl rfl
theorem kw_743 : Cond.code yX2_addShoe cX2_addShoe 5 (some .int) ∈ zW := zwC (i := 189) zc_3 rfl rfl
theorem zh_cX11_shoe_0 : zck [27, 28, 29, 21, 4, 184, 0, 103, 154, 0, 5, 2, 172, 42, 180, 0, 10, 27, 28, 29, 21, 4] (zdu 0 cX11_shoe.data.toList) = true := by decide +kernel
theorem dX11_shoe_0 : decode cX11_shoe 0 = .ok (.iload_n 1, 1) := zo_27 zh_cX11_shoe_0 0 rfl
theorem dX11_shoe_1 : decode cX11_shoe 1 = .ok (.iload_n 2, 1) := zo_28 zh_cX11_shoe_0 1 rfl
theorem dX11_shoe_2 : decode cX11_shoe 2 = .ok (.iload_n 3, 1) := zo_29 zh_cX11_shoe_0 2 rfl
theorem dX11_shoe_3 : decode cX11_shoe 3 = .ok (.iload 4, 2) := zo_21 zh_cX11_shoe_0 3 rfl
theorem dX11_shoe_5 : decode cX11_shoe 5 = .ok (.invokestatic 103, 3) := zo_184 zh_cX11_shoe_0 5 rfl
theorem dX11_shoe_8 : decode cX11_shoe 8 = .ok (.ifCond .ne 5, 3) := zo_p154 zh_cX11_shoe_0 8 5 rfl rfl
theorem dX11_shoe_11 : decode cX11_shoe 11 = .ok (.iconst (-1), 1) := zo_2 zh_cX11_shoe_0 11 rfl
theorem dX11_shoe_12 : decode cX11_shoe 12 = .ok (.ireturn, 1) := zo_172 zh_cX11_shoe_0 12 rfl
theorem dX11_shoe_13 : decode cX11_shoe 13 = .ok (.aload_n 0, 1) := zo_42 zh_cX11_shoe_0 13 rfl
theorem dX11_shoe_14 : decode cX11_shoe 14 = .ok (.getfield 10, 3) := zo_180 zh_cX11_shoe_0 14 rfl
theorem dX11_shoe_17 : decode cX11_shoe 17 = .ok (.iload_n 1, 1) := zo_27 zh_cX11_shoe_0 17 rfl
theorem dX11_shoe_18 : decode cX11_shoe 18 = .ok (.iload_n 2, 1) := zo_28 zh_cX11_shoe_0 18 rfl
theorem dX11_shoe_19 : decode cX11_shoe 19 = .ok (.iload_n 3, 1) := zo_29 zh_cX11_shoe_0 19 rfl
theorem zh_cX11_shoe_1 : zck [21, 4, 182, 0, 107, 172] (zdu 20 cX11_shoe.data.toList) = true := by decide +kernel
theorem dX11_shoe_20 : decode cX11_shoe 20 = .ok (.iload 4, 2) := zo_21 zh_cX11_shoe_1 0 rfl
theorem dX11_shoe_22 : decode cX11_shoe 22 = .ok (.invokevirtual 107, 3) := zo_182 zh_cX11_shoe_1 2 rfl
theorem dX11_shoe_25 : decode cX11_shoe 25 = .ok (.ireturn, 1) := zo_172 zh_cX11_shoe_1 5 rfl
abbrev z_X11_shoe : List Cond := .code yX11_shoe cX11_shoe 5 (some .int) :: zW
abbrev wl_X11_shoe (ad : Nat → Nat) (cs : Nat → ClassId)  (court_shoeCount : Int32) (court_claimCount : Int32) (court_suitCount : Int32) (court_shoePerson : Nat → Int32) (court_shoeOther : Nat → Int32) (court_shoeSort : Nat → Int32) (court_shoeDay : Nat → Int32) : va_W := [((ad 0), .inr (11, [.ref (ad 4), .ref (ad 15), .ref (ad 23), .ref (ad 25), .ref (ad 26), .ref (ad 28), .ref (ad 34), .ref (ad 39), .ref (ad 1), .ref (ad 2), .ref (ad 3)])), ((ad 4), .inr (2, [.ref (ad 5), .ref (ad 6), .ref (ad 7), .ref (ad 8), .ref (ad 9), .ref (ad 10), .ref (ad 11), .ref (ad 12), .ref (ad 13), .ref (ad 14), .int court_shoeCount, .int court_claimCount, .int court_suitCount])), ((ad 5), .inl (cs 0, 40, .inl court_shoePerson)), ((ad 6), .inl (cs 0, 40, .inl court_shoeOther)), ((ad 7), .inl (cs 0, 40, .inl court_shoeSort)), ((ad 8), .inl (cs 0, 40, .inl court_shoeDay))]
def Q_X11_shoe (D : va_G) (cs : Nat → ClassId) (ad : Nat → Nat)  (court_claimCount : Int32) (court_suitCount : Int32) (A : Nat → Prop) (R : Int32 × Int32 × (Nat → Int32) × (Nat → Int32) × (Nat → Int32) × (Nat → Int32)) : Array Value → State → Outcome → State → Prop :=
  va_Qi (fun (r : Int32) (u : Int32 × (Nat → Int32) × (Nat → Int32) × (Nat → Int32) × (Nat → Int32)) => (r, u) = R) (fun (u : Int32 × (Nat → Int32) × (Nat → Int32) × (Nat → Int32) × (Nat → Int32)) (t : State) => va_P D classes (wl_X11_shoe ad cs u.1 court_claimCount court_suitCount u.2.1 u.2.2.1 u.2.2.2.1 u.2.2.2.2) t.heap ∧ va_D A (wl_X11_shoe ad cs u.1 court_claimCount court_suitCount u.2.1 u.2.2.1 u.2.2.2.1 u.2.2.2.2)) A
abbrev rm_X11_shoe : Room := { frames := 2, cells := 0, slots := 0, locals := 43 }
theorem g_X11_103 : GoodIn zW (va_wsS RX11 103 yX2_isShoe z_X2_isShoe) := zGS kw_734 kw_735 kw_76 kw_736
theorem g_X11_107 : GoodIn zW (wsV RX11 107 RX2 yX2_addShoe z_X2_addShoe) := zGV kw_740 kw_741 kw_742 kw_76 kw_743
theorem hd_X2_addShoe : yX2_addShoe.cls ≠ "java/lang/invoke/MethodHandle" ∧ yX2_addShoe.cls ≠ "java/lang/invoke/VarHandle" ∧ (parseMethodDescriptor yX2_addShoe.desc).map (fun d => d.parameters.length) = some 4 := by decide +kernel
theorem hd_X2_isShoe : yX2_isShoe.cls ≠ "java/lang/invoke/MethodHandle" ∧ yX2_isShoe.cls ≠ "java/lang/invoke/VarHandle" ∧ (parseMethodDescriptor yX2_isShoe.desc).map (fun d => d.parameters.length) = some 4 := by decide +kernel
def B_X11_shoe_0    (court_claimCount : Int32) (court_suitCount : Int32) (x1 : Int32) (x2 : Int32) (x3 : Int32) (x4 : Int32) (court_shoeCount : Int32) (court_shoePerson : Nat → Int32) (court_shoeOther : Nat → Int32) (court_shoeSort : Nat → Int32) (court_shoeDay : Nat → Int32) : Option (Int32 × Int32 × (Nat → Int32) × (Nat → Int32) × (Nat → Int32) × (Nat → Int32)) :=
  (zk_b2 (f_X2_isShoe x1 x2 x3 x4) (fun r_1 u_2 => (if r_1 = 0 then (some ((-1 : Int32), court_shoeCount, court_shoePerson, court_shoeOther, court_shoeSort, court_shoeDay)) else (zk_b6 (f_X2_addShoe x1 x2 x3 x4 court_shoeCount court_claimCount court_suitCount court_shoePerson court_shoeOther court_shoeSort court_shoeDay) (fun r_5 u_6 u_7 u_8 u_9 u_10 => (some (r_5, u_6, u_7, u_8, u_9, u_10)))))))
def f_X11_shoe   (x1 : Int32) (x2 : Int32) (x3 : Int32) (x4 : Int32) (court_shoeCount : Int32) (court_claimCount : Int32) (court_suitCount : Int32) (court_shoePerson : Nat → Int32) (court_shoeOther : Nat → Int32) (court_shoeSort : Nat → Int32) (court_shoeDay : Nat → Int32) : Option (Int32 × Int32 × (Nat → Int32) × (Nat → Int32) × (Nat → Int32) × (Nat → Int32)) := B_X11_shoe_0   court_claimCount court_suitCount x1 x2 x3 x4 court_shoeCount court_shoePerson court_shoeOther court_shoeSort court_shoeDay
set_option maxHeartbeats 4000000 in
set_option maxRecDepth 100000 in
theorem L_X11_shoe_0 {p : Program} {l : Launch} {e : Env} {s : State} {m : MethodId} {args : Array Value} {below : List Frame} {meth : Method} {c : Code} {A : Nat → Prop} {D : va_G} {cs : Nat → ClassId} {ad : Nat → Nat} {court_claimCount : Int32} {court_suitCount : Int32} {R : Int32 × Int32 × (Nat → Int32) × (Nat → Int32) × (Nat → Int32) × (Nat → Int32)} (C0 : zC p s m args meth c cX11_shoe 5 (some .int) RX11 zW) (hK : va_K D classes (zT cs) s) (hO : zO s) (hA : ∀ q : Nat, s.heap.size ≤ q → A q) (x1 : Int32) (x2 : Int32) (x3 : Int32) (x4 : Int32) (court_shoeCount : Int32) (court_shoePerson : Nat → Int32) (court_shoeOther : Nat → Int32) (court_shoeSort : Nat → Int32) (court_shoeDay : Nat → Int32) (h : B_X11_shoe_0 court_claimCount court_suitCount x1 x2 x3 x4 court_shoeCount court_shoePerson court_shoeOther court_shoeSort court_shoeDay = some R) (H : Heap) (locs : List Loc) (ls : Array Slot) (hP : va_P D classes (wl_X11_shoe ad cs court_shoeCount court_claimCount court_suitCount court_shoePerson court_shoeOther court_shoeSort court_shoeDay) H) (hD : va_D A (wl_X11_shoe ad cs court_shoeCount court_claimCount court_suitCount court_shoePerson court_shoeOther court_shoeSort court_shoeDay)) (hS : va_S A s.heap H locs) (hl : lv_has ls 5 [(0, .ref (ad 0)), (1, .int x1), (2, .int x2), (3, .int x3), (4, .int x4)]) : W p l e rm_X11_shoe s m args below meth c H locs 0 0 (MQ below (Q_X11_shoe D cs ad court_claimCount court_suitCount A R) args s 0 0 A) (F0 m 0 ls []) := by
  obtain ⟨hx, hb, hr, hml, hown, ht, hlocks⟩ := id C0
  refine lv_iload_n hx hb dX11_shoe_0 rfl (lv_at hl 1 rfl) ?_
  refine lv_iload_n hx hb dX11_shoe_1 rfl (lv_at hl 2 rfl) ?_
  refine lv_iload_n hx hb dX11_shoe_2 rfl (lv_at hl 3 rfl) ?_
  refine lv_iload hx hb dX11_shoe_3 (lv_at hl 4 rfl) ?_
  obtain ⟨r_1, u_2, hc_3, h⟩ := zk_o2 h
  refine zz_siO (post := (fun r u => (r, u) = (r_1, u_2))) (w1 := fun u => (wl_X2_isShoe ad cs )) (As := [.int x1, .int x2, .int x3, .int x4]) (rest := []) hO (c_X2_isShoe l D cs ad  H.size x1 x2 x3 x4 (r_1, u_2) hc_3) ⟨hx, hb, hml, hown, ht⟩ (va_cwS 4 ht g_X11_103 rfl rfl rfl hd_X2_isShoe ⟨Nat.le_of_ble_eq_true rfl, Nat.le_of_ble_eq_true rfl⟩) hP hD hS hK hA [] rfl rfl [] rfl (fun _ => rfl) rfl hl.1 (Nat.le_of_ble_eq_true rfl) dX11_shoe_5 ⟨Nat.zero_le _, Nat.zero_le _⟩ (fun r u H locs hq hP hS => ?_)
  cases hq
  have hP : va_P D classes (wl_X11_shoe ad cs court_shoeCount court_claimCount court_suitCount court_shoePerson court_shoeOther court_shoeSort court_shoeDay) H := hP
  refine lv_if_ne (tgt := 13) hx hb dX11_shoe_8 (by decide) (fun c_4 => ?_) (fun c_4 => ?_)
  · have h := zk_f c_4 h
    refine lv_aload_n hx hb dX11_shoe_13 rfl (lv_at hl 0 rfl) ?_
    refine va_get (D := D) (ci := 11) (v := .ref (ad 4)) (C := RX11) (T := TX11) (N := 11) hx hb ht iX11 hown hK hP 0 rfl rfl 0 (by decide) (ht _ kw_696) (fun _ h9 => h9) rfl dX11_shoe_14 ?_
    refine lv_iload_n hx hb dX11_shoe_17 rfl (lv_at hl 1 rfl) ?_
    refine lv_iload_n hx hb dX11_shoe_18 rfl (lv_at hl 2 rfl) ?_
    refine lv_iload_n hx hb dX11_shoe_19 rfl (lv_at hl 3 rfl) ?_
    refine lv_iload hx hb dX11_shoe_20 (lv_at hl 4 rfl) ?_
    obtain ⟨r_5, u_6, u_7, u_8, u_9, u_10, hc_11, h⟩ := zk_o6 h
    refine zz_vi (post := (fun r u => (r, u) = (r_5, u_6, u_7, u_8, u_9, u_10))) (w1 := fun u => (wl_X2_addShoe ad cs u.1 court_claimCount court_suitCount u.2.1 u.2.2.1 u.2.2.2.1 u.2.2.2.2)) (As := [.int x1, .int x2, .int x3, .int x4]) (rest := []) (c_X2_addShoe l D cs ad  H.size x1 x2 x3 x4 court_shoeCount court_claimCount court_suitCount court_shoePerson court_shoeOther court_shoeSort court_shoeDay (r_5, u_6, u_7, u_8, u_9, u_10) hc_11) ⟨hx, hb, hml, hown, ht⟩ (cwV 4 ht g_X11_107 rfl rfl rfl ⟨rfl, hd_X2_addShoe⟩ ⟨Nat.le_of_ble_eq_true rfl, Nat.le_of_ble_eq_true rfl⟩) (va_recv hK hP (ci := 2) (q0 := 1) rfl rfl) hP hD hS hK hA [1, 2, 3, 4, 5] rfl rfl [(ad 4), (ad 5), (ad 6), (ad 7), (ad 8)] rfl (fun _ => rfl) rfl hl.1 (Nat.le_of_ble_eq_true rfl) dX11_shoe_22 ⟨Nat.zero_le _, Nat.zero_le _⟩ (fun r u H locs hq hP hS => ?_)
    cases hq
    have hP : va_P D classes (wl_X11_shoe ad cs u_6 court_claimCount court_suitCount u_7 u_8 u_9 u_10) H := hP
    have hD : va_D A (wl_X11_shoe ad cs u_6 court_claimCount court_suitCount u_7 u_8 u_9 u_10) := zDk hD [(ad 0), (ad 4), (ad 5), (ad 6), (ad 7), (ad 8)] rfl rfl
    exact W.iret (v := r_5) hx hb hr (fun t ht2 hW => ⟨⟨r_5, (u_6, u_7, u_8, u_9, u_10), rfl, Option.some.inj h, by rw [ht2]; exact hP, hD⟩, hS.F ht2⟩) hS.2.2 dX11_shoe_25 hlocks
  · have h := zk_t c_4 h
    refine lv_iconst (v := (-1 : Int32)) hx hb dX11_shoe_11 (by decide) ?_
    exact W.iret (v := (-1 : Int32)) hx hb hr (fun t ht2 hW => ⟨⟨(-1 : Int32), (court_shoeCount, court_shoePerson, court_shoeOther, court_shoeSort, court_shoeDay), rfl, Option.some.inj h, by rw [ht2]; exact hP, hD⟩, hS.F ht2⟩) hS.2.2 dX11_shoe_12 hlocks
set_option maxHeartbeats 4000000 in
set_option maxRecDepth 100000 in
theorem c_X11_shoe (l : Launch) (D : va_G) (cs : Nat → ClassId) (ad : Nat → Nat) (sz : Nat) (x1 : Int32) (x2 : Int32) (x3 : Int32) (x4 : Int32) (court_shoeCount : Int32) (court_claimCount : Int32) (court_suitCount : Int32) (court_shoePerson : Nat → Int32) (court_shoeOther : Nat → Int32) (court_shoeSort : Nat → Int32) (court_shoeDay : Nat → Int32) (R : Int32 × Int32 × (Nat → Int32) × (Nat → Int32) × (Nat → Int32) × (Nat → Int32)) (h : f_X11_shoe   x1 x2 x3 x4 court_shoeCount court_claimCount court_suitCount court_shoePerson court_shoeOther court_shoeSort court_shoeDay = some R) : Met l yX11_shoe (z_X11_shoe) rm_X11_shoe (va_Pc [.ref (ad 0), .int x1, .int x2, .int x3, .int x4] (zPreO D cs (wl_X11_shoe ad cs court_shoeCount court_claimCount court_suitCount court_shoePerson court_shoeOther court_shoeSort court_shoeDay) sz)) (Q_X11_shoe D cs ad court_claimCount court_suitCount (va_A (wl_X11_shoe ad cs court_shoeCount court_claimCount court_suitCount court_shoePerson court_shoeOther court_shoeSort court_shoeDay) sz) R) 0 0 (va_A (wl_X11_shoe ad cs court_shoeCount court_claimCount court_suitCount court_shoePerson court_shoeOther court_shoeSort court_shoeDay) sz) := by
  refine Met.ofW (cc := cX11_shoe) (maxL := 5) (ret := (some .int)) (by decide) rfl ?_
  intro p e s m args below meth c s₁ B hml hv
  obtain ⟨rfl, ⟨hsz, hP, hK, hD0⟩, hO⟩ := hv
  subst hsz
  have hD := hD0.self (sz := s.heap.size)
  have C0 : zC p s m _ meth c cX11_shoe 5 (some .int) RX11 zW := ⟨B.exec, B.bytes, B.returns, hml, findClass_of_methodNamed B.named, fun w hw => atoms_spec (ws := z_X11_shoe) B.pre w (List.mem_cons_of_mem _ hw), B.notSynchronized⟩
  have hA : ∀ q : Nat, s.heap.size ≤ q → va_A (wl_X11_shoe ad cs court_shoeCount court_claimCount court_suitCount court_shoePerson court_shoeOther court_shoeSort court_shoeDay) s.heap.size q := fun q h => Or.inr h
  have hl := lv_entry ([.ref (ad 0), .int x1, .int x2, .int x3, .int x4]) (n := 5) (Nat.le_of_ble_eq_true rfl)
  rw [lg_entry_eq]
  generalize (lg_sl ([.ref (ad 0), .int x1, .int x2, .int x3, .int x4]) ++ List.replicate (5 - (lg_sl ([.ref (ad 0), .int x1, .int x2, .int x3, .int x4])).length) Slot.unset).toArray = ls at hl ⊢
  exact L_X11_shoe_0 C0 hK hO hA   x1 x2 x3 x4 court_shoeCount court_shoePerson court_shoeOther court_shoeSort court_shoeDay h s.heap [] ls hP hD va_S.rf hl
theorem kw_704 : Cond.fieldLink RX11 71 "AlreadyJudged" "places" "[LAlreadyJudged$Place;" ∈ zW := zwC (i := 150) zc_3 rfl rfl
theorem zh_cX11_placeAt_0 : zck [27, 155, 0, 18, 27, 16, 6, 162, 0, 12, 42, 180, 0, 71, 27, 50, 167, 0, 4, 1, 176] (zdu 0 cX11_placeAt.data.toList) = true := by decide +kernel
theorem dX11_placeAt_0 : decode cX11_placeAt 0 = .ok (.iload_n 1, 1) := zo_27 zh_cX11_placeAt_0 0 rfl
theorem dX11_placeAt_1 : decode cX11_placeAt 1 = .ok (.ifCond .lt 18, 3) := zo_p155 zh_cX11_placeAt_0 1 18 rfl rfl
theorem dX11_placeAt_4 : decode cX11_placeAt 4 = .ok (.iload_n 1, 1) := zo_27 zh_cX11_placeAt_0 4 rfl
theorem dX11_placeAt_5 : decode cX11_placeAt 5 = .ok (.bipush 6, 2) := zo_p16 zh_cX11_placeAt_0 5 6 rfl rfl
theorem dX11_placeAt_7 : decode cX11_placeAt 7 = .ok (.if_icmp .ge 12, 3) := zo_p162 zh_cX11_placeAt_0 7 12 rfl rfl
theorem dX11_placeAt_10 : decode cX11_placeAt 10 = .ok (.aload_n 0, 1) := zo_42 zh_cX11_placeAt_0 10 rfl
theorem dX11_placeAt_11 : decode cX11_placeAt 11 = .ok (.getfield 71, 3) := zo_180 zh_cX11_placeAt_0 11 rfl
theorem dX11_placeAt_14 : decode cX11_placeAt 14 = .ok (.iload_n 1, 1) := zo_27 zh_cX11_placeAt_0 14 rfl
theorem dX11_placeAt_15 : decode cX11_placeAt 15 = .ok (.aaload, 1) := zo_50 zh_cX11_placeAt_0 15 rfl
theorem dX11_placeAt_16 : decode cX11_placeAt 16 = .ok (.goto 4, 3) := zo_p167 zh_cX11_placeAt_0 16 4 rfl rfl
theorem dX11_placeAt_19 : decode cX11_placeAt 19 = .ok (.aconst_null, 1) := zo_1 zh_cX11_placeAt_0 19 rfl
theorem zh_cX11_placeAt_1 : zck [176] (zdu 20 cX11_placeAt.data.toList) = true := by decide +kernel
theorem dX11_placeAt_20 : decode cX11_placeAt 20 = .ok (.areturn, 1) := zo_176 zh_cX11_placeAt_1 0 rfl
abbrev z_X11_placeAt : List Cond := .code yX11_placeAt cX11_placeAt 2 (some (.object "AlreadyJudged$Place")) :: zW
abbrev wl_X11_placeAt (ad : Nat → Nat) (cs : Nat → ClassId) (h_pl : Nat) (h_pl_elements : Nat) (root_places : Nat → Option Nat) (pl_holds : Int32) (pl_suit : Int32) (pl_size : Int32) : va_W := [((ad 0), .inr (11, [.ref (ad 4), .ref (ad 15), .ref (ad 23), .ref (ad 25), .ref (ad 26), .ref (ad 28), .ref (ad 34), .ref (ad 39), .ref (ad 1), .ref (ad 2), .ref (ad 3)])), ((ad 1), .inl (cs 7, 6, .inr (.inr (.inr (.inr root_places))))), (h_pl, .inr (6, [.int pl_holds, .int pl_suit, .int pl_size, .ref h_pl_elements]))]
def Q_X11_placeAt (D : va_G) (cs : Nat → ClassId) (ad : Nat → Nat) (h_pl : Nat) (h_pl_elements : Nat) (root_places : Nat → Option Nat) (pl_holds : Int32) (pl_suit : Int32) (pl_size : Int32) (A : Nat → Prop) (R : Bool × Unit) : Array Value → State → Outcome → State → Prop :=
  va_Qq (fun (r : Option Nat) (u : Unit) => r = (if R.1 = true then some h_pl else none) ∧ u = R.2) (fun (u : Unit) (t : State) => va_P D classes (wl_X11_placeAt ad cs h_pl h_pl_elements root_places pl_holds pl_suit pl_size) t.heap ∧ va_D A (wl_X11_placeAt ad cs h_pl h_pl_elements root_places pl_holds pl_suit pl_size)) A
abbrev rm_X11_placeAt : Room := { frames := 0, cells := 0, slots := 0, locals := 0 }
def B_X11_placeAt_0 (h_pl : Nat)   (root_places : Nat → Option Nat) (pl_holds : Int32) (pl_suit : Int32) (pl_size : Int32) (x1 : Int32) : Option (Bool × Unit) :=
  (if x1 < 0 then (some (false, ())) else (if (6 : Int32) ≤ x1 then (some (false, ())) else (if (x1 < 0 ∨ 6 ≤ x1.toNatClampNeg) then none else (if ¬ (root_places x1.toNatClampNeg = some h_pl) then none else (some (true, ()))))))
def f_X11_placeAt (h_pl : Nat)  (x1 : Int32) (root_places : Nat → Option Nat) (pl_holds : Int32) (pl_suit : Int32) (pl_size : Int32) : Option (Bool × Unit) := B_X11_placeAt_0 h_pl  root_places pl_holds pl_suit pl_size x1 
set_option maxHeartbeats 4000000 in
set_option maxRecDepth 100000 in
theorem L_X11_placeAt_0 {p : Program} {l : Launch} {e : Env} {s : State} {m : MethodId} {args : Array Value} {below : List Frame} {meth : Method} {c : Code} {A : Nat → Prop} {D : va_G} {cs : Nat → ClassId} {ad : Nat → Nat} {h_pl : Nat} {h_pl_elements : Nat} {root_places : Nat → Option Nat} {pl_holds : Int32} {pl_suit : Int32} {pl_size : Int32} {R : Bool × Unit} (C0 : zC p s m args meth c cX11_placeAt 2 (some (.object "AlreadyJudged$Place")) RX11 zW) (hK : va_K D classes (zT cs) s) (hA : ∀ q : Nat, s.heap.size ≤ q → A q) (x1 : Int32) (h : B_X11_placeAt_0 h_pl root_places pl_holds pl_suit pl_size x1 = some R) (H : Heap) (locs : List Loc) (ls : Array Slot) (hP : va_P D classes (wl_X11_placeAt ad cs h_pl h_pl_elements root_places pl_holds pl_suit pl_size) H) (hD : va_D A (wl_X11_placeAt ad cs h_pl h_pl_elements root_places pl_holds pl_suit pl_size)) (hS : va_S A s.heap H locs) (hl : lv_has ls 2 [(0, .ref (ad 0)), (1, .int x1)]) : W p l e rm_X11_placeAt s m args below meth c H locs 0 0 (MQ below (Q_X11_placeAt D cs ad h_pl h_pl_elements root_places pl_holds pl_suit pl_size A R) args s 0 0 A) (F0 m 0 ls []) := by
  obtain ⟨hx, hb, hr, hml, hown, ht, hlocks⟩ := id C0
  refine lv_iload_n hx hb dX11_placeAt_0 rfl (lv_at hl 1 rfl) ?_
  refine lv_if_lt (tgt := 19) hx hb dX11_placeAt_1 (by decide) (fun c_1 => ?_) (fun c_1 => ?_)
  · have h := zk_t c_1 h
    refine lv_null hx hb dX11_placeAt_19 ?_
    exact W.aret (v := va_rf none) hx hb hr (Or.inl ⟨_, rfl⟩) (Or.inl rfl) (fun t ht2 hW => ⟨⟨none, (), rfl, ⟨by rw [← Option.some.inj h]; rfl, by rw [← Option.some.inj h]⟩, by rw [ht2]; exact hP, hD⟩, hS.F ht2⟩) hS.2.2 dX11_placeAt_20 hlocks
  · have h := zk_f c_1 h
    refine lv_iload_n hx hb dX11_placeAt_4 rfl (lv_at hl 1 rfl) ?_
    refine lv_bipush (v := (6 : Int32)) hx hb dX11_placeAt_5 (by decide) ?_
    refine lv_icmp_ge (tgt := 19) hx hb dX11_placeAt_7 (by decide) (fun c_2 => ?_) (fun c_2 => ?_)
    · have h := zk_t c_2 h
      refine lv_null hx hb dX11_placeAt_19 ?_
      exact W.aret (v := va_rf none) hx hb hr (Or.inl ⟨_, rfl⟩) (Or.inl rfl) (fun t ht2 hW => ⟨⟨none, (), rfl, ⟨by rw [← Option.some.inj h]; rfl, by rw [← Option.some.inj h]⟩, by rw [ht2]; exact hP, hD⟩, hS.F ht2⟩) hS.2.2 dX11_placeAt_20 hlocks
    · have h := zk_f c_2 h
      refine lv_aload_n hx hb dX11_placeAt_10 rfl (lv_at hl 0 rfl) ?_
      refine va_get (D := D) (ci := 11) (v := .ref (ad 1)) (C := RX11) (T := TX11) (N := 11) hx hb ht iX11 hown hK hP 0 rfl rfl 8 (by decide) (ht _ kw_704) (fun _ h9 => h9) rfl dX11_placeAt_11 ?_
      refine lv_iload_n hx hb dX11_placeAt_14 rfl (lv_at hl 1 rfl) ?_
      obtain ⟨g_3, h⟩ := zk_gd h
      obtain ⟨g_4, h⟩ := zk_gd h
      refine va_aldq hx hb hK hP 1 7 rfl rfl g_3 dX11_placeAt_15 ?_
      refine W.eq (g2 := F0 m 16 ls [.ref h_pl]) (by rw [Decidable.not_not.mp g_4]; rfl) ?_
      refine lv_goto (tgt := 20) hx hb dX11_placeAt_16 (by decide) ?_
      exact W.aret (v := va_rf (some h_pl)) hx hb hr (Or.inl ⟨_, rfl⟩) (Or.inr ⟨_, rfl⟩) (fun t ht2 hW => ⟨⟨(some h_pl), (), rfl, ⟨by rw [← Option.some.inj h]; rfl, by rw [← Option.some.inj h]⟩, by rw [ht2]; exact hP, hD⟩, hS.F ht2⟩) hS.2.2 dX11_placeAt_20 hlocks
set_option maxHeartbeats 4000000 in
set_option maxRecDepth 100000 in
theorem c_X11_placeAt (l : Launch) (D : va_G) (cs : Nat → ClassId) (ad : Nat → Nat) (h_pl : Nat) (h_pl_elements : Nat) (sz : Nat) (x1 : Int32) (root_places : Nat → Option Nat) (pl_holds : Int32) (pl_suit : Int32) (pl_size : Int32) (R : Bool × Unit) (h : f_X11_placeAt h_pl  x1 root_places pl_holds pl_suit pl_size = some R) : Met l yX11_placeAt (z_X11_placeAt) rm_X11_placeAt (va_Pc [.ref (ad 0), .int x1] (zPre D cs (wl_X11_placeAt ad cs h_pl h_pl_elements root_places pl_holds pl_suit pl_size) sz)) (Q_X11_placeAt D cs ad h_pl h_pl_elements root_places pl_holds pl_suit pl_size (va_A (wl_X11_placeAt ad cs h_pl h_pl_elements root_places pl_holds pl_suit pl_size) sz) R) 0 0 (va_A (wl_X11_placeAt ad cs h_pl h_pl_elements root_places pl_holds pl_suit pl_size) sz) := by
  refine Met.ofW (cc := cX11_placeAt) (maxL := 2) (ret := (some (.object "AlreadyJudged$Place"))) (by decide) rfl ?_
  intro p e s m args below meth c s₁ B hml hv
  obtain ⟨rfl, hsz, hP, hK, hD0⟩ := hv
  subst hsz
  have hD := hD0.self (sz := s.heap.size)
  have C0 : zC p s m _ meth c cX11_placeAt 2 (some (.object "AlreadyJudged$Place")) RX11 zW := ⟨B.exec, B.bytes, B.returns, hml, findClass_of_methodNamed B.named, fun w hw => atoms_spec (ws := z_X11_placeAt) B.pre w (List.mem_cons_of_mem _ hw), B.notSynchronized⟩
  have hA : ∀ q : Nat, s.heap.size ≤ q → va_A (wl_X11_placeAt ad cs h_pl h_pl_elements root_places pl_holds pl_suit pl_size) s.heap.size q := fun q h => Or.inr h
  have hl := lv_entry ([.ref (ad 0), .int x1]) (n := 2) (Nat.le_of_ble_eq_true rfl)
  rw [lg_entry_eq]
  generalize (lg_sl ([.ref (ad 0), .int x1]) ++ List.replicate (2 - (lg_sl ([.ref (ad 0), .int x1])).length) Slot.unset).toArray = ls at hl ⊢
  exact L_X11_placeAt_0 C0 hK hA   x1  h s.heap [] ls hP hD va_S.rf hl
theorem kw_686 : Cond.fieldLink RX11 365 "AlreadyJudged$Place" "elements" "[J" ∈ zW := zwC (i := 132) zc_3 rfl rfl
theorem kw_757 : Cond.methodLink RX11 375 yX6_hasRange ∈ zW := zwC (i := 203) zc_3 rfl rfl
theorem zh_cX11_shoeFrom_0 : zck [43, 28, 7, 182, 1, 119, 154, 0, 5, 3, 172, 43, 180, 1, 109, 28, 47, 136, 62, 43, 180, 1] (zdu 0 cX11_shoeFrom.data.toList) = true := by decide +kernel
theorem dX11_shoeFrom_0 : decode cX11_shoeFrom 0 = .ok (.aload_n 1, 1) := zo_43 zh_cX11_shoeFrom_0 0 rfl
theorem dX11_shoeFrom_1 : decode cX11_shoeFrom 1 = .ok (.iload_n 2, 1) := zo_28 zh_cX11_shoeFrom_0 1 rfl
theorem dX11_shoeFrom_2 : decode cX11_shoeFrom 2 = .ok (.iconst 4, 1) := zo_7 zh_cX11_shoeFrom_0 2 rfl
theorem dX11_shoeFrom_3 : decode cX11_shoeFrom 3 = .ok (.invokevirtual 375, 3) := zo_182 zh_cX11_shoeFrom_0 3 rfl
theorem dX11_shoeFrom_6 : decode cX11_shoeFrom 6 = .ok (.ifCond .ne 5, 3) := zo_p154 zh_cX11_shoeFrom_0 6 5 rfl rfl
theorem dX11_shoeFrom_9 : decode cX11_shoeFrom 9 = .ok (.iconst 0, 1) := zo_3 zh_cX11_shoeFrom_0 9 rfl
theorem dX11_shoeFrom_10 : decode cX11_shoeFrom 10 = .ok (.ireturn, 1) := zo_172 zh_cX11_shoeFrom_0 10 rfl
theorem dX11_shoeFrom_11 : decode cX11_shoeFrom 11 = .ok (.aload_n 1, 1) := zo_43 zh_cX11_shoeFrom_0 11 rfl
theorem dX11_shoeFrom_12 : decode cX11_shoeFrom 12 = .ok (.getfield 365, 3) := zo_180 zh_cX11_shoeFrom_0 12 rfl
theorem dX11_shoeFrom_15 : decode cX11_shoeFrom 15 = .ok (.iload_n 2, 1) := zo_28 zh_cX11_shoeFrom_0 15 rfl
theorem dX11_shoeFrom_16 : decode cX11_shoeFrom 16 = .ok (.laload, 1) := zo_47 zh_cX11_shoeFrom_0 16 rfl
theorem dX11_shoeFrom_17 : decode cX11_shoeFrom 17 = .ok (.l2i, 1) := zo_136 zh_cX11_shoeFrom_0 17 rfl
theorem dX11_shoeFrom_18 : decode cX11_shoeFrom 18 = .ok (.istore_n 3, 1) := zo_62 zh_cX11_shoeFrom_0 18 rfl
theorem dX11_shoeFrom_19 : decode cX11_shoeFrom 19 = .ok (.aload_n 1, 1) := zo_43 zh_cX11_shoeFrom_0 19 rfl
theorem zh_cX11_shoeFrom_1 : zck [180, 1, 109, 28, 4, 96, 47, 136, 54, 4, 43, 180, 1, 109, 28, 5, 96, 47, 136, 54, 5, 43] (zdu 20 cX11_shoeFrom.data.toList) = true := by decide +kernel
theorem dX11_shoeFrom_20 : decode cX11_shoeFrom 20 = .ok (.getfield 365, 3) := zo_180 zh_cX11_shoeFrom_1 0 rfl
theorem dX11_shoeFrom_23 : decode cX11_shoeFrom 23 = .ok (.iload_n 2, 1) := zo_28 zh_cX11_shoeFrom_1 3 rfl
theorem dX11_shoeFrom_24 : decode cX11_shoeFrom 24 = .ok (.iconst 1, 1) := zo_4 zh_cX11_shoeFrom_1 4 rfl
theorem dX11_shoeFrom_25 : decode cX11_shoeFrom 25 = .ok (.iadd, 1) := zo_96 zh_cX11_shoeFrom_1 5 rfl
theorem dX11_shoeFrom_26 : decode cX11_shoeFrom 26 = .ok (.laload, 1) := zo_47 zh_cX11_shoeFrom_1 6 rfl
theorem dX11_shoeFrom_27 : decode cX11_shoeFrom 27 = .ok (.l2i, 1) := zo_136 zh_cX11_shoeFrom_1 7 rfl
theorem dX11_shoeFrom_28 : decode cX11_shoeFrom 28 = .ok (.istore 4, 2) := zo_54 zh_cX11_shoeFrom_1 8 rfl
theorem dX11_shoeFrom_30 : decode cX11_shoeFrom 30 = .ok (.aload_n 1, 1) := zo_43 zh_cX11_shoeFrom_1 10 rfl
theorem dX11_shoeFrom_31 : decode cX11_shoeFrom 31 = .ok (.getfield 365, 3) := zo_180 zh_cX11_shoeFrom_1 11 rfl
theorem dX11_shoeFrom_34 : decode cX11_shoeFrom 34 = .ok (.iload_n 2, 1) := zo_28 zh_cX11_shoeFrom_1 14 rfl
theorem dX11_shoeFrom_35 : decode cX11_shoeFrom 35 = .ok (.iconst 2, 1) := zo_5 zh_cX11_shoeFrom_1 15 rfl
theorem dX11_shoeFrom_36 : decode cX11_shoeFrom 36 = .ok (.iadd, 1) := zo_96 zh_cX11_shoeFrom_1 16 rfl
theorem dX11_shoeFrom_37 : decode cX11_shoeFrom 37 = .ok (.laload, 1) := zo_47 zh_cX11_shoeFrom_1 17 rfl
theorem dX11_shoeFrom_38 : decode cX11_shoeFrom 38 = .ok (.l2i, 1) := zo_136 zh_cX11_shoeFrom_1 18 rfl
theorem dX11_shoeFrom_39 : decode cX11_shoeFrom 39 = .ok (.istore 5, 2) := zo_54 zh_cX11_shoeFrom_1 19 rfl
theorem zh_cX11_shoeFrom_2 : zck [5, 43, 180, 1, 109, 28, 6, 96, 47, 136, 54, 6, 29, 21, 4, 21, 5, 21, 6, 184, 0, 103] (zdu 40 cX11_shoeFrom.data.toList) = true := by decide +kernel
theorem dX11_shoeFrom_41 : decode cX11_shoeFrom 41 = .ok (.aload_n 1, 1) := zo_43 zh_cX11_shoeFrom_2 1 rfl
theorem dX11_shoeFrom_42 : decode cX11_shoeFrom 42 = .ok (.getfield 365, 3) := zo_180 zh_cX11_shoeFrom_2 2 rfl
theorem dX11_shoeFrom_45 : decode cX11_shoeFrom 45 = .ok (.iload_n 2, 1) := zo_28 zh_cX11_shoeFrom_2 5 rfl
theorem dX11_shoeFrom_46 : decode cX11_shoeFrom 46 = .ok (.iconst 3, 1) := zo_6 zh_cX11_shoeFrom_2 6 rfl
theorem dX11_shoeFrom_47 : decode cX11_shoeFrom 47 = .ok (.iadd, 1) := zo_96 zh_cX11_shoeFrom_2 7 rfl
theorem dX11_shoeFrom_48 : decode cX11_shoeFrom 48 = .ok (.laload, 1) := zo_47 zh_cX11_shoeFrom_2 8 rfl
theorem dX11_shoeFrom_49 : decode cX11_shoeFrom 49 = .ok (.l2i, 1) := zo_136 zh_cX11_shoeFrom_2 9 rfl
theorem dX11_shoeFrom_50 : decode cX11_shoeFrom 50 = .ok (.istore 6, 2) := zo_54 zh_cX11_shoeFrom_2 10 rfl
theorem dX11_shoeFrom_52 : decode cX11_shoeFrom 52 = .ok (.iload_n 3, 1) := zo_29 zh_cX11_shoeFrom_2 12 rfl
theorem dX11_shoeFrom_53 : decode cX11_shoeFrom 53 = .ok (.iload 4, 2) := zo_21 zh_cX11_shoeFrom_2 13 rfl
theorem dX11_shoeFrom_55 : decode cX11_shoeFrom 55 = .ok (.iload 5, 2) := zo_21 zh_cX11_shoeFrom_2 15 rfl
theorem dX11_shoeFrom_57 : decode cX11_shoeFrom 57 = .ok (.iload 6, 2) := zo_21 zh_cX11_shoeFrom_2 17 rfl
theorem dX11_shoeFrom_59 : decode cX11_shoeFrom 59 = .ok (.invokestatic 103, 3) := zo_184 zh_cX11_shoeFrom_2 19 rfl
theorem zh_cX11_shoeFrom_3 : zck [0, 103, 153, 0, 24, 42, 180, 0, 10, 29, 21, 4, 21, 5, 21, 6, 182, 0, 107, 155, 0, 7] (zdu 60 cX11_shoeFrom.data.toList) = true := by decide +kernel
theorem dX11_shoeFrom_62 : decode cX11_shoeFrom 62 = .ok (.ifCond .eq 24, 3) := zo_p153 zh_cX11_shoeFrom_3 2 24 rfl rfl
theorem dX11_shoeFrom_65 : decode cX11_shoeFrom 65 = .ok (.aload_n 0, 1) := zo_42 zh_cX11_shoeFrom_3 5 rfl
theorem dX11_shoeFrom_66 : decode cX11_shoeFrom 66 = .ok (.getfield 10, 3) := zo_180 zh_cX11_shoeFrom_3 6 rfl
theorem dX11_shoeFrom_69 : decode cX11_shoeFrom 69 = .ok (.iload_n 3, 1) := zo_29 zh_cX11_shoeFrom_3 9 rfl
theorem dX11_shoeFrom_70 : decode cX11_shoeFrom 70 = .ok (.iload 4, 2) := zo_21 zh_cX11_shoeFrom_3 10 rfl
theorem dX11_shoeFrom_72 : decode cX11_shoeFrom 72 = .ok (.iload 5, 2) := zo_21 zh_cX11_shoeFrom_3 12 rfl
theorem dX11_shoeFrom_74 : decode cX11_shoeFrom 74 = .ok (.iload 6, 2) := zo_21 zh_cX11_shoeFrom_3 14 rfl
theorem dX11_shoeFrom_76 : decode cX11_shoeFrom 76 = .ok (.invokevirtual 107, 3) := zo_182 zh_cX11_shoeFrom_3 16 rfl
theorem dX11_shoeFrom_79 : decode cX11_shoeFrom 79 = .ok (.ifCond .lt 7, 3) := zo_p155 zh_cX11_shoeFrom_3 19 7 rfl rfl
theorem zh_cX11_shoeFrom_4 : zck [0, 7, 4, 167, 0, 4, 3, 172] (zdu 80 cX11_shoeFrom.data.toList) = true := by decide +kernel
theorem dX11_shoeFrom_82 : decode cX11_shoeFrom 82 = .ok (.iconst 1, 1) := zo_4 zh_cX11_shoeFrom_4 2 rfl
theorem dX11_shoeFrom_83 : decode cX11_shoeFrom 83 = .ok (.goto 4, 3) := zo_p167 zh_cX11_shoeFrom_4 3 4 rfl rfl
theorem dX11_shoeFrom_86 : decode cX11_shoeFrom 86 = .ok (.iconst 0, 1) := zo_3 zh_cX11_shoeFrom_4 6 rfl
theorem dX11_shoeFrom_87 : decode cX11_shoeFrom 87 = .ok (.ireturn, 1) := zo_172 zh_cX11_shoeFrom_4 7 rfl
abbrev z_X11_shoeFrom : List Cond := .code yX11_shoeFrom cX11_shoeFrom 7 (some .boolean) :: zW
abbrev wl_X11_shoeFrom (ad : Nat → Nat) (cs : Nat → ClassId) (h_pl : Nat) (h_pl_elements : Nat) (court_shoeCount : Int32) (court_claimCount : Int32) (court_suitCount : Int32) (court_shoePerson : Nat → Int32) (court_shoeOther : Nat → Int32) (court_shoeSort : Nat → Int32) (court_shoeDay : Nat → Int32) (pl_holds : Int32) (pl_suit : Int32) (pl_size : Int32) (pl_elements : Nat → Int64) : va_W := [((ad 0), .inr (11, [.ref (ad 4), .ref (ad 15), .ref (ad 23), .ref (ad 25), .ref (ad 26), .ref (ad 28), .ref (ad 34), .ref (ad 39), .ref (ad 1), .ref (ad 2), .ref (ad 3)])), ((ad 4), .inr (2, [.ref (ad 5), .ref (ad 6), .ref (ad 7), .ref (ad 8), .ref (ad 9), .ref (ad 10), .ref (ad 11), .ref (ad 12), .ref (ad 13), .ref (ad 14), .int court_shoeCount, .int court_claimCount, .int court_suitCount])), ((ad 5), .inl (cs 0, 40, .inl court_shoePerson)), ((ad 6), .inl (cs 0, 40, .inl court_shoeOther)), ((ad 7), .inl (cs 0, 40, .inl court_shoeSort)), ((ad 8), .inl (cs 0, 40, .inl court_shoeDay)), (h_pl, .inr (6, [.int pl_holds, .int pl_suit, .int pl_size, .ref h_pl_elements])), (h_pl_elements, .inl (cs 1, 60, .inr (.inl pl_elements)))]
def Q_X11_shoeFrom (D : va_G) (cs : Nat → ClassId) (ad : Nat → Nat) (h_pl : Nat) (h_pl_elements : Nat) (court_claimCount : Int32) (court_suitCount : Int32) (pl_holds : Int32) (pl_suit : Int32) (pl_size : Int32) (pl_elements : Nat → Int64) (A : Nat → Prop) (R : Int32 × Int32 × (Nat → Int32) × (Nat → Int32) × (Nat → Int32) × (Nat → Int32)) : Array Value → State → Outcome → State → Prop :=
  va_Qi (fun (r : Int32) (u : Int32 × (Nat → Int32) × (Nat → Int32) × (Nat → Int32) × (Nat → Int32)) => (r, u) = R) (fun (u : Int32 × (Nat → Int32) × (Nat → Int32) × (Nat → Int32) × (Nat → Int32)) (t : State) => va_P D classes (wl_X11_shoeFrom ad cs h_pl h_pl_elements u.1 court_claimCount court_suitCount u.2.1 u.2.2.1 u.2.2.2.1 u.2.2.2.2 pl_holds pl_suit pl_size pl_elements) t.heap ∧ va_D A (wl_X11_shoeFrom ad cs h_pl h_pl_elements u.1 court_claimCount court_suitCount u.2.1 u.2.2.1 u.2.2.2.1 u.2.2.2.2 pl_holds pl_suit pl_size pl_elements)) A
abbrev rm_X11_shoeFrom : Room := { frames := 2, cells := 0, slots := 0, locals := 43 }
theorem g_X11_375 : GoodIn zW (wsV RX11 375 RX6 yX6_hasRange z_X6_hasRange) := zGV kw_757 kw_758 kw_759 kw_94 kw_760
def B_X11_shoeFrom_0    (court_claimCount : Int32) (court_suitCount : Int32) (pl_holds : Int32) (pl_suit : Int32) (pl_size : Int32) (pl_elements : Nat → Int64) (x2 : Int32) (court_shoeCount : Int32) (court_shoePerson : Nat → Int32) (court_shoeOther : Nat → Int32) (court_shoeSort : Nat → Int32) (court_shoeDay : Nat → Int32) : Option (Int32 × Int32 × (Nat → Int32) × (Nat → Int32) × (Nat → Int32) × (Nat → Int32)) :=
  (zk_b2 (f_X6_hasRange x2 (4 : Int32) pl_holds pl_suit pl_size) (fun r_1 u_2 => (if r_1 = 0 then (some ((0 : Int32), court_shoeCount, court_shoePerson, court_shoeOther, court_shoeSort, court_shoeDay)) else (if (x2 < 0 ∨ 60 ≤ x2.toNatClampNeg) then none else (zk_let ((pl_elements x2.toNatClampNeg).toInt32) (fun v_6 => (if ((x2 + (1 : Int32)) < 0 ∨ 60 ≤ (x2 + (1 : Int32)).toNatClampNeg) then none else (zk_let ((pl_elements (x2 + (1 : Int32)).toNatClampNeg).toInt32) (fun v_8 => (if ((x2 + (2 : Int32)) < 0 ∨ 60 ≤ (x2 + (2 : Int32)).toNatClampNeg) then none else (zk_let ((pl_elements (x2 + (2 : Int32)).toNatClampNeg).toInt32) (fun v_10 => (if ((x2 + (3 : Int32)) < 0 ∨ 60 ≤ (x2 + (3 : Int32)).toNatClampNeg) then none else (zk_let ((pl_elements (x2 + (3 : Int32)).toNatClampNeg).toInt32) (fun v_12 => (zk_b2 (f_X2_isShoe v_6 v_8 v_10 v_12) (fun r_13 u_14 => (if r_13 = 0 then (some ((0 : Int32), court_shoeCount, court_shoePerson, court_shoeOther, court_shoeSort, court_shoeDay)) else (zk_b6 (f_X2_addShoe v_6 v_8 v_10 v_12 court_shoeCount court_claimCount court_suitCount court_shoePerson court_shoeOther court_shoeSort court_shoeDay) (fun r_17 u_18 u_19 u_20 u_21 u_22 => (if r_17 < 0 then (some ((0 : Int32), u_18, u_19, u_20, u_21, u_22)) else (some ((1 : Int32), u_18, u_19, u_20, u_21, u_22)))))))))))))))))))))))
def f_X11_shoeFrom   (x2 : Int32) (court_shoeCount : Int32) (court_claimCount : Int32) (court_suitCount : Int32) (court_shoePerson : Nat → Int32) (court_shoeOther : Nat → Int32) (court_shoeSort : Nat → Int32) (court_shoeDay : Nat → Int32) (pl_holds : Int32) (pl_suit : Int32) (pl_size : Int32) (pl_elements : Nat → Int64) : Option (Int32 × Int32 × (Nat → Int32) × (Nat → Int32) × (Nat → Int32) × (Nat → Int32)) := B_X11_shoeFrom_0   court_claimCount court_suitCount pl_holds pl_suit pl_size pl_elements x2 court_shoeCount court_shoePerson court_shoeOther court_shoeSort court_shoeDay
set_option maxHeartbeats 4000000 in
set_option maxRecDepth 100000 in
theorem L_X11_shoeFrom_0 {p : Program} {l : Launch} {e : Env} {s : State} {m : MethodId} {args : Array Value} {below : List Frame} {meth : Method} {c : Code} {A : Nat → Prop} {D : va_G} {cs : Nat → ClassId} {ad : Nat → Nat} {h_pl : Nat} {h_pl_elements : Nat} {court_claimCount : Int32} {court_suitCount : Int32} {pl_holds : Int32} {pl_suit : Int32} {pl_size : Int32} {pl_elements : Nat → Int64} {R : Int32 × Int32 × (Nat → Int32) × (Nat → Int32) × (Nat → Int32) × (Nat → Int32)} (C0 : zC p s m args meth c cX11_shoeFrom 7 (some .boolean) RX11 zW) (hK : va_K D classes (zT cs) s) (hO : zO s) (hA : ∀ q : Nat, s.heap.size ≤ q → A q) (x2 : Int32) (court_shoeCount : Int32) (court_shoePerson : Nat → Int32) (court_shoeOther : Nat → Int32) (court_shoeSort : Nat → Int32) (court_shoeDay : Nat → Int32) (h : B_X11_shoeFrom_0 court_claimCount court_suitCount pl_holds pl_suit pl_size pl_elements x2 court_shoeCount court_shoePerson court_shoeOther court_shoeSort court_shoeDay = some R) (H : Heap) (locs : List Loc) (ls : Array Slot) (hP : va_P D classes (wl_X11_shoeFrom ad cs h_pl h_pl_elements court_shoeCount court_claimCount court_suitCount court_shoePerson court_shoeOther court_shoeSort court_shoeDay pl_holds pl_suit pl_size pl_elements) H) (hD : va_D A (wl_X11_shoeFrom ad cs h_pl h_pl_elements court_shoeCount court_claimCount court_suitCount court_shoePerson court_shoeOther court_shoeSort court_shoeDay pl_holds pl_suit pl_size pl_elements)) (hS : va_S A s.heap H locs) (hl : lv_has ls 7 [(0, .ref (ad 0)), (1, .ref h_pl), (2, .int x2)]) : W p l e rm_X11_shoeFrom s m args below meth c H locs 0 0 (MQ below (Q_X11_shoeFrom D cs ad h_pl h_pl_elements court_claimCount court_suitCount pl_holds pl_suit pl_size pl_elements A R) args s 0 0 A) (F0 m 0 ls []) := by
  obtain ⟨hx, hb, hr, hml, hown, ht, hlocks⟩ := id C0
  refine lv_aload_n hx hb dX11_shoeFrom_0 rfl (lv_at hl 1 rfl) ?_
  refine lv_iload_n hx hb dX11_shoeFrom_1 rfl (lv_at hl 2 rfl) ?_
  refine lv_iconst (v := (4 : Int32)) hx hb dX11_shoeFrom_2 (by decide) ?_
  obtain ⟨r_1, u_2, hc_3, h⟩ := zk_o2 h
  refine zz_vi (post := (fun r u => (r, u) = (r_1, u_2))) (w1 := fun u => (wl_X6_hasRange ad cs h_pl h_pl_elements pl_holds pl_suit pl_size)) (As := [.int x2, .int (4 : Int32)]) (rest := []) (c_X6_hasRange l D cs ad h_pl h_pl_elements H.size x2 (4 : Int32) pl_holds pl_suit pl_size (r_1, u_2) hc_3) ⟨hx, hb, hml, hown, ht⟩ (cwV 2 ht g_X11_375 rfl rfl rfl ⟨rfl, hd_X6_hasRange⟩ ⟨Nat.le_of_ble_eq_true rfl, Nat.le_of_ble_eq_true rfl⟩) (va_recv hK hP (ci := 6) (q0 := 6) rfl rfl) hP hD hS hK hA [6] rfl rfl [h_pl] rfl (fun _ => rfl) rfl hl.1 (Nat.le_of_ble_eq_true rfl) dX11_shoeFrom_3 ⟨Nat.zero_le _, Nat.zero_le _⟩ (fun r u H locs hq hP hS => ?_)
  cases hq
  have hP : va_P D classes (wl_X11_shoeFrom ad cs h_pl h_pl_elements court_shoeCount court_claimCount court_suitCount court_shoePerson court_shoeOther court_shoeSort court_shoeDay pl_holds pl_suit pl_size pl_elements) H := hP
  have hD : va_D A (wl_X11_shoeFrom ad cs h_pl h_pl_elements court_shoeCount court_claimCount court_suitCount court_shoePerson court_shoeOther court_shoeSort court_shoeDay pl_holds pl_suit pl_size pl_elements) := zDk hD [(ad 0), (ad 4), (ad 5), (ad 6), (ad 7), (ad 8), h_pl, h_pl_elements] rfl rfl
  refine lv_if_ne (tgt := 11) hx hb dX11_shoeFrom_6 (by decide) (fun c_4 => ?_) (fun c_4 => ?_)
  · have h := zk_f c_4 h
    refine lv_aload_n hx hb dX11_shoeFrom_11 rfl (lv_at hl 1 rfl) ?_
    refine va_get (D := D) (ci := 6) (v := .ref h_pl_elements) (C := RX6) (T := TX6) (N := 4) hx hb ht iX6 hown hK hP 6 rfl rfl 3 (by decide) (ht _ kw_686) (fun _ h9 => h9) rfl dX11_shoeFrom_12 ?_
    refine lv_iload_n hx hb dX11_shoeFrom_15 rfl (lv_at hl 2 rfl) ?_
    obtain ⟨g_5, h⟩ := zk_gd h
    refine va_lald hx hb hK hP 7 1 rfl rfl g_5 dX11_shoeFrom_16 ?_
    refine lv_l2i (v := (pl_elements x2.toNatClampNeg).toInt32) hx hb dX11_shoeFrom_17 rfl ?_
    obtain ⟨v_6, ev_6, h⟩ := zk_lt h
    refine W.eq (g2 := F0 m 18 ls [.int v_6]) (by rw [ev_6]) ?_
    refine lv_istore_n (lv' := [(3, .int v_6), (0, .ref (ad 0)), (1, .ref h_pl), (2, .int x2)]) hx hb dX11_shoeFrom_18 rfl hl (by decide) rfl (fun ls hl => ?_)
    refine lv_aload_n hx hb dX11_shoeFrom_19 rfl (lv_at hl 2 rfl) ?_
    refine va_get (D := D) (ci := 6) (v := .ref h_pl_elements) (C := RX6) (T := TX6) (N := 4) hx hb ht iX6 hown hK hP 6 rfl rfl 3 (by decide) (ht _ kw_686) (fun _ h9 => h9) rfl dX11_shoeFrom_20 ?_
    refine lv_iload_n hx hb dX11_shoeFrom_23 rfl (lv_at hl 3 rfl) ?_
    refine lv_iconst (v := (1 : Int32)) hx hb dX11_shoeFrom_24 (by decide) ?_
    refine lv_iadd hx hb dX11_shoeFrom_25 ?_
    obtain ⟨g_7, h⟩ := zk_gd h
    refine va_lald hx hb hK hP 7 1 rfl rfl g_7 dX11_shoeFrom_26 ?_
    refine lv_l2i (v := (pl_elements (x2 + (1 : Int32)).toNatClampNeg).toInt32) hx hb dX11_shoeFrom_27 rfl ?_
    obtain ⟨v_8, ev_8, h⟩ := zk_lt h
    refine W.eq (g2 := F0 m 28 ls [.int v_8]) (by rw [ev_8]) ?_
    refine lv_istore (lv' := [(4, .int v_8), (3, .int v_6), (0, .ref (ad 0)), (1, .ref h_pl), (2, .int x2)]) hx hb dX11_shoeFrom_28 hl (by decide) rfl (fun ls hl => ?_)
    refine lv_aload_n hx hb dX11_shoeFrom_30 rfl (lv_at hl 3 rfl) ?_
    refine va_get (D := D) (ci := 6) (v := .ref h_pl_elements) (C := RX6) (T := TX6) (N := 4) hx hb ht iX6 hown hK hP 6 rfl rfl 3 (by decide) (ht _ kw_686) (fun _ h9 => h9) rfl dX11_shoeFrom_31 ?_
    refine lv_iload_n hx hb dX11_shoeFrom_34 rfl (lv_at hl 4 rfl) ?_
    refine lv_iconst (v := (2 : Int32)) hx hb dX11_shoeFrom_35 (by decide) ?_
    refine lv_iadd hx hb dX11_shoeFrom_36 ?_
    obtain ⟨g_9, h⟩ := zk_gd h
    refine va_lald hx hb hK hP 7 1 rfl rfl g_9 dX11_shoeFrom_37 ?_
    refine lv_l2i (v := (pl_elements (x2 + (2 : Int32)).toNatClampNeg).toInt32) hx hb dX11_shoeFrom_38 rfl ?_
    obtain ⟨v_10, ev_10, h⟩ := zk_lt h
    refine W.eq (g2 := F0 m 39 ls [.int v_10]) (by rw [ev_10]) ?_
    refine lv_istore (lv' := [(5, .int v_10), (4, .int v_8), (3, .int v_6), (0, .ref (ad 0)), (1, .ref h_pl), (2, .int x2)]) hx hb dX11_shoeFrom_39 hl (by decide) rfl (fun ls hl => ?_)
    refine lv_aload_n hx hb dX11_shoeFrom_41 rfl (lv_at hl 4 rfl) ?_
    refine va_get (D := D) (ci := 6) (v := .ref h_pl_elements) (C := RX6) (T := TX6) (N := 4) hx hb ht iX6 hown hK hP 6 rfl rfl 3 (by decide) (ht _ kw_686) (fun _ h9 => h9) rfl dX11_shoeFrom_42 ?_
    refine lv_iload_n hx hb dX11_shoeFrom_45 rfl (lv_at hl 5 rfl) ?_
    refine lv_iconst (v := (3 : Int32)) hx hb dX11_shoeFrom_46 (by decide) ?_
    refine lv_iadd hx hb dX11_shoeFrom_47 ?_
    obtain ⟨g_11, h⟩ := zk_gd h
    refine va_lald hx hb hK hP 7 1 rfl rfl g_11 dX11_shoeFrom_48 ?_
    refine lv_l2i (v := (pl_elements (x2 + (3 : Int32)).toNatClampNeg).toInt32) hx hb dX11_shoeFrom_49 rfl ?_
    obtain ⟨v_12, ev_12, h⟩ := zk_lt h
    refine W.eq (g2 := F0 m 50 ls [.int v_12]) (by rw [ev_12]) ?_
    refine lv_istore (lv' := [(6, .int v_12), (5, .int v_10), (4, .int v_8), (3, .int v_6), (0, .ref (ad 0)), (1, .ref h_pl), (2, .int x2)]) hx hb dX11_shoeFrom_50 hl (by decide) rfl (fun ls hl => ?_)
    refine lv_iload_n hx hb dX11_shoeFrom_52 rfl (lv_at hl 3 rfl) ?_
    refine lv_iload hx hb dX11_shoeFrom_53 (lv_at hl 2 rfl) ?_
    refine lv_iload hx hb dX11_shoeFrom_55 (lv_at hl 1 rfl) ?_
    refine lv_iload hx hb dX11_shoeFrom_57 (lv_at hl 0 rfl) ?_
    obtain ⟨r_13, u_14, hc_15, h⟩ := zk_o2 h
    refine zz_siO (post := (fun r u => (r, u) = (r_13, u_14))) (w1 := fun u => (wl_X2_isShoe ad cs )) (As := [.int v_6, .int v_8, .int v_10, .int v_12]) (rest := []) hO (c_X2_isShoe l D cs ad  H.size v_6 v_8 v_10 v_12 (r_13, u_14) hc_15) ⟨hx, hb, hml, hown, ht⟩ (va_cwS 4 ht g_X11_103 rfl rfl rfl hd_X2_isShoe ⟨Nat.le_of_ble_eq_true rfl, Nat.le_of_ble_eq_true rfl⟩) hP hD hS hK hA [] rfl rfl [] rfl (fun _ => rfl) rfl hl.1 (Nat.le_of_ble_eq_true rfl) dX11_shoeFrom_59 ⟨Nat.zero_le _, Nat.zero_le _⟩ (fun r u H locs hq hP hS => ?_)
    cases hq
    have hP : va_P D classes (wl_X11_shoeFrom ad cs h_pl h_pl_elements court_shoeCount court_claimCount court_suitCount court_shoePerson court_shoeOther court_shoeSort court_shoeDay pl_holds pl_suit pl_size pl_elements) H := hP
    refine lv_if_eq (tgt := 86) hx hb dX11_shoeFrom_62 (by decide) (fun c_16 => ?_) (fun c_16 => ?_)
    · have h := zk_t c_16 h
      refine lv_iconst (v := (0 : Int32)) hx hb dX11_shoeFrom_86 (by decide) ?_
      exact W.zret (ty := .boolean) (v := (0 : Int32)) hx hb hr rfl (fun t ht2 hW => ⟨⟨(0 : Int32), (court_shoeCount, court_shoePerson, court_shoeOther, court_shoeSort, court_shoeDay), rfl, Option.some.inj h, by rw [ht2]; exact hP, hD⟩, hS.F ht2⟩) hS.2.2 dX11_shoeFrom_87 hlocks
    · have h := zk_f c_16 h
      refine lv_aload_n hx hb dX11_shoeFrom_65 rfl (lv_at hl 4 rfl) ?_
      refine va_get (D := D) (ci := 11) (v := .ref (ad 4)) (C := RX11) (T := TX11) (N := 11) hx hb ht iX11 hown hK hP 0 rfl rfl 0 (by decide) (ht _ kw_696) (fun _ h9 => h9) rfl dX11_shoeFrom_66 ?_
      refine lv_iload_n hx hb dX11_shoeFrom_69 rfl (lv_at hl 3 rfl) ?_
      refine lv_iload hx hb dX11_shoeFrom_70 (lv_at hl 2 rfl) ?_
      refine lv_iload hx hb dX11_shoeFrom_72 (lv_at hl 1 rfl) ?_
      refine lv_iload hx hb dX11_shoeFrom_74 (lv_at hl 0 rfl) ?_
      obtain ⟨r_17, u_18, u_19, u_20, u_21, u_22, hc_23, h⟩ := zk_o6 h
      refine zz_vi (post := (fun r u => (r, u) = (r_17, u_18, u_19, u_20, u_21, u_22))) (w1 := fun u => (wl_X2_addShoe ad cs u.1 court_claimCount court_suitCount u.2.1 u.2.2.1 u.2.2.2.1 u.2.2.2.2)) (As := [.int v_6, .int v_8, .int v_10, .int v_12]) (rest := []) (c_X2_addShoe l D cs ad  H.size v_6 v_8 v_10 v_12 court_shoeCount court_claimCount court_suitCount court_shoePerson court_shoeOther court_shoeSort court_shoeDay (r_17, u_18, u_19, u_20, u_21, u_22) hc_23) ⟨hx, hb, hml, hown, ht⟩ (cwV 4 ht g_X11_107 rfl rfl rfl ⟨rfl, hd_X2_addShoe⟩ ⟨Nat.le_of_ble_eq_true rfl, Nat.le_of_ble_eq_true rfl⟩) (va_recv hK hP (ci := 2) (q0 := 1) rfl rfl) hP hD hS hK hA [1, 2, 3, 4, 5] rfl rfl [(ad 4), (ad 5), (ad 6), (ad 7), (ad 8)] rfl (fun _ => rfl) rfl hl.1 (Nat.le_of_ble_eq_true rfl) dX11_shoeFrom_76 ⟨Nat.zero_le _, Nat.zero_le _⟩ (fun r u H locs hq hP hS => ?_)
      cases hq
      have hP : va_P D classes (wl_X11_shoeFrom ad cs h_pl h_pl_elements u_18 court_claimCount court_suitCount u_19 u_20 u_21 u_22 pl_holds pl_suit pl_size pl_elements) H := hP
      have hD : va_D A (wl_X11_shoeFrom ad cs h_pl h_pl_elements u_18 court_claimCount court_suitCount u_19 u_20 u_21 u_22 pl_holds pl_suit pl_size pl_elements) := zDk hD [(ad 0), (ad 4), (ad 5), (ad 6), (ad 7), (ad 8), h_pl, h_pl_elements] rfl rfl
      refine lv_if_lt (tgt := 86) hx hb dX11_shoeFrom_79 (by decide) (fun c_24 => ?_) (fun c_24 => ?_)
      · have h := zk_t c_24 h
        refine lv_iconst (v := (0 : Int32)) hx hb dX11_shoeFrom_86 (by decide) ?_
        exact W.zret (ty := .boolean) (v := (0 : Int32)) hx hb hr rfl (fun t ht2 hW => ⟨⟨(0 : Int32), (u_18, u_19, u_20, u_21, u_22), rfl, Option.some.inj h, by rw [ht2]; exact hP, hD⟩, hS.F ht2⟩) hS.2.2 dX11_shoeFrom_87 hlocks
      · have h := zk_f c_24 h
        refine lv_iconst (v := (1 : Int32)) hx hb dX11_shoeFrom_82 (by decide) ?_
        refine lv_goto (tgt := 87) hx hb dX11_shoeFrom_83 (by decide) ?_
        exact W.zret (ty := .boolean) (v := (1 : Int32)) hx hb hr rfl (fun t ht2 hW => ⟨⟨(1 : Int32), (u_18, u_19, u_20, u_21, u_22), rfl, Option.some.inj h, by rw [ht2]; exact hP, hD⟩, hS.F ht2⟩) hS.2.2 dX11_shoeFrom_87 hlocks
  · have h := zk_t c_4 h
    refine lv_iconst (v := (0 : Int32)) hx hb dX11_shoeFrom_9 (by decide) ?_
    exact W.zret (ty := .boolean) (v := (0 : Int32)) hx hb hr rfl (fun t ht2 hW => ⟨⟨(0 : Int32), (court_shoeCount, court_shoePerson, court_shoeOther, court_shoeSort, court_shoeDay), rfl, Option.some.inj h, by rw [ht2]; exact hP, hD⟩, hS.F ht2⟩) hS.2.2 dX11_shoeFrom_10 hlocks
set_option maxHeartbeats 4000000 in
set_option maxRecDepth 100000 in
theorem c_X11_shoeFrom (l : Launch) (D : va_G) (cs : Nat → ClassId) (ad : Nat → Nat) (h_pl : Nat) (h_pl_elements : Nat) (sz : Nat) (x2 : Int32) (court_shoeCount : Int32) (court_claimCount : Int32) (court_suitCount : Int32) (court_shoePerson : Nat → Int32) (court_shoeOther : Nat → Int32) (court_shoeSort : Nat → Int32) (court_shoeDay : Nat → Int32) (pl_holds : Int32) (pl_suit : Int32) (pl_size : Int32) (pl_elements : Nat → Int64) (R : Int32 × Int32 × (Nat → Int32) × (Nat → Int32) × (Nat → Int32) × (Nat → Int32)) (h : f_X11_shoeFrom   x2 court_shoeCount court_claimCount court_suitCount court_shoePerson court_shoeOther court_shoeSort court_shoeDay pl_holds pl_suit pl_size pl_elements = some R) : Met l yX11_shoeFrom (z_X11_shoeFrom) rm_X11_shoeFrom (va_Pc [.ref (ad 0), .ref h_pl, .int x2] (zPreO D cs (wl_X11_shoeFrom ad cs h_pl h_pl_elements court_shoeCount court_claimCount court_suitCount court_shoePerson court_shoeOther court_shoeSort court_shoeDay pl_holds pl_suit pl_size pl_elements) sz)) (Q_X11_shoeFrom D cs ad h_pl h_pl_elements court_claimCount court_suitCount pl_holds pl_suit pl_size pl_elements (va_A (wl_X11_shoeFrom ad cs h_pl h_pl_elements court_shoeCount court_claimCount court_suitCount court_shoePerson court_shoeOther court_shoeSort court_shoeDay pl_holds pl_suit pl_size pl_elements) sz) R) 0 0 (va_A (wl_X11_shoeFrom ad cs h_pl h_pl_elements court_shoeCount court_claimCount court_suitCount court_shoePerson court_shoeOther court_shoeSort court_shoeDay pl_holds pl_suit pl_size pl_elements) sz) := by
  refine Met.ofW (cc := cX11_shoeFrom) (maxL := 7) (ret := (some .boolean)) (by decide) rfl ?_
  intro p e s m args below meth c s₁ B hml hv
  obtain ⟨rfl, ⟨hsz, hP, hK, hD0⟩, hO⟩ := hv
  subst hsz
  have hD := hD0.self (sz := s.heap.size)
  have C0 : zC p s m _ meth c cX11_shoeFrom 7 (some .boolean) RX11 zW := ⟨B.exec, B.bytes, B.returns, hml, findClass_of_methodNamed B.named, fun w hw => atoms_spec (ws := z_X11_shoeFrom) B.pre w (List.mem_cons_of_mem _ hw), B.notSynchronized⟩
  have hA : ∀ q : Nat, s.heap.size ≤ q → va_A (wl_X11_shoeFrom ad cs h_pl h_pl_elements court_shoeCount court_claimCount court_suitCount court_shoePerson court_shoeOther court_shoeSort court_shoeDay pl_holds pl_suit pl_size pl_elements) s.heap.size q := fun q h => Or.inr h
  have hl := lv_entry ([.ref (ad 0), .ref h_pl, .int x2]) (n := 7) (Nat.le_of_ble_eq_true rfl)
  rw [lg_entry_eq]
  generalize (lg_sl ([.ref (ad 0), .ref h_pl, .int x2]) ++ List.replicate (7 - (lg_sl ([.ref (ad 0), .ref h_pl, .int x2])).length) Slot.unset).toArray = ls at hl ⊢
  exact L_X11_shoeFrom_0 C0 hK hO hA   x2 court_shoeCount court_shoePerson court_shoeOther court_shoeSort court_shoeDay h s.heap [] ls hP hD va_S.rf hl
theorem kw_2 : Cond.selects RX11 yX11_placeAt yX11_placeAt ∈ zW := zwI (i := 2) (by decide +kernel) (by decide +kernel)
theorem kw_3 : Cond.selects RX11 yX11_shoeFrom yX11_shoeFrom ∈ zW := zwI (i := 3) (by decide +kernel) (by decide +kernel)
theorem kw_681 : Cond.fieldLink RX11 115 "AlreadyJudged$Place" "holds" "I" ∈ zW := zwC (i := 127) zc_3 rfl rfl
theorem kw_684 : Cond.fieldLink RX11 118 "AlreadyJudged$Place" "size" "I" ∈ zW := zwC (i := 130) zc_3 rfl rfl
theorem kw_748 : Cond.methodLink RX11 111 yX11_placeAt ∈ zW := zwC (i := 194) zc_3 rfl rfl
theorem kw_750 : Cond.instanceMethod yX11_placeAt ∈ zW := zwC (i := 196) zc_3 rfl rfl
theorem kw_751 : Cond.code yX11_placeAt cX11_placeAt 2 (some (.object "AlreadyJudged$Place")) ∈ zW := zwC (i := 197) zc_3 rfl rfl
theorem kw_752 : Cond.constantLong RX11 119 (4 : Int64) ∈ zW := zwC (i := 198) zc_3 rfl rfl
theorem kw_753 : Cond.methodLink RX11 121 yX11_shoeFrom ∈ zW := zwC (i := 199) zc_3 rfl rfl
theorem kw_755 : Cond.instanceMethod yX11_shoeFrom ∈ zW := zwC (i := 201) zc_3 rfl rfl
theorem kw_756 : Cond.code yX11_shoeFrom cX11_shoeFrom 7 (some .boolean) ∈ zW := zwC (i := 202) zc_3 rfl rfl
theorem zh_cX11_shoes_0 : zck [42, 27, 182, 0, 111, 58, 4, 25, 4, 198, 0, 14, 29, 4, 161, 0, 9, 29, 16, 15, 164, 0] (zdu 0 cX11_shoes.data.toList) = true := by decide +kernel
theorem dX11_shoes_0 : decode cX11_shoes 0 = .ok (.aload_n 0, 1) := zo_42 zh_cX11_shoes_0 0 rfl
theorem dX11_shoes_1 : decode cX11_shoes 1 = .ok (.iload_n 1, 1) := zo_27 zh_cX11_shoes_0 1 rfl
theorem dX11_shoes_2 : decode cX11_shoes 2 = .ok (.invokevirtual 111, 3) := zo_182 zh_cX11_shoes_0 2 rfl
theorem dX11_shoes_5 : decode cX11_shoes 5 = .ok (.astore 4, 2) := zo_58 zh_cX11_shoes_0 5 rfl
theorem dX11_shoes_7 : decode cX11_shoes 7 = .ok (.aload 4, 2) := zo_25 zh_cX11_shoes_0 7 rfl
theorem dX11_shoes_9 : decode cX11_shoes 9 = .ok (.ifnull 14, 3) := zo_p198 zh_cX11_shoes_0 9 14 rfl rfl
theorem dX11_shoes_12 : decode cX11_shoes 12 = .ok (.iload_n 3, 1) := zo_29 zh_cX11_shoes_0 12 rfl
theorem dX11_shoes_13 : decode cX11_shoes 13 = .ok (.iconst 1, 1) := zo_4 zh_cX11_shoes_0 13 rfl
theorem dX11_shoes_14 : decode cX11_shoes 14 = .ok (.if_icmp .lt 9, 3) := zo_p161 zh_cX11_shoes_0 14 9 rfl rfl
theorem dX11_shoes_17 : decode cX11_shoes 17 = .ok (.iload_n 3, 1) := zo_29 zh_cX11_shoes_0 17 rfl
theorem dX11_shoes_18 : decode cX11_shoes 18 = .ok (.bipush 15, 2) := zo_p16 zh_cX11_shoes_0 18 15 rfl rfl
theorem zh_cX11_shoes_1 : zck [164, 0, 5, 2, 172, 25, 4, 180, 0, 115, 2, 159, 0, 15, 25, 4, 180, 0, 115, 4, 159, 0] (zdu 20 cX11_shoes.data.toList) = true := by decide +kernel
theorem dX11_shoes_20 : decode cX11_shoes 20 = .ok (.if_icmp .le 5, 3) := zo_p164 zh_cX11_shoes_1 0 5 rfl rfl
theorem dX11_shoes_23 : decode cX11_shoes 23 = .ok (.iconst (-1), 1) := zo_2 zh_cX11_shoes_1 3 rfl
theorem dX11_shoes_24 : decode cX11_shoes 24 = .ok (.ireturn, 1) := zo_172 zh_cX11_shoes_1 4 rfl
theorem dX11_shoes_25 : decode cX11_shoes 25 = .ok (.aload 4, 2) := zo_25 zh_cX11_shoes_1 5 rfl
theorem dX11_shoes_27 : decode cX11_shoes 27 = .ok (.getfield 115, 3) := zo_180 zh_cX11_shoes_1 7 rfl
theorem dX11_shoes_30 : decode cX11_shoes 30 = .ok (.iconst (-1), 1) := zo_2 zh_cX11_shoes_1 10 rfl
theorem dX11_shoes_31 : decode cX11_shoes 31 = .ok (.if_icmp .eq 15, 3) := zo_p159 zh_cX11_shoes_1 11 15 rfl rfl
theorem dX11_shoes_34 : decode cX11_shoes 34 = .ok (.aload 4, 2) := zo_25 zh_cX11_shoes_1 14 rfl
theorem dX11_shoes_36 : decode cX11_shoes 36 = .ok (.getfield 115, 3) := zo_180 zh_cX11_shoes_1 16 rfl
theorem dX11_shoes_39 : decode cX11_shoes 39 = .ok (.iconst 1, 1) := zo_4 zh_cX11_shoes_1 19 rfl
theorem zh_cX11_shoes_2 : zck [159, 0, 6, 16, 244, 172, 25, 4, 180, 0, 115, 4, 160, 0, 11, 25, 4, 180, 0, 118, 167, 0] (zdu 40 cX11_shoes.data.toList) = true := by decide +kernel
theorem dX11_shoes_40 : decode cX11_shoes 40 = .ok (.if_icmp .eq 6, 3) := zo_p159 zh_cX11_shoes_2 0 6 rfl rfl
theorem dX11_shoes_43 : decode cX11_shoes 43 = .ok (.bipush (-12), 2) := zo_n16 zh_cX11_shoes_2 3 11 rfl rfl
theorem dX11_shoes_45 : decode cX11_shoes 45 = .ok (.ireturn, 1) := zo_172 zh_cX11_shoes_2 5 rfl
theorem dX11_shoes_46 : decode cX11_shoes 46 = .ok (.aload 4, 2) := zo_25 zh_cX11_shoes_2 6 rfl
theorem dX11_shoes_48 : decode cX11_shoes 48 = .ok (.getfield 115, 3) := zo_180 zh_cX11_shoes_2 8 rfl
theorem dX11_shoes_51 : decode cX11_shoes 51 = .ok (.iconst 1, 1) := zo_4 zh_cX11_shoes_2 11 rfl
theorem dX11_shoes_52 : decode cX11_shoes 52 = .ok (.if_icmp .ne 11, 3) := zo_p160 zh_cX11_shoes_2 12 11 rfl rfl
theorem dX11_shoes_55 : decode cX11_shoes 55 = .ok (.aload 4, 2) := zo_25 zh_cX11_shoes_2 15 rfl
theorem dX11_shoes_57 : decode cX11_shoes 57 = .ok (.getfield 118, 3) := zo_180 zh_cX11_shoes_2 17 rfl
theorem zh_cX11_shoes_3 : zck [167, 0, 4, 3, 54, 5, 3, 54, 6, 21, 6, 29, 162, 0, 49, 28, 155, 0, 45, 28, 133, 20] (zdu 60 cX11_shoes.data.toList) = true := by decide +kernel
theorem dX11_shoes_60 : decode cX11_shoes 60 = .ok (.goto 4, 3) := zo_p167 zh_cX11_shoes_3 0 4 rfl rfl
theorem dX11_shoes_63 : decode cX11_shoes 63 = .ok (.iconst 0, 1) := zo_3 zh_cX11_shoes_3 3 rfl
theorem dX11_shoes_64 : decode cX11_shoes 64 = .ok (.istore 5, 2) := zo_54 zh_cX11_shoes_3 4 rfl
theorem dX11_shoes_66 : decode cX11_shoes 66 = .ok (.iconst 0, 1) := zo_3 zh_cX11_shoes_3 6 rfl
theorem dX11_shoes_67 : decode cX11_shoes 67 = .ok (.istore 6, 2) := zo_54 zh_cX11_shoes_3 7 rfl
theorem dX11_shoes_69 : decode cX11_shoes 69 = .ok (.iload 6, 2) := zo_21 zh_cX11_shoes_3 9 rfl
theorem dX11_shoes_71 : decode cX11_shoes 71 = .ok (.iload_n 3, 1) := zo_29 zh_cX11_shoes_3 11 rfl
theorem dX11_shoes_72 : decode cX11_shoes 72 = .ok (.if_icmp .ge 49, 3) := zo_p162 zh_cX11_shoes_3 12 49 rfl rfl
theorem dX11_shoes_75 : decode cX11_shoes 75 = .ok (.iload_n 2, 1) := zo_28 zh_cX11_shoes_3 15 rfl
theorem dX11_shoes_76 : decode cX11_shoes 76 = .ok (.ifCond .lt 45, 3) := zo_p155 zh_cX11_shoes_3 16 45 rfl rfl
theorem dX11_shoes_79 : decode cX11_shoes 79 = .ok (.iload_n 2, 1) := zo_28 zh_cX11_shoes_3 19 rfl
theorem zh_cX11_shoes_4 : zck [133, 20, 0, 119, 21, 6, 133, 105, 97, 20, 0, 119, 97, 21, 5, 133, 148, 157, 0, 24, 42, 25] (zdu 80 cX11_shoes.data.toList) = true := by decide +kernel
theorem dX11_shoes_80 : decode cX11_shoes 80 = .ok (.i2l, 1) := zo_133 zh_cX11_shoes_4 0 rfl
theorem dX11_shoes_81 : decode cX11_shoes 81 = .ok (.ldc2_w 119, 3) := zo_20 zh_cX11_shoes_4 1 rfl
theorem dX11_shoes_84 : decode cX11_shoes 84 = .ok (.iload 6, 2) := zo_21 zh_cX11_shoes_4 4 rfl
theorem dX11_shoes_86 : decode cX11_shoes 86 = .ok (.i2l, 1) := zo_133 zh_cX11_shoes_4 6 rfl
theorem zo_105 {c : ByteArray} {s : Nat} {K : List Nat} (h : zck K (zdu s c.data.toList) = true) (k : Nat) (hk : zt1 K k 105 = true) : decode c (s + k) = .ok (.lmul, 1) := zde ((zbd (zu1 (zh1 h hk))).trans rfl)
theorem dX11_shoes_87 : decode cX11_shoes 87 = .ok (.lmul, 1) := zo_105 zh_cX11_shoes_4 7 rfl
theorem dX11_shoes_88 : decode cX11_shoes 88 = .ok (.ladd, 1) := zo_97 zh_cX11_shoes_4 8 rfl
theorem dX11_shoes_89 : decode cX11_shoes 89 = .ok (.ldc2_w 119, 3) := zo_20 zh_cX11_shoes_4 9 rfl
theorem dX11_shoes_92 : decode cX11_shoes 92 = .ok (.ladd, 1) := zo_97 zh_cX11_shoes_4 12 rfl
theorem dX11_shoes_93 : decode cX11_shoes 93 = .ok (.iload 5, 2) := zo_21 zh_cX11_shoes_4 13 rfl
theorem dX11_shoes_95 : decode cX11_shoes 95 = .ok (.i2l, 1) := zo_133 zh_cX11_shoes_4 15 rfl
theorem dX11_shoes_96 : decode cX11_shoes 96 = .ok (.lcmp, 1) := zo_148 zh_cX11_shoes_4 16 rfl
theorem dX11_shoes_97 : decode cX11_shoes 97 = .ok (.ifCond .gt 24, 3) := zo_p157 zh_cX11_shoes_4 17 24 rfl rfl
theorem zh_cX11_shoes_5 : zck [42, 25, 4, 28, 7, 21, 6, 104, 96, 182, 0, 121, 153, 0, 9, 132, 6, 1, 167, 255, 207, 21] (zdu 100 cX11_shoes.data.toList) = true := by decide +kernel
theorem dX11_shoes_100 : decode cX11_shoes 100 = .ok (.aload_n 0, 1) := zo_42 zh_cX11_shoes_5 0 rfl
theorem dX11_shoes_101 : decode cX11_shoes 101 = .ok (.aload 4, 2) := zo_25 zh_cX11_shoes_5 1 rfl
theorem dX11_shoes_103 : decode cX11_shoes 103 = .ok (.iload_n 2, 1) := zo_28 zh_cX11_shoes_5 3 rfl
theorem dX11_shoes_104 : decode cX11_shoes 104 = .ok (.iconst 4, 1) := zo_7 zh_cX11_shoes_5 4 rfl
theorem dX11_shoes_105 : decode cX11_shoes 105 = .ok (.iload 6, 2) := zo_21 zh_cX11_shoes_5 5 rfl
theorem dX11_shoes_107 : decode cX11_shoes 107 = .ok (.imul, 1) := zo_104 zh_cX11_shoes_5 7 rfl
theorem dX11_shoes_108 : decode cX11_shoes 108 = .ok (.iadd, 1) := zo_96 zh_cX11_shoes_5 8 rfl
theorem dX11_shoes_109 : decode cX11_shoes 109 = .ok (.invokevirtual 121, 3) := zo_182 zh_cX11_shoes_5 9 rfl
theorem dX11_shoes_112 : decode cX11_shoes 112 = .ok (.ifCond .eq 9, 3) := zo_p153 zh_cX11_shoes_5 12 9 rfl rfl
theorem dX11_shoes_115 : decode cX11_shoes 115 = .ok (.iinc 6 1, 3) := zo_p132 zh_cX11_shoes_5 15 1 rfl rfl
theorem dX11_shoes_118 : decode cX11_shoes 118 = .ok (.goto (-49), 3) := zo_n167 zh_cX11_shoes_5 18 48 rfl rfl
theorem zh_cX11_shoes_6 : zck [207, 21, 6, 172] (zdu 120 cX11_shoes.data.toList) = true := by decide +kernel
theorem dX11_shoes_121 : decode cX11_shoes 121 = .ok (.iload 6, 2) := zo_21 zh_cX11_shoes_6 1 rfl
theorem dX11_shoes_123 : decode cX11_shoes 123 = .ok (.ireturn, 1) := zo_172 zh_cX11_shoes_6 3 rfl
abbrev z_X11_shoes : List Cond := .code yX11_shoes cX11_shoes 7 (some .int) :: zW
abbrev wl_X11_shoes (ad : Nat → Nat) (cs : Nat → ClassId) (h_pl : Nat) (h_pl_elements : Nat) (root_places : Nat → Option Nat) (court_shoeCount : Int32) (court_claimCount : Int32) (court_suitCount : Int32) (court_shoePerson : Nat → Int32) (court_shoeOther : Nat → Int32) (court_shoeSort : Nat → Int32) (court_shoeDay : Nat → Int32) (pl_holds : Int32) (pl_suit : Int32) (pl_size : Int32) (pl_elements : Nat → Int64) : va_W := [((ad 0), .inr (11, [.ref (ad 4), .ref (ad 15), .ref (ad 23), .ref (ad 25), .ref (ad 26), .ref (ad 28), .ref (ad 34), .ref (ad 39), .ref (ad 1), .ref (ad 2), .ref (ad 3)])), ((ad 1), .inl (cs 7, 6, .inr (.inr (.inr (.inr root_places))))), ((ad 4), .inr (2, [.ref (ad 5), .ref (ad 6), .ref (ad 7), .ref (ad 8), .ref (ad 9), .ref (ad 10), .ref (ad 11), .ref (ad 12), .ref (ad 13), .ref (ad 14), .int court_shoeCount, .int court_claimCount, .int court_suitCount])), ((ad 5), .inl (cs 0, 40, .inl court_shoePerson)), ((ad 6), .inl (cs 0, 40, .inl court_shoeOther)), ((ad 7), .inl (cs 0, 40, .inl court_shoeSort)), ((ad 8), .inl (cs 0, 40, .inl court_shoeDay)), (h_pl, .inr (6, [.int pl_holds, .int pl_suit, .int pl_size, .ref h_pl_elements])), (h_pl_elements, .inl (cs 1, 60, .inr (.inl pl_elements)))]
def Q_X11_shoes (D : va_G) (cs : Nat → ClassId) (ad : Nat → Nat) (h_pl : Nat) (h_pl_elements : Nat) (root_places : Nat → Option Nat) (court_claimCount : Int32) (court_suitCount : Int32) (pl_holds : Int32) (pl_suit : Int32) (pl_size : Int32) (pl_elements : Nat → Int64) (A : Nat → Prop) (R : Int32 × Int32 × (Nat → Int32) × (Nat → Int32) × (Nat → Int32) × (Nat → Int32)) : Array Value → State → Outcome → State → Prop :=
  va_Qi (fun (r : Int32) (u : Int32 × (Nat → Int32) × (Nat → Int32) × (Nat → Int32) × (Nat → Int32)) => (r, u) = R) (fun (u : Int32 × (Nat → Int32) × (Nat → Int32) × (Nat → Int32) × (Nat → Int32)) (t : State) => va_P D classes (wl_X11_shoes ad cs h_pl h_pl_elements root_places u.1 court_claimCount court_suitCount u.2.1 u.2.2.1 u.2.2.2.1 u.2.2.2.2 pl_holds pl_suit pl_size pl_elements) t.heap ∧ va_D A (wl_X11_shoes ad cs h_pl h_pl_elements root_places u.1 court_claimCount court_suitCount u.2.1 u.2.2.1 u.2.2.2.1 u.2.2.2.2 pl_holds pl_suit pl_size pl_elements)) A
abbrev rm_X11_shoes : Room := { frames := 3, cells := 0, slots := 0, locals := 69 }
theorem g_X11_111 : GoodIn zW (wsV RX11 111 RX11 yX11_placeAt z_X11_placeAt) := zGV kw_748 kw_750 kw_2 kw_75 kw_751
theorem g_X11_121 : GoodIn zW (wsV RX11 121 RX11 yX11_shoeFrom z_X11_shoeFrom) := zGV kw_753 kw_755 kw_3 kw_75 kw_756
theorem hd_X11_placeAt : yX11_placeAt.cls ≠ "java/lang/invoke/MethodHandle" ∧ yX11_placeAt.cls ≠ "java/lang/invoke/VarHandle" ∧ (parseMethodDescriptor yX11_placeAt.desc).map (fun d => d.parameters.length) = some 1 := by decide +kernel
theorem hd_X11_shoeFrom : yX11_shoeFrom.cls ≠ "java/lang/invoke/MethodHandle" ∧ yX11_shoeFrom.cls ≠ "java/lang/invoke/VarHandle" ∧ (parseMethodDescriptor yX11_shoeFrom.desc).map (fun d => d.parameters.length) = some 2 := by decide +kernel
def B_X11_shoes_69 (h_pl : Nat)  (g69 : Int32 → Int32 → Int32 → Int32 → Int32 → (Nat → Int32) → (Nat → Int32) → (Nat → Int32) → (Nat → Int32) → (Option (Int32 × Int32 × (Nat → Int32) × (Nat → Int32) × (Nat → Int32) × (Nat → Int32)))) (root_places : Nat → Option Nat) (court_claimCount : Int32) (court_suitCount : Int32) (pl_holds : Int32) (pl_suit : Int32) (pl_size : Int32) (pl_elements : Nat → Int64) (x2 : Int32) (x3 : Int32) (x5 : Int32) (x6 : Int32) (court_shoeCount : Int32) (court_shoePerson : Nat → Int32) (court_shoeOther : Nat → Int32) (court_shoeSort : Nat → Int32) (court_shoeDay : Nat → Int32) : Option (Int32 × Int32 × (Nat → Int32) × (Nat → Int32) × (Nat → Int32) × (Nat → Int32)) :=
  (if x3 ≤ x6 then (some (x6, court_shoeCount, court_shoePerson, court_shoeOther, court_shoeSort, court_shoeDay)) else (if x2 < 0 then (some (x6, court_shoeCount, court_shoePerson, court_shoeOther, court_shoeSort, court_shoeDay)) else (if 0 < (lg_cmp ((x2.toInt64 + ((4 : Int64) * x6.toInt64)) + (4 : Int64)) x5.toInt64) then (some (x6, court_shoeCount, court_shoePerson, court_shoeOther, court_shoeSort, court_shoeDay)) else (zk_b6 (f_X11_shoeFrom (x2 + ((4 : Int32) * x6)) court_shoeCount court_claimCount court_suitCount court_shoePerson court_shoeOther court_shoeSort court_shoeDay pl_holds pl_suit pl_size pl_elements) (fun r_13 u_14 u_15 u_16 u_17 u_18 => (if r_13 = 0 then (some (x6, u_14, u_15, u_16, u_17, u_18)) else (zk_let (x6 + (1 : Int32)) (fun v_21 => (g69 x2 x3 x5 v_21 u_14 u_15 u_16 u_17 u_18)))))))))
def B_X11_shoes_64 (h_pl : Nat)  (g69 : Int32 → Int32 → Int32 → Int32 → Int32 → (Nat → Int32) → (Nat → Int32) → (Nat → Int32) → (Nat → Int32) → (Option (Int32 × Int32 × (Nat → Int32) × (Nat → Int32) × (Nat → Int32) × (Nat → Int32)))) (root_places : Nat → Option Nat) (court_claimCount : Int32) (court_suitCount : Int32) (pl_holds : Int32) (pl_suit : Int32) (pl_size : Int32) (pl_elements : Nat → Int64) (x2 : Int32) (x3 : Int32) (s0 : Int32) (court_shoeCount : Int32) (court_shoePerson : Nat → Int32) (court_shoeOther : Nat → Int32) (court_shoeSort : Nat → Int32) (court_shoeDay : Nat → Int32) : Option (Int32 × Int32 × (Nat → Int32) × (Nat → Int32) × (Nat → Int32) × (Nat → Int32)) :=
  (g69 x2 x3 s0 (0 : Int32) court_shoeCount court_shoePerson court_shoeOther court_shoeSort court_shoeDay)
def B_X11_shoes_46 (h_pl : Nat)  (g69 : Int32 → Int32 → Int32 → Int32 → Int32 → (Nat → Int32) → (Nat → Int32) → (Nat → Int32) → (Nat → Int32) → (Option (Int32 × Int32 × (Nat → Int32) × (Nat → Int32) × (Nat → Int32) × (Nat → Int32)))) (root_places : Nat → Option Nat) (court_claimCount : Int32) (court_suitCount : Int32) (pl_holds : Int32) (pl_suit : Int32) (pl_size : Int32) (pl_elements : Nat → Int64) (x2 : Int32) (x3 : Int32) (court_shoeCount : Int32) (court_shoePerson : Nat → Int32) (court_shoeOther : Nat → Int32) (court_shoeSort : Nat → Int32) (court_shoeDay : Nat → Int32) : Option (Int32 × Int32 × (Nat → Int32) × (Nat → Int32) × (Nat → Int32) × (Nat → Int32)) :=
  (if pl_holds = (1 : Int32) then (B_X11_shoes_64 h_pl g69 root_places court_claimCount court_suitCount pl_holds pl_suit pl_size pl_elements x2 x3 pl_size court_shoeCount court_shoePerson court_shoeOther court_shoeSort court_shoeDay) else (B_X11_shoes_64 h_pl g69 root_places court_claimCount court_suitCount pl_holds pl_suit pl_size pl_elements x2 x3 (0 : Int32) court_shoeCount court_shoePerson court_shoeOther court_shoeSort court_shoeDay))
def B_X11_shoes_0 (h_pl : Nat)  (g69 : Int32 → Int32 → Int32 → Int32 → Int32 → (Nat → Int32) → (Nat → Int32) → (Nat → Int32) → (Nat → Int32) → (Option (Int32 × Int32 × (Nat → Int32) × (Nat → Int32) × (Nat → Int32) × (Nat → Int32)))) (root_places : Nat → Option Nat) (court_claimCount : Int32) (court_suitCount : Int32) (pl_holds : Int32) (pl_suit : Int32) (pl_size : Int32) (pl_elements : Nat → Int64) (x1 : Int32) (x2 : Int32) (x3 : Int32) (court_shoeCount : Int32) (court_shoePerson : Nat → Int32) (court_shoeOther : Nat → Int32) (court_shoeSort : Nat → Int32) (court_shoeDay : Nat → Int32) : Option (Int32 × Int32 × (Nat → Int32) × (Nat → Int32) × (Nat → Int32) × (Nat → Int32)) :=
  (zk_b2 (f_X11_placeAt h_pl x1 root_places pl_holds pl_suit pl_size) (fun r_1 u_2 => (if r_1 = true then (if x3 < (1 : Int32) then (some ((-1 : Int32), court_shoeCount, court_shoePerson, court_shoeOther, court_shoeSort, court_shoeDay)) else (if x3 ≤ (15 : Int32) then (if pl_holds = (-1 : Int32) then (B_X11_shoes_46 h_pl g69 root_places court_claimCount court_suitCount pl_holds pl_suit pl_size pl_elements x2 x3 court_shoeCount court_shoePerson court_shoeOther court_shoeSort court_shoeDay) else (if pl_holds = (1 : Int32) then (B_X11_shoes_46 h_pl g69 root_places court_claimCount court_suitCount pl_holds pl_suit pl_size pl_elements x2 x3 court_shoeCount court_shoePerson court_shoeOther court_shoeSort court_shoeDay) else (some ((-12 : Int32), court_shoeCount, court_shoePerson, court_shoeOther, court_shoeSort, court_shoeDay)))) else (some ((-1 : Int32), court_shoeCount, court_shoePerson, court_shoeOther, court_shoeSort, court_shoeDay)))) else (some ((-1 : Int32), court_shoeCount, court_shoePerson, court_shoeOther, court_shoeSort, court_shoeDay)))))
def G_X11_shoes (h_pl : Nat)  (root_places : Nat → Option Nat) (court_claimCount : Int32) (court_suitCount : Int32) (pl_holds : Int32) (pl_suit : Int32) (pl_size : Int32) (pl_elements : Nat → Int64) (n : Nat) : (Int32 → Int32 → Int32 → Int32 → Int32 → (Nat → Int32) → (Nat → Int32) → (Nat → Int32) → (Nat → Int32) → (Option (Int32 × Int32 × (Nat → Int32) × (Nat → Int32) × (Nat → Int32) × (Nat → Int32)))) :=
  Nat.rec (motive := fun _ => (Int32 → Int32 → Int32 → Int32 → Int32 → (Nat → Int32) → (Nat → Int32) → (Nat → Int32) → (Nat → Int32) → (Option (Int32 × Int32 × (Nat → Int32) × (Nat → Int32) × (Nat → Int32) × (Nat → Int32))))) ((fun _ _ _ _ _ _ _ _ _ => none)) (fun _ ih => (B_X11_shoes_69 h_pl  ih root_places court_claimCount court_suitCount pl_holds pl_suit pl_size pl_elements)) n
def f_X11_shoes (h_pl : Nat)  (n : Nat) (x1 : Int32) (x2 : Int32) (x3 : Int32) (root_places : Nat → Option Nat) (court_shoeCount : Int32) (court_claimCount : Int32) (court_suitCount : Int32) (court_shoePerson : Nat → Int32) (court_shoeOther : Nat → Int32) (court_shoeSort : Nat → Int32) (court_shoeDay : Nat → Int32) (pl_holds : Int32) (pl_suit : Int32) (pl_size : Int32) (pl_elements : Nat → Int64) : Option (Int32 × Int32 × (Nat → Int32) × (Nat → Int32) × (Nat → Int32) × (Nat → Int32)) := B_X11_shoes_0 h_pl  ((G_X11_shoes h_pl  root_places court_claimCount court_suitCount pl_holds pl_suit pl_size pl_elements n)) root_places court_claimCount court_suitCount pl_holds pl_suit pl_size pl_elements x1 x2 x3 court_shoeCount court_shoePerson court_shoeOther court_shoeSort court_shoeDay
set_option maxHeartbeats 4000000 in
set_option maxRecDepth 100000 in
theorem L_X11_shoes_69 {p : Program} {l : Launch} {e : Env} {s : State} {m : MethodId} {args : Array Value} {below : List Frame} {meth : Method} {c : Code} {A : Nat → Prop} {D : va_G} {cs : Nat → ClassId} {ad : Nat → Nat} {h_pl : Nat} {h_pl_elements : Nat} {root_places : Nat → Option Nat} {court_claimCount : Int32} {court_suitCount : Int32} {pl_holds : Int32} {pl_suit : Int32} {pl_size : Int32} {pl_elements : Nat → Int64} {R : Int32 × Int32 × (Nat → Int32) × (Nat → Int32) × (Nat → Int32) × (Nat → Int32)} {g69 : Int32 → Int32 → Int32 → Int32 → Int32 → (Nat → Int32) → (Nat → Int32) → (Nat → Int32) → (Nat → Int32) → (Option (Int32 × Int32 × (Nat → Int32) × (Nat → Int32) × (Nat → Int32) × (Nat → Int32)))} (C0 : zC p s m args meth c cX11_shoes 7 (some .int) RX11 zW) (hK : va_K D classes (zT cs) s) (hO : zO s) (hA : ∀ q : Nat, s.heap.size ≤ q → A q) (ih69 : ∀ (x2 : Int32) (x3 : Int32) (x5 : Int32) (x6 : Int32) (court_shoeCount : Int32) (court_shoePerson : Nat → Int32) (court_shoeOther : Nat → Int32) (court_shoeSort : Nat → Int32) (court_shoeDay : Nat → Int32) (h : g69 x2 x3 x5 x6 court_shoeCount court_shoePerson court_shoeOther court_shoeSort court_shoeDay = some R) (H : Heap) (locs : List Loc) (ls : Array Slot) (hP : va_P D classes (wl_X11_shoes ad cs h_pl h_pl_elements root_places court_shoeCount court_claimCount court_suitCount court_shoePerson court_shoeOther court_shoeSort court_shoeDay pl_holds pl_suit pl_size pl_elements) H) (hD : va_D A (wl_X11_shoes ad cs h_pl h_pl_elements root_places court_shoeCount court_claimCount court_suitCount court_shoePerson court_shoeOther court_shoeSort court_shoeDay pl_holds pl_suit pl_size pl_elements)) (hS : va_S A s.heap H locs) (hl : lv_has ls 7 [(0, .ref (ad 0)), (2, .int x2), (3, .int x3), (4, .ref h_pl), (5, .int x5), (6, .int x6)]), W p l e rm_X11_shoes s m args below meth c H locs 0 0 (MQ below (Q_X11_shoes D cs ad h_pl h_pl_elements root_places court_claimCount court_suitCount pl_holds pl_suit pl_size pl_elements A R) args s 0 0 A) (F0 m 69 ls [])) (x2 : Int32) (x3 : Int32) (x5 : Int32) (x6 : Int32) (court_shoeCount : Int32) (court_shoePerson : Nat → Int32) (court_shoeOther : Nat → Int32) (court_shoeSort : Nat → Int32) (court_shoeDay : Nat → Int32) (h : B_X11_shoes_69 h_pl g69 root_places court_claimCount court_suitCount pl_holds pl_suit pl_size pl_elements x2 x3 x5 x6 court_shoeCount court_shoePerson court_shoeOther court_shoeSort court_shoeDay = some R) (H : Heap) (locs : List Loc) (ls : Array Slot) (hP : va_P D classes (wl_X11_shoes ad cs h_pl h_pl_elements root_places court_shoeCount court_claimCount court_suitCount court_shoePerson court_shoeOther court_shoeSort court_shoeDay pl_holds pl_suit pl_size pl_elements) H) (hD : va_D A (wl_X11_shoes ad cs h_pl h_pl_elements root_places court_shoeCount court_claimCount court_suitCount court_shoePerson court_shoeOther court_shoeSort court_shoeDay pl_holds pl_suit pl_size pl_elements)) (hS : va_S A s.heap H locs) (hl : lv_has ls 7 [(0, .ref (ad 0)), (2, .int x2), (3, .int x3), (4, .ref h_pl), (5, .int x5), (6, .int x6)]) : W p l e rm_X11_shoes s m args below meth c H locs 0 0 (MQ below (Q_X11_shoes D cs ad h_pl h_pl_elements root_places court_claimCount court_suitCount pl_holds pl_suit pl_size pl_elements A R) args s 0 0 A) (F0 m 69 ls []) := by
  obtain ⟨hx, hb, hr, hml, hown, ht, hlocks⟩ := id C0
  refine lv_iload hx hb dX11_shoes_69 (lv_at hl 5 rfl) ?_
  refine lv_iload_n hx hb dX11_shoes_71 rfl (lv_at hl 2 rfl) ?_
  refine lv_icmp_ge (tgt := 121) hx hb dX11_shoes_72 (by decide) (fun c_10 => ?_) (fun c_10 => ?_)
  · have h := zk_t c_10 h
    refine lv_iload hx hb dX11_shoes_121 (lv_at hl 5 rfl) ?_
    exact W.iret (v := x6) hx hb hr (fun t ht2 hW => ⟨⟨x6, (court_shoeCount, court_shoePerson, court_shoeOther, court_shoeSort, court_shoeDay), rfl, Option.some.inj h, by rw [ht2]; exact hP, hD⟩, hS.F ht2⟩) hS.2.2 dX11_shoes_123 hlocks
  · have h := zk_f c_10 h
    refine lv_iload_n hx hb dX11_shoes_75 rfl (lv_at hl 1 rfl) ?_
    refine lv_if_lt (tgt := 121) hx hb dX11_shoes_76 (by decide) (fun c_11 => ?_) (fun c_11 => ?_)
    · have h := zk_t c_11 h
      refine lv_iload hx hb dX11_shoes_121 (lv_at hl 5 rfl) ?_
      exact W.iret (v := x6) hx hb hr (fun t ht2 hW => ⟨⟨x6, (court_shoeCount, court_shoePerson, court_shoeOther, court_shoeSort, court_shoeDay), rfl, Option.some.inj h, by rw [ht2]; exact hP, hD⟩, hS.F ht2⟩) hS.2.2 dX11_shoes_123 hlocks
    · have h := zk_f c_11 h
      refine lv_iload_n hx hb dX11_shoes_79 rfl (lv_at hl 1 rfl) ?_
      refine lv_i2l (v := x2.toInt64) hx hb dX11_shoes_80 rfl ?_
      refine lv_ldc2 (v := (4 : Int64)) hx hb hown (ht _ kw_752) dX11_shoes_81 ?_
      refine lv_iload hx hb dX11_shoes_84 (lv_at hl 5 rfl) ?_
      refine lv_i2l (v := x6.toInt64) hx hb dX11_shoes_86 rfl ?_
      refine lv_lmul hx hb dX11_shoes_87 ?_
      refine lv_ladd hx hb dX11_shoes_88 ?_
      refine lv_ldc2 (v := (4 : Int64)) hx hb hown (ht _ kw_752) dX11_shoes_89 ?_
      refine lv_ladd hx hb dX11_shoes_92 ?_
      refine lv_iload hx hb dX11_shoes_93 (lv_at hl 4 rfl) ?_
      refine lv_i2l (v := x5.toInt64) hx hb dX11_shoes_95 rfl ?_
      refine W.lcmp hx hb dX11_shoes_96 ?_
      refine lv_if_gt (tgt := 121) hx hb dX11_shoes_97 (by decide) (fun c_12 => ?_) (fun c_12 => ?_)
      · have h := zk_t c_12 h
        refine lv_iload hx hb dX11_shoes_121 (lv_at hl 5 rfl) ?_
        exact W.iret (v := x6) hx hb hr (fun t ht2 hW => ⟨⟨x6, (court_shoeCount, court_shoePerson, court_shoeOther, court_shoeSort, court_shoeDay), rfl, Option.some.inj h, by rw [ht2]; exact hP, hD⟩, hS.F ht2⟩) hS.2.2 dX11_shoes_123 hlocks
      · have h := zk_f c_12 h
        refine lv_aload_n hx hb dX11_shoes_100 rfl (lv_at hl 0 rfl) ?_
        refine lv_aload hx hb dX11_shoes_101 (lv_at hl 3 rfl) ?_
        refine lv_iload_n hx hb dX11_shoes_103 rfl (lv_at hl 1 rfl) ?_
        refine lv_iconst (v := (4 : Int32)) hx hb dX11_shoes_104 (by decide) ?_
        refine lv_iload hx hb dX11_shoes_105 (lv_at hl 5 rfl) ?_
        refine lv_imul hx hb dX11_shoes_107 ?_
        refine lv_iadd hx hb dX11_shoes_108 ?_
        obtain ⟨r_13, u_14, u_15, u_16, u_17, u_18, hc_19, h⟩ := zk_o6 h
        refine zz_viO (post := (fun r u => (r, u) = (r_13, u_14, u_15, u_16, u_17, u_18))) (w1 := fun u => (wl_X11_shoeFrom ad cs h_pl h_pl_elements u.1 court_claimCount court_suitCount u.2.1 u.2.2.1 u.2.2.2.1 u.2.2.2.2 pl_holds pl_suit pl_size pl_elements)) (As := [.ref h_pl, .int (x2 + ((4 : Int32) * x6))]) (rest := []) hO (c_X11_shoeFrom l D cs ad h_pl h_pl_elements H.size (x2 + ((4 : Int32) * x6)) court_shoeCount court_claimCount court_suitCount court_shoePerson court_shoeOther court_shoeSort court_shoeDay pl_holds pl_suit pl_size pl_elements (r_13, u_14, u_15, u_16, u_17, u_18) hc_19) ⟨hx, hb, hml, hown, ht⟩ (cwV 2 ht g_X11_121 rfl rfl rfl ⟨rfl, hd_X11_shoeFrom⟩ ⟨Nat.le_of_ble_eq_true rfl, Nat.le_of_ble_eq_true rfl⟩) (va_recv hK hP (ci := 11) (q0 := 0) rfl rfl) hP hD hS hK hA [0, 2, 3, 4, 5, 6, 7, 8] rfl rfl [(ad 0), (ad 4), (ad 5), (ad 6), (ad 7), (ad 8), h_pl, h_pl_elements] rfl (fun _ => rfl) rfl hl.1 (Nat.le_of_ble_eq_true rfl) dX11_shoes_109 ⟨Nat.zero_le _, Nat.zero_le _⟩ (fun r u H locs hq hP hS => ?_)
        cases hq
        have hP : va_P D classes (wl_X11_shoes ad cs h_pl h_pl_elements root_places u_14 court_claimCount court_suitCount u_15 u_16 u_17 u_18 pl_holds pl_suit pl_size pl_elements) H := hP
        have hD : va_D A (wl_X11_shoes ad cs h_pl h_pl_elements root_places u_14 court_claimCount court_suitCount u_15 u_16 u_17 u_18 pl_holds pl_suit pl_size pl_elements) := zDk hD [(ad 0), (ad 1), (ad 4), (ad 5), (ad 6), (ad 7), (ad 8), h_pl, h_pl_elements] rfl rfl
        refine lv_if_eq (tgt := 121) hx hb dX11_shoes_112 (by decide) (fun c_20 => ?_) (fun c_20 => ?_)
        · have h := zk_t c_20 h
          refine lv_iload hx hb dX11_shoes_121 (lv_at hl 5 rfl) ?_
          exact W.iret (v := x6) hx hb hr (fun t ht2 hW => ⟨⟨x6, (u_14, u_15, u_16, u_17, u_18), rfl, Option.some.inj h, by rw [ht2]; exact hP, hD⟩, hS.F ht2⟩) hS.2.2 dX11_shoes_123 hlocks
        · have h := zk_f c_20 h
          obtain ⟨v_21, ev_21, h⟩ := zk_lt h
          refine lv_iinc (v := v_21) (lv' := [(6, .int v_21), (0, .ref (ad 0)), (2, .int x2), (3, .int x3), (4, .ref h_pl), (5, .int x5)]) hx hb dX11_shoes_115 hl (k := 5) rfl (by rw [ev_21]; rfl) (by decide) rfl (fun ls hl => ?_)
          refine lv_goto (tgt := 69) hx hb dX11_shoes_118 (by decide) ?_
          exact ih69 x2 x3 x5 v_21 u_14 u_15 u_16 u_17 u_18 h H locs ls hP hD hS (lv_sub hl [1, 2, 3, 4, 5, 0] rfl)
set_option maxHeartbeats 4000000 in
set_option maxRecDepth 100000 in
theorem L_X11_shoes_64 {p : Program} {l : Launch} {e : Env} {s : State} {m : MethodId} {args : Array Value} {below : List Frame} {meth : Method} {c : Code} {A : Nat → Prop} {D : va_G} {cs : Nat → ClassId} {ad : Nat → Nat} {h_pl : Nat} {h_pl_elements : Nat} {root_places : Nat → Option Nat} {court_claimCount : Int32} {court_suitCount : Int32} {pl_holds : Int32} {pl_suit : Int32} {pl_size : Int32} {pl_elements : Nat → Int64} {R : Int32 × Int32 × (Nat → Int32) × (Nat → Int32) × (Nat → Int32) × (Nat → Int32)} {g69 : Int32 → Int32 → Int32 → Int32 → Int32 → (Nat → Int32) → (Nat → Int32) → (Nat → Int32) → (Nat → Int32) → (Option (Int32 × Int32 × (Nat → Int32) × (Nat → Int32) × (Nat → Int32) × (Nat → Int32)))} (C0 : zC p s m args meth c cX11_shoes 7 (some .int) RX11 zW) (hK : va_K D classes (zT cs) s) (hO : zO s) (hA : ∀ q : Nat, s.heap.size ≤ q → A q) (ih69 : ∀ (x2 : Int32) (x3 : Int32) (x5 : Int32) (x6 : Int32) (court_shoeCount : Int32) (court_shoePerson : Nat → Int32) (court_shoeOther : Nat → Int32) (court_shoeSort : Nat → Int32) (court_shoeDay : Nat → Int32) (h : g69 x2 x3 x5 x6 court_shoeCount court_shoePerson court_shoeOther court_shoeSort court_shoeDay = some R) (H : Heap) (locs : List Loc) (ls : Array Slot) (hP : va_P D classes (wl_X11_shoes ad cs h_pl h_pl_elements root_places court_shoeCount court_claimCount court_suitCount court_shoePerson court_shoeOther court_shoeSort court_shoeDay pl_holds pl_suit pl_size pl_elements) H) (hD : va_D A (wl_X11_shoes ad cs h_pl h_pl_elements root_places court_shoeCount court_claimCount court_suitCount court_shoePerson court_shoeOther court_shoeSort court_shoeDay pl_holds pl_suit pl_size pl_elements)) (hS : va_S A s.heap H locs) (hl : lv_has ls 7 [(0, .ref (ad 0)), (2, .int x2), (3, .int x3), (4, .ref h_pl), (5, .int x5), (6, .int x6)]), W p l e rm_X11_shoes s m args below meth c H locs 0 0 (MQ below (Q_X11_shoes D cs ad h_pl h_pl_elements root_places court_claimCount court_suitCount pl_holds pl_suit pl_size pl_elements A R) args s 0 0 A) (F0 m 69 ls [])) (x2 : Int32) (x3 : Int32) (s0 : Int32) (court_shoeCount : Int32) (court_shoePerson : Nat → Int32) (court_shoeOther : Nat → Int32) (court_shoeSort : Nat → Int32) (court_shoeDay : Nat → Int32) (h : B_X11_shoes_64 h_pl g69 root_places court_claimCount court_suitCount pl_holds pl_suit pl_size pl_elements x2 x3 s0 court_shoeCount court_shoePerson court_shoeOther court_shoeSort court_shoeDay = some R) (H : Heap) (locs : List Loc) (ls : Array Slot) (hP : va_P D classes (wl_X11_shoes ad cs h_pl h_pl_elements root_places court_shoeCount court_claimCount court_suitCount court_shoePerson court_shoeOther court_shoeSort court_shoeDay pl_holds pl_suit pl_size pl_elements) H) (hD : va_D A (wl_X11_shoes ad cs h_pl h_pl_elements root_places court_shoeCount court_claimCount court_suitCount court_shoePerson court_shoeOther court_shoeSort court_shoeDay pl_holds pl_suit pl_size pl_elements)) (hS : va_S A s.heap H locs) (hl : lv_has ls 7 [(0, .ref (ad 0)), (2, .int x2), (3, .int x3), (4, .ref h_pl)]) : W p l e rm_X11_shoes s m args below meth c H locs 0 0 (MQ below (Q_X11_shoes D cs ad h_pl h_pl_elements root_places court_claimCount court_suitCount pl_holds pl_suit pl_size pl_elements A R) args s 0 0 A) (F0 m 64 ls [.int s0]) := by
  obtain ⟨hx, hb, hr, hml, hown, ht, hlocks⟩ := id C0
  refine lv_istore (lv' := [(5, .int s0), (0, .ref (ad 0)), (2, .int x2), (3, .int x3), (4, .ref h_pl)]) hx hb dX11_shoes_64 hl (by decide) rfl (fun ls hl => ?_)
  refine lv_iconst (v := (0 : Int32)) hx hb dX11_shoes_66 (by decide) ?_
  refine lv_istore (lv' := [(6, .int (0 : Int32)), (5, .int s0), (0, .ref (ad 0)), (2, .int x2), (3, .int x3), (4, .ref h_pl)]) hx hb dX11_shoes_67 hl (by decide) rfl (fun ls hl => ?_)
  exact ih69 x2 x3 s0 (0 : Int32) court_shoeCount court_shoePerson court_shoeOther court_shoeSort court_shoeDay h H locs ls hP hD hS (lv_sub hl [2, 3, 4, 5, 1, 0] rfl)
set_option maxHeartbeats 4000000 in
set_option maxRecDepth 100000 in
theorem L_X11_shoes_46 {p : Program} {l : Launch} {e : Env} {s : State} {m : MethodId} {args : Array Value} {below : List Frame} {meth : Method} {c : Code} {A : Nat → Prop} {D : va_G} {cs : Nat → ClassId} {ad : Nat → Nat} {h_pl : Nat} {h_pl_elements : Nat} {root_places : Nat → Option Nat} {court_claimCount : Int32} {court_suitCount : Int32} {pl_holds : Int32} {pl_suit : Int32} {pl_size : Int32} {pl_elements : Nat → Int64} {R : Int32 × Int32 × (Nat → Int32) × (Nat → Int32) × (Nat → Int32) × (Nat → Int32)} {g69 : Int32 → Int32 → Int32 → Int32 → Int32 → (Nat → Int32) → (Nat → Int32) → (Nat → Int32) → (Nat → Int32) → (Option (Int32 × Int32 × (Nat → Int32) × (Nat → Int32) × (Nat → Int32) × (Nat → Int32)))} (C0 : zC p s m args meth c cX11_shoes 7 (some .int) RX11 zW) (hK : va_K D classes (zT cs) s) (hO : zO s) (hA : ∀ q : Nat, s.heap.size ≤ q → A q) (ih69 : ∀ (x2 : Int32) (x3 : Int32) (x5 : Int32) (x6 : Int32) (court_shoeCount : Int32) (court_shoePerson : Nat → Int32) (court_shoeOther : Nat → Int32) (court_shoeSort : Nat → Int32) (court_shoeDay : Nat → Int32) (h : g69 x2 x3 x5 x6 court_shoeCount court_shoePerson court_shoeOther court_shoeSort court_shoeDay = some R) (H : Heap) (locs : List Loc) (ls : Array Slot) (hP : va_P D classes (wl_X11_shoes ad cs h_pl h_pl_elements root_places court_shoeCount court_claimCount court_suitCount court_shoePerson court_shoeOther court_shoeSort court_shoeDay pl_holds pl_suit pl_size pl_elements) H) (hD : va_D A (wl_X11_shoes ad cs h_pl h_pl_elements root_places court_shoeCount court_claimCount court_suitCount court_shoePerson court_shoeOther court_shoeSort court_shoeDay pl_holds pl_suit pl_size pl_elements)) (hS : va_S A s.heap H locs) (hl : lv_has ls 7 [(0, .ref (ad 0)), (2, .int x2), (3, .int x3), (4, .ref h_pl), (5, .int x5), (6, .int x6)]), W p l e rm_X11_shoes s m args below meth c H locs 0 0 (MQ below (Q_X11_shoes D cs ad h_pl h_pl_elements root_places court_claimCount court_suitCount pl_holds pl_suit pl_size pl_elements A R) args s 0 0 A) (F0 m 69 ls [])) (x2 : Int32) (x3 : Int32) (court_shoeCount : Int32) (court_shoePerson : Nat → Int32) (court_shoeOther : Nat → Int32) (court_shoeSort : Nat → Int32) (court_shoeDay : Nat → Int32) (h : B_X11_shoes_46 h_pl g69 root_places court_claimCount court_suitCount pl_holds pl_suit pl_size pl_elements x2 x3 court_shoeCount court_shoePerson court_shoeOther court_shoeSort court_shoeDay = some R) (H : Heap) (locs : List Loc) (ls : Array Slot) (hP : va_P D classes (wl_X11_shoes ad cs h_pl h_pl_elements root_places court_shoeCount court_claimCount court_suitCount court_shoePerson court_shoeOther court_shoeSort court_shoeDay pl_holds pl_suit pl_size pl_elements) H) (hD : va_D A (wl_X11_shoes ad cs h_pl h_pl_elements root_places court_shoeCount court_claimCount court_suitCount court_shoePerson court_shoeOther court_shoeSort court_shoeDay pl_holds pl_suit pl_size pl_elements)) (hS : va_S A s.heap H locs) (hl : lv_has ls 7 [(0, .ref (ad 0)), (2, .int x2), (3, .int x3), (4, .ref h_pl)]) : W p l e rm_X11_shoes s m args below meth c H locs 0 0 (MQ below (Q_X11_shoes D cs ad h_pl h_pl_elements root_places court_claimCount court_suitCount pl_holds pl_suit pl_size pl_elements A R) args s 0 0 A) (F0 m 46 ls []) := by
  obtain ⟨hx, hb, hr, hml, hown, ht, hlocks⟩ := id C0
  refine lv_aload hx hb dX11_shoes_46 (lv_at hl 3 rfl) ?_
  refine va_get (D := D) (ci := 6) (v := .int pl_holds) (C := RX6) (T := TX6) (N := 4) hx hb ht iX6 hown hK hP 7 rfl rfl 0 (by decide) (ht _ kw_681) (fun _ h9 => h9) rfl dX11_shoes_48 ?_
  refine lv_iconst (v := (1 : Int32)) hx hb dX11_shoes_51 (by decide) ?_
  refine lv_icmp_ne (tgt := 63) hx hb dX11_shoes_52 (by decide) (fun c_9 => ?_) (fun c_9 => ?_)
  · have h := zk_f c_9 h
    refine lv_iconst (v := (0 : Int32)) hx hb dX11_shoes_63 (by decide) ?_
    exact L_X11_shoes_64 C0 hK hO hA  ih69 x2 x3 (0 : Int32) court_shoeCount court_shoePerson court_shoeOther court_shoeSort court_shoeDay h H locs ls hP hD hS (lv_sub hl [0, 1, 2, 3] rfl)
  · have h := zk_t c_9 h
    refine lv_aload hx hb dX11_shoes_55 (lv_at hl 3 rfl) ?_
    refine va_get (D := D) (ci := 6) (v := .int pl_size) (C := RX6) (T := TX6) (N := 4) hx hb ht iX6 hown hK hP 7 rfl rfl 2 (by decide) (ht _ kw_684) (fun _ h9 => h9) rfl dX11_shoes_57 ?_
    refine lv_goto (tgt := 64) hx hb dX11_shoes_60 (by decide) ?_
    exact L_X11_shoes_64 C0 hK hO hA  ih69 x2 x3 pl_size court_shoeCount court_shoePerson court_shoeOther court_shoeSort court_shoeDay h H locs ls hP hD hS (lv_sub hl [0, 1, 2, 3] rfl)
set_option maxHeartbeats 4000000 in
set_option maxRecDepth 100000 in
theorem L_X11_shoes_0 {p : Program} {l : Launch} {e : Env} {s : State} {m : MethodId} {args : Array Value} {below : List Frame} {meth : Method} {c : Code} {A : Nat → Prop} {D : va_G} {cs : Nat → ClassId} {ad : Nat → Nat} {h_pl : Nat} {h_pl_elements : Nat} {root_places : Nat → Option Nat} {court_claimCount : Int32} {court_suitCount : Int32} {pl_holds : Int32} {pl_suit : Int32} {pl_size : Int32} {pl_elements : Nat → Int64} {R : Int32 × Int32 × (Nat → Int32) × (Nat → Int32) × (Nat → Int32) × (Nat → Int32)} {g69 : Int32 → Int32 → Int32 → Int32 → Int32 → (Nat → Int32) → (Nat → Int32) → (Nat → Int32) → (Nat → Int32) → (Option (Int32 × Int32 × (Nat → Int32) × (Nat → Int32) × (Nat → Int32) × (Nat → Int32)))} (C0 : zC p s m args meth c cX11_shoes 7 (some .int) RX11 zW) (hK : va_K D classes (zT cs) s) (hO : zO s) (hA : ∀ q : Nat, s.heap.size ≤ q → A q) (ih69 : ∀ (x2 : Int32) (x3 : Int32) (x5 : Int32) (x6 : Int32) (court_shoeCount : Int32) (court_shoePerson : Nat → Int32) (court_shoeOther : Nat → Int32) (court_shoeSort : Nat → Int32) (court_shoeDay : Nat → Int32) (h : g69 x2 x3 x5 x6 court_shoeCount court_shoePerson court_shoeOther court_shoeSort court_shoeDay = some R) (H : Heap) (locs : List Loc) (ls : Array Slot) (hP : va_P D classes (wl_X11_shoes ad cs h_pl h_pl_elements root_places court_shoeCount court_claimCount court_suitCount court_shoePerson court_shoeOther court_shoeSort court_shoeDay pl_holds pl_suit pl_size pl_elements) H) (hD : va_D A (wl_X11_shoes ad cs h_pl h_pl_elements root_places court_shoeCount court_claimCount court_suitCount court_shoePerson court_shoeOther court_shoeSort court_shoeDay pl_holds pl_suit pl_size pl_elements)) (hS : va_S A s.heap H locs) (hl : lv_has ls 7 [(0, .ref (ad 0)), (2, .int x2), (3, .int x3), (4, .ref h_pl), (5, .int x5), (6, .int x6)]), W p l e rm_X11_shoes s m args below meth c H locs 0 0 (MQ below (Q_X11_shoes D cs ad h_pl h_pl_elements root_places court_claimCount court_suitCount pl_holds pl_suit pl_size pl_elements A R) args s 0 0 A) (F0 m 69 ls [])) (x1 : Int32) (x2 : Int32) (x3 : Int32) (court_shoeCount : Int32) (court_shoePerson : Nat → Int32) (court_shoeOther : Nat → Int32) (court_shoeSort : Nat → Int32) (court_shoeDay : Nat → Int32) (h : B_X11_shoes_0 h_pl g69 root_places court_claimCount court_suitCount pl_holds pl_suit pl_size pl_elements x1 x2 x3 court_shoeCount court_shoePerson court_shoeOther court_shoeSort court_shoeDay = some R) (H : Heap) (locs : List Loc) (ls : Array Slot) (hP : va_P D classes (wl_X11_shoes ad cs h_pl h_pl_elements root_places court_shoeCount court_claimCount court_suitCount court_shoePerson court_shoeOther court_shoeSort court_shoeDay pl_holds pl_suit pl_size pl_elements) H) (hD : va_D A (wl_X11_shoes ad cs h_pl h_pl_elements root_places court_shoeCount court_claimCount court_suitCount court_shoePerson court_shoeOther court_shoeSort court_shoeDay pl_holds pl_suit pl_size pl_elements)) (hS : va_S A s.heap H locs) (hl : lv_has ls 7 [(0, .ref (ad 0)), (1, .int x1), (2, .int x2), (3, .int x3)]) : W p l e rm_X11_shoes s m args below meth c H locs 0 0 (MQ below (Q_X11_shoes D cs ad h_pl h_pl_elements root_places court_claimCount court_suitCount pl_holds pl_suit pl_size pl_elements A R) args s 0 0 A) (F0 m 0 ls []) := by
  obtain ⟨hx, hb, hr, hml, hown, ht, hlocks⟩ := id C0
  refine lv_aload_n hx hb dX11_shoes_0 rfl (lv_at hl 0 rfl) ?_
  refine lv_iload_n hx hb dX11_shoes_1 rfl (lv_at hl 1 rfl) ?_
  obtain ⟨r_1, u_2, hc_3, h⟩ := zk_o2 h
  refine zz_vq (post := (fun r u => r = (if r_1 = true then some h_pl else none) ∧ u = (u_2))) (w1 := fun u => (wl_X11_placeAt ad cs h_pl h_pl_elements root_places pl_holds pl_suit pl_size)) (As := [.int x1]) (rest := []) (c_X11_placeAt l D cs ad h_pl h_pl_elements H.size x1 root_places pl_holds pl_suit pl_size (r_1, u_2) hc_3) ⟨hx, hb, hml, hown, ht⟩ (cwV 1 ht g_X11_111 rfl rfl rfl ⟨rfl, hd_X11_placeAt⟩ ⟨Nat.le_of_ble_eq_true rfl, Nat.le_of_ble_eq_true rfl⟩) (va_recv hK hP (ci := 11) (q0 := 0) rfl rfl) hP hD hS hK hA [0, 1, 7] rfl rfl [(ad 0), (ad 1), h_pl] rfl (fun _ => rfl) rfl hl.1 (Nat.le_of_ble_eq_true rfl) dX11_shoes_2 ⟨Nat.zero_le _, Nat.zero_le _⟩ (fun r u H locs hq hP hS => ?_)
  obtain ⟨hq1, hq2⟩ := hq; cases hq2; subst hq1
  have hP : va_P D classes (wl_X11_shoes ad cs h_pl h_pl_elements root_places court_shoeCount court_claimCount court_suitCount court_shoePerson court_shoeOther court_shoeSort court_shoeDay pl_holds pl_suit pl_size pl_elements) H := hP
  have hD : va_D A (wl_X11_shoes ad cs h_pl h_pl_elements root_places court_shoeCount court_claimCount court_suitCount court_shoePerson court_shoeOther court_shoeSort court_shoeDay pl_holds pl_suit pl_size pl_elements) := zDk hD [(ad 0), (ad 1), (ad 4), (ad 5), (ad 6), (ad 7), (ad 8), h_pl, h_pl_elements] rfl rfl
  by_cases c_4 : r_1 = true
  · have h := zk_t c_4 h
    refine W.eq (g2 := F0 m 5 ls [.ref h_pl]) (by rw [if_pos c_4]; rfl) ?_
    refine lv_astore (lv' := [(4, .ref h_pl), (0, .ref (ad 0)), (1, .int x1), (2, .int x2), (3, .int x3)]) hx hb dX11_shoes_5 hl (by decide) rfl (fun ls hl => ?_)
    refine lv_aload hx hb dX11_shoes_7 (lv_at hl 0 rfl) ?_
    refine lv_ifnull hx hb dX11_shoes_9 ?_
    refine lv_iload_n hx hb dX11_shoes_12 rfl (lv_at hl 4 rfl) ?_
    refine lv_iconst (v := (1 : Int32)) hx hb dX11_shoes_13 (by decide) ?_
    refine lv_icmp_lt (tgt := 23) hx hb dX11_shoes_14 (by decide) (fun c_5 => ?_) (fun c_5 => ?_)
    · have h := zk_t c_5 h
      refine lv_iconst (v := (-1 : Int32)) hx hb dX11_shoes_23 (by decide) ?_
      exact W.iret (v := (-1 : Int32)) hx hb hr (fun t ht2 hW => ⟨⟨(-1 : Int32), (court_shoeCount, court_shoePerson, court_shoeOther, court_shoeSort, court_shoeDay), rfl, Option.some.inj h, by rw [ht2]; exact hP, hD⟩, hS.F ht2⟩) hS.2.2 dX11_shoes_24 hlocks
    · have h := zk_f c_5 h
      refine lv_iload_n hx hb dX11_shoes_17 rfl (lv_at hl 4 rfl) ?_
      refine lv_bipush (v := (15 : Int32)) hx hb dX11_shoes_18 (by decide) ?_
      refine lv_icmp_le (tgt := 25) hx hb dX11_shoes_20 (by decide) (fun c_6 => ?_) (fun c_6 => ?_)
      · have h := zk_t c_6 h
        refine lv_aload hx hb dX11_shoes_25 (lv_at hl 0 rfl) ?_
        refine va_get (D := D) (ci := 6) (v := .int pl_holds) (C := RX6) (T := TX6) (N := 4) hx hb ht iX6 hown hK hP 7 rfl rfl 0 (by decide) (ht _ kw_681) (fun _ h9 => h9) rfl dX11_shoes_27 ?_
        refine lv_iconst (v := (-1 : Int32)) hx hb dX11_shoes_30 (by decide) ?_
        refine lv_icmp_eq (tgt := 46) hx hb dX11_shoes_31 (by decide) (fun c_7 => ?_) (fun c_7 => ?_)
        · have h := zk_t c_7 h
          exact L_X11_shoes_46 C0 hK hO hA  ih69 x2 x3 court_shoeCount court_shoePerson court_shoeOther court_shoeSort court_shoeDay h H locs ls hP hD hS (lv_sub hl [1, 3, 4, 0] rfl)
        · have h := zk_f c_7 h
          refine lv_aload hx hb dX11_shoes_34 (lv_at hl 0 rfl) ?_
          refine va_get (D := D) (ci := 6) (v := .int pl_holds) (C := RX6) (T := TX6) (N := 4) hx hb ht iX6 hown hK hP 7 rfl rfl 0 (by decide) (ht _ kw_681) (fun _ h9 => h9) rfl dX11_shoes_36 ?_
          refine lv_iconst (v := (1 : Int32)) hx hb dX11_shoes_39 (by decide) ?_
          refine lv_icmp_eq (tgt := 46) hx hb dX11_shoes_40 (by decide) (fun c_8 => ?_) (fun c_8 => ?_)
          · have h := zk_t c_8 h
            exact L_X11_shoes_46 C0 hK hO hA  ih69 x2 x3 court_shoeCount court_shoePerson court_shoeOther court_shoeSort court_shoeDay h H locs ls hP hD hS (lv_sub hl [1, 3, 4, 0] rfl)
          · have h := zk_f c_8 h
            refine lv_bipush (v := (-12 : Int32)) hx hb dX11_shoes_43 (by decide) ?_
            exact W.iret (v := (-12 : Int32)) hx hb hr (fun t ht2 hW => ⟨⟨(-12 : Int32), (court_shoeCount, court_shoePerson, court_shoeOther, court_shoeSort, court_shoeDay), rfl, Option.some.inj h, by rw [ht2]; exact hP, hD⟩, hS.F ht2⟩) hS.2.2 dX11_shoes_45 hlocks
      · have h := zk_f c_6 h
        refine lv_iconst (v := (-1 : Int32)) hx hb dX11_shoes_23 (by decide) ?_
        exact W.iret (v := (-1 : Int32)) hx hb hr (fun t ht2 hW => ⟨⟨(-1 : Int32), (court_shoeCount, court_shoePerson, court_shoeOther, court_shoeSort, court_shoeDay), rfl, Option.some.inj h, by rw [ht2]; exact hP, hD⟩, hS.F ht2⟩) hS.2.2 dX11_shoes_24 hlocks
  · have h := zk_f c_4 h
    refine W.eq (g2 := F0 m 5 ls [.null]) (by rw [if_neg c_4]; rfl) ?_
    refine lv_astoreN (lv' := [(4, .null), (0, .ref (ad 0)), (1, .int x1), (2, .int x2), (3, .int x3)]) hx hb dX11_shoes_5 hl (by decide) rfl (fun ls hl => ?_)
    refine lv_aloadN hx hb dX11_shoes_7 (lv_at hl 0 rfl) ?_
    refine lv_ifnullN (tgt := 23) hx hb dX11_shoes_9 (by decide) ?_
    refine lv_iconst (v := (-1 : Int32)) hx hb dX11_shoes_23 (by decide) ?_
    exact W.iret (v := (-1 : Int32)) hx hb hr (fun t ht2 hW => ⟨⟨(-1 : Int32), (court_shoeCount, court_shoePerson, court_shoeOther, court_shoeSort, court_shoeDay), rfl, Option.some.inj h, by rw [ht2]; exact hP, hD⟩, hS.F ht2⟩) hS.2.2 dX11_shoes_24 hlocks
theorem LG_X11_shoes {p : Program} {l : Launch} {e : Env} {s : State} {m : MethodId} {args : Array Value} {below : List Frame} {meth : Method} {c : Code} {A : Nat → Prop} {D : va_G} {cs : Nat → ClassId} {ad : Nat → Nat} {h_pl : Nat} {h_pl_elements : Nat} {root_places : Nat → Option Nat} {court_claimCount : Int32} {court_suitCount : Int32} {pl_holds : Int32} {pl_suit : Int32} {pl_size : Int32} {pl_elements : Nat → Int64} {R : Int32 × Int32 × (Nat → Int32) × (Nat → Int32) × (Nat → Int32) × (Nat → Int32)} (C0 : zC p s m args meth c cX11_shoes 7 (some .int) RX11 zW) (hK : va_K D classes (zT cs) s) (hO : zO s) (hA : ∀ q : Nat, s.heap.size ≤ q → A q) : ∀ n : Nat, (∀ (x2 : Int32) (x3 : Int32) (x5 : Int32) (x6 : Int32) (court_shoeCount : Int32) (court_shoePerson : Nat → Int32) (court_shoeOther : Nat → Int32) (court_shoeSort : Nat → Int32) (court_shoeDay : Nat → Int32) (h : (G_X11_shoes h_pl  root_places court_claimCount court_suitCount pl_holds pl_suit pl_size pl_elements n) x2 x3 x5 x6 court_shoeCount court_shoePerson court_shoeOther court_shoeSort court_shoeDay = some R) (H : Heap) (locs : List Loc) (ls : Array Slot) (hP : va_P D classes (wl_X11_shoes ad cs h_pl h_pl_elements root_places court_shoeCount court_claimCount court_suitCount court_shoePerson court_shoeOther court_shoeSort court_shoeDay pl_holds pl_suit pl_size pl_elements) H) (hD : va_D A (wl_X11_shoes ad cs h_pl h_pl_elements root_places court_shoeCount court_claimCount court_suitCount court_shoePerson court_shoeOther court_shoeSort court_shoeDay pl_holds pl_suit pl_size pl_elements)) (hS : va_S A s.heap H locs) (hl : lv_has ls 7 [(0, .ref (ad 0)), (2, .int x2), (3, .int x3), (4, .ref h_pl), (5, .int x5), (6, .int x6)]), W p l e rm_X11_shoes s m args below meth c H locs 0 0 (MQ below (Q_X11_shoes D cs ad h_pl h_pl_elements root_places court_claimCount court_suitCount pl_holds pl_suit pl_size pl_elements A R) args s 0 0 A) (F0 m 69 ls [])) := by
  intro n
  induction n with
  | zero =>
    refine ?_ <;> (intros; rename_i h _ _ _ _ _ _ _; cases h)
  | succ n ih =>
    exact L_X11_shoes_69 C0 hK hO hA  ih
set_option maxHeartbeats 4000000 in
set_option maxRecDepth 100000 in
theorem c_X11_shoes (l : Launch) (D : va_G) (cs : Nat → ClassId) (ad : Nat → Nat) (h_pl : Nat) (h_pl_elements : Nat) (sz : Nat) (n : Nat) (x1 : Int32) (x2 : Int32) (x3 : Int32) (root_places : Nat → Option Nat) (court_shoeCount : Int32) (court_claimCount : Int32) (court_suitCount : Int32) (court_shoePerson : Nat → Int32) (court_shoeOther : Nat → Int32) (court_shoeSort : Nat → Int32) (court_shoeDay : Nat → Int32) (pl_holds : Int32) (pl_suit : Int32) (pl_size : Int32) (pl_elements : Nat → Int64) (R : Int32 × Int32 × (Nat → Int32) × (Nat → Int32) × (Nat → Int32) × (Nat → Int32)) (h : f_X11_shoes h_pl  n x1 x2 x3 root_places court_shoeCount court_claimCount court_suitCount court_shoePerson court_shoeOther court_shoeSort court_shoeDay pl_holds pl_suit pl_size pl_elements = some R) : Met l yX11_shoes (z_X11_shoes) rm_X11_shoes (va_Pc [.ref (ad 0), .int x1, .int x2, .int x3] (zPreO D cs (wl_X11_shoes ad cs h_pl h_pl_elements root_places court_shoeCount court_claimCount court_suitCount court_shoePerson court_shoeOther court_shoeSort court_shoeDay pl_holds pl_suit pl_size pl_elements) sz)) (Q_X11_shoes D cs ad h_pl h_pl_elements root_places court_claimCount court_suitCount pl_holds pl_suit pl_size pl_elements (va_A (wl_X11_shoes ad cs h_pl h_pl_elements root_places court_shoeCount court_claimCount court_suitCount court_shoePerson court_shoeOther court_shoeSort court_shoeDay pl_holds pl_suit pl_size pl_elements) sz) R) 0 0 (va_A (wl_X11_shoes ad cs h_pl h_pl_elements root_places court_shoeCount court_claimCount court_suitCount court_shoePerson court_shoeOther court_shoeSort court_shoeDay pl_holds pl_suit pl_size pl_elements) sz) := by
  refine Met.ofW (cc := cX11_shoes) (maxL := 7) (ret := (some .int)) (by decide) rfl ?_
  intro p e s m args below meth c s₁ B hml hv
  obtain ⟨rfl, ⟨hsz, hP, hK, hD0⟩, hO⟩ := hv
  subst hsz
  have hD := hD0.self (sz := s.heap.size)
  have C0 : zC p s m _ meth c cX11_shoes 7 (some .int) RX11 zW := ⟨B.exec, B.bytes, B.returns, hml, findClass_of_methodNamed B.named, fun w hw => atoms_spec (ws := z_X11_shoes) B.pre w (List.mem_cons_of_mem _ hw), B.notSynchronized⟩
  have hA : ∀ q : Nat, s.heap.size ≤ q → va_A (wl_X11_shoes ad cs h_pl h_pl_elements root_places court_shoeCount court_claimCount court_suitCount court_shoePerson court_shoeOther court_shoeSort court_shoeDay pl_holds pl_suit pl_size pl_elements) s.heap.size q := fun q h => Or.inr h
  have hl := lv_entry ([.ref (ad 0), .int x1, .int x2, .int x3]) (n := 7) (Nat.le_of_ble_eq_true rfl)
  rw [lg_entry_eq]
  generalize (lg_sl ([.ref (ad 0), .int x1, .int x2, .int x3]) ++ List.replicate (7 - (lg_sl ([.ref (ad 0), .int x1, .int x2, .int x3])).length) Slot.unset).toArray = ls at hl ⊢
  exact L_X11_shoes_0 C0 hK hO hA  ((LG_X11_shoes C0 hK hO hA  n)) x1 x2 x3 court_shoeCount court_shoePerson court_shoeOther court_shoeSort court_shoeDay h s.heap [] ls hP hD va_S.rf hl
theorem kw_151 : Cond.fieldLink RX11 387 "AlreadyJudged$Court" "shoeCount" "I" ∈ zW := zwC (i := 77) zc_1 rfl rfl
theorem zh_cX11_isShoeNumber_0 : zck [27, 155, 0, 18, 27, 42, 180, 0, 10, 180, 1, 131, 162, 0, 7, 4, 167, 0, 4, 3, 172] (zdu 0 cX11_isShoeNumber.data.toList) = true := by decide +kernel
theorem dX11_isShoeNumber_0 : decode cX11_isShoeNumber 0 = .ok (.iload_n 1, 1) := zo_27 zh_cX11_isShoeNumber_0 0 rfl
theorem dX11_isShoeNumber_1 : decode cX11_isShoeNumber 1 = .ok (.ifCond .lt 18, 3) := zo_p155 zh_cX11_isShoeNumber_0 1 18 rfl rfl
theorem dX11_isShoeNumber_4 : decode cX11_isShoeNumber 4 = .ok (.iload_n 1, 1) := zo_27 zh_cX11_isShoeNumber_0 4 rfl
theorem dX11_isShoeNumber_5 : decode cX11_isShoeNumber 5 = .ok (.aload_n 0, 1) := zo_42 zh_cX11_isShoeNumber_0 5 rfl
theorem dX11_isShoeNumber_6 : decode cX11_isShoeNumber 6 = .ok (.getfield 10, 3) := zo_180 zh_cX11_isShoeNumber_0 6 rfl
theorem dX11_isShoeNumber_9 : decode cX11_isShoeNumber 9 = .ok (.getfield 387, 3) := zo_180 zh_cX11_isShoeNumber_0 9 rfl
theorem dX11_isShoeNumber_12 : decode cX11_isShoeNumber 12 = .ok (.if_icmp .ge 7, 3) := zo_p162 zh_cX11_isShoeNumber_0 12 7 rfl rfl
theorem dX11_isShoeNumber_15 : decode cX11_isShoeNumber 15 = .ok (.iconst 1, 1) := zo_4 zh_cX11_isShoeNumber_0 15 rfl
theorem dX11_isShoeNumber_16 : decode cX11_isShoeNumber 16 = .ok (.goto 4, 3) := zo_p167 zh_cX11_isShoeNumber_0 16 4 rfl rfl
theorem dX11_isShoeNumber_19 : decode cX11_isShoeNumber 19 = .ok (.iconst 0, 1) := zo_3 zh_cX11_isShoeNumber_0 19 rfl
theorem zh_cX11_isShoeNumber_1 : zck [172] (zdu 20 cX11_isShoeNumber.data.toList) = true := by decide +kernel
theorem dX11_isShoeNumber_20 : decode cX11_isShoeNumber 20 = .ok (.ireturn, 1) := zo_172 zh_cX11_isShoeNumber_1 0 rfl
abbrev z_X11_isShoeNumber : List Cond := .code yX11_isShoeNumber cX11_isShoeNumber 2 (some .boolean) :: zW
abbrev wl_X11_isShoeNumber (ad : Nat → Nat) (cs : Nat → ClassId)  (court_shoeCount : Int32) (court_claimCount : Int32) (court_suitCount : Int32) : va_W := [((ad 0), .inr (11, [.ref (ad 4), .ref (ad 15), .ref (ad 23), .ref (ad 25), .ref (ad 26), .ref (ad 28), .ref (ad 34), .ref (ad 39), .ref (ad 1), .ref (ad 2), .ref (ad 3)])), ((ad 4), .inr (2, [.ref (ad 5), .ref (ad 6), .ref (ad 7), .ref (ad 8), .ref (ad 9), .ref (ad 10), .ref (ad 11), .ref (ad 12), .ref (ad 13), .ref (ad 14), .int court_shoeCount, .int court_claimCount, .int court_suitCount]))]
def Q_X11_isShoeNumber (D : va_G) (cs : Nat → ClassId) (ad : Nat → Nat)  (court_shoeCount : Int32) (court_claimCount : Int32) (court_suitCount : Int32) (A : Nat → Prop) (R : Int32 × Unit) : Array Value → State → Outcome → State → Prop :=
  va_Qi (fun (r : Int32) (u : Unit) => (r, u) = R) (fun (u : Unit) (t : State) => va_P D classes (wl_X11_isShoeNumber ad cs court_shoeCount court_claimCount court_suitCount) t.heap ∧ va_D A (wl_X11_isShoeNumber ad cs court_shoeCount court_claimCount court_suitCount)) A
abbrev rm_X11_isShoeNumber : Room := { frames := 0, cells := 0, slots := 0, locals := 0 }
def B_X11_isShoeNumber_0    (court_shoeCount : Int32) (court_claimCount : Int32) (court_suitCount : Int32) (x1 : Int32) : Option (Int32 × Unit) :=
  (if x1 < 0 then (some ((0 : Int32), ())) else (if court_shoeCount ≤ x1 then (some ((0 : Int32), ())) else (some ((1 : Int32), ()))))
def f_X11_isShoeNumber   (x1 : Int32) (court_shoeCount : Int32) (court_claimCount : Int32) (court_suitCount : Int32) : Option (Int32 × Unit) := B_X11_isShoeNumber_0   court_shoeCount court_claimCount court_suitCount x1 
set_option maxHeartbeats 4000000 in
set_option maxRecDepth 100000 in
theorem L_X11_isShoeNumber_0 {p : Program} {l : Launch} {e : Env} {s : State} {m : MethodId} {args : Array Value} {below : List Frame} {meth : Method} {c : Code} {A : Nat → Prop} {D : va_G} {cs : Nat → ClassId} {ad : Nat → Nat} {court_shoeCount : Int32} {court_claimCount : Int32} {court_suitCount : Int32} {R : Int32 × Unit} (C0 : zC p s m args meth c cX11_isShoeNumber 2 (some .boolean) RX11 zW) (hK : va_K D classes (zT cs) s) (hA : ∀ q : Nat, s.heap.size ≤ q → A q) (x1 : Int32) (h : B_X11_isShoeNumber_0 court_shoeCount court_claimCount court_suitCount x1 = some R) (H : Heap) (locs : List Loc) (ls : Array Slot) (hP : va_P D classes (wl_X11_isShoeNumber ad cs court_shoeCount court_claimCount court_suitCount) H) (hD : va_D A (wl_X11_isShoeNumber ad cs court_shoeCount court_claimCount court_suitCount)) (hS : va_S A s.heap H locs) (hl : lv_has ls 2 [(0, .ref (ad 0)), (1, .int x1)]) : W p l e rm_X11_isShoeNumber s m args below meth c H locs 0 0 (MQ below (Q_X11_isShoeNumber D cs ad court_shoeCount court_claimCount court_suitCount A R) args s 0 0 A) (F0 m 0 ls []) := by
  obtain ⟨hx, hb, hr, hml, hown, ht, hlocks⟩ := id C0
  refine lv_iload_n hx hb dX11_isShoeNumber_0 rfl (lv_at hl 1 rfl) ?_
  refine lv_if_lt (tgt := 19) hx hb dX11_isShoeNumber_1 (by decide) (fun c_1 => ?_) (fun c_1 => ?_)
  · have h := zk_t c_1 h
    refine lv_iconst (v := (0 : Int32)) hx hb dX11_isShoeNumber_19 (by decide) ?_
    exact W.zret (ty := .boolean) (v := (0 : Int32)) hx hb hr rfl (fun t ht2 hW => ⟨⟨(0 : Int32), (), rfl, Option.some.inj h, by rw [ht2]; exact hP, hD⟩, hS.F ht2⟩) hS.2.2 dX11_isShoeNumber_20 hlocks
  · have h := zk_f c_1 h
    refine lv_iload_n hx hb dX11_isShoeNumber_4 rfl (lv_at hl 1 rfl) ?_
    refine lv_aload_n hx hb dX11_isShoeNumber_5 rfl (lv_at hl 0 rfl) ?_
    refine va_get (D := D) (ci := 11) (v := .ref (ad 4)) (C := RX11) (T := TX11) (N := 11) hx hb ht iX11 hown hK hP 0 rfl rfl 0 (by decide) (ht _ kw_696) (fun _ h9 => h9) rfl dX11_isShoeNumber_6 ?_
    refine va_get (D := D) (ci := 2) (v := .int court_shoeCount) (C := RX2) (T := TX2) (N := 13) hx hb ht iX2 hown hK hP 1 rfl rfl 10 (by decide) (ht _ kw_151) (fun _ h9 => h9) rfl dX11_isShoeNumber_9 ?_
    refine lv_icmp_ge (tgt := 19) hx hb dX11_isShoeNumber_12 (by decide) (fun c_2 => ?_) (fun c_2 => ?_)
    · have h := zk_t c_2 h
      refine lv_iconst (v := (0 : Int32)) hx hb dX11_isShoeNumber_19 (by decide) ?_
      exact W.zret (ty := .boolean) (v := (0 : Int32)) hx hb hr rfl (fun t ht2 hW => ⟨⟨(0 : Int32), (), rfl, Option.some.inj h, by rw [ht2]; exact hP, hD⟩, hS.F ht2⟩) hS.2.2 dX11_isShoeNumber_20 hlocks
    · have h := zk_f c_2 h
      refine lv_iconst (v := (1 : Int32)) hx hb dX11_isShoeNumber_15 (by decide) ?_
      refine lv_goto (tgt := 20) hx hb dX11_isShoeNumber_16 (by decide) ?_
      exact W.zret (ty := .boolean) (v := (1 : Int32)) hx hb hr rfl (fun t ht2 hW => ⟨⟨(1 : Int32), (), rfl, Option.some.inj h, by rw [ht2]; exact hP, hD⟩, hS.F ht2⟩) hS.2.2 dX11_isShoeNumber_20 hlocks
set_option maxHeartbeats 4000000 in
set_option maxRecDepth 100000 in
theorem c_X11_isShoeNumber (l : Launch) (D : va_G) (cs : Nat → ClassId) (ad : Nat → Nat) (sz : Nat) (x1 : Int32) (court_shoeCount : Int32) (court_claimCount : Int32) (court_suitCount : Int32) (R : Int32 × Unit) (h : f_X11_isShoeNumber   x1 court_shoeCount court_claimCount court_suitCount = some R) : Met l yX11_isShoeNumber (z_X11_isShoeNumber) rm_X11_isShoeNumber (va_Pc [.ref (ad 0), .int x1] (zPre D cs (wl_X11_isShoeNumber ad cs court_shoeCount court_claimCount court_suitCount) sz)) (Q_X11_isShoeNumber D cs ad court_shoeCount court_claimCount court_suitCount (va_A (wl_X11_isShoeNumber ad cs court_shoeCount court_claimCount court_suitCount) sz) R) 0 0 (va_A (wl_X11_isShoeNumber ad cs court_shoeCount court_claimCount court_suitCount) sz) := by
  refine Met.ofW (cc := cX11_isShoeNumber) (maxL := 2) (ret := (some .boolean)) (by decide) rfl ?_
  intro p e s m args below meth c s₁ B hml hv
  obtain ⟨rfl, hsz, hP, hK, hD0⟩ := hv
  subst hsz
  have hD := hD0.self (sz := s.heap.size)
  have C0 : zC p s m _ meth c cX11_isShoeNumber 2 (some .boolean) RX11 zW := ⟨B.exec, B.bytes, B.returns, hml, findClass_of_methodNamed B.named, fun w hw => atoms_spec (ws := z_X11_isShoeNumber) B.pre w (List.mem_cons_of_mem _ hw), B.notSynchronized⟩
  have hA : ∀ q : Nat, s.heap.size ≤ q → va_A (wl_X11_isShoeNumber ad cs court_shoeCount court_claimCount court_suitCount) s.heap.size q := fun q h => Or.inr h
  have hl := lv_entry ([.ref (ad 0), .int x1]) (n := 2) (Nat.le_of_ble_eq_true rfl)
  rw [lg_entry_eq]
  generalize (lg_sl ([.ref (ad 0), .int x1]) ++ List.replicate (2 - (lg_sl ([.ref (ad 0), .int x1])).length) Slot.unset).toArray = ls at hl ⊢
  exact L_X11_isShoeNumber_0 C0 hK hA   x1  h s.heap [] ls hP hD va_S.rf hl
theorem kw_4 : Cond.selects RX11 yX11_isShoeNumber yX11_isShoeNumber ∈ zW := zwI (i := 4) (by decide +kernel) (by decide +kernel)
theorem kw_117 : Cond.fieldLink RX11 129 "AlreadyJudged$Court" "shoePerson" "[I" ∈ zW := zwC (i := 43) zc_1 rfl rfl
theorem kw_120 : Cond.fieldLink RX11 132 "AlreadyJudged$Court" "shoeOther" "[I" ∈ zW := zwC (i := 46) zc_1 rfl rfl
theorem kw_123 : Cond.fieldLink RX11 135 "AlreadyJudged$Court" "shoeSort" "[I" ∈ zW := zwC (i := 49) zc_1 rfl rfl
theorem kw_126 : Cond.fieldLink RX11 138 "AlreadyJudged$Court" "shoeDay" "[I" ∈ zW := zwC (i := 52) zc_1 rfl rfl
theorem kw_765 : Cond.methodLink RX11 125 yX11_isShoeNumber ∈ zW := zwC (i := 211) zc_3 rfl rfl
theorem kw_767 : Cond.instanceMethod yX11_isShoeNumber ∈ zW := zwC (i := 213) zc_3 rfl rfl
theorem kw_768 : Cond.code yX11_isShoeNumber cX11_isShoeNumber 2 (some .boolean) ∈ zW := zwC (i := 214) zc_3 rfl rfl
theorem zh_cX11_ofShoe_0 : zck [42, 27, 182, 0, 125, 154, 0, 5, 2, 172, 28, 170, 0, 0, 0, 69, 0, 0, 0, 0, 0, 0] (zdu 0 cX11_ofShoe.data.toList) = true := by decide +kernel
theorem dX11_ofShoe_0 : decode cX11_ofShoe 0 = .ok (.aload_n 0, 1) := zo_42 zh_cX11_ofShoe_0 0 rfl
theorem dX11_ofShoe_1 : decode cX11_ofShoe 1 = .ok (.iload_n 1, 1) := zo_27 zh_cX11_ofShoe_0 1 rfl
theorem dX11_ofShoe_2 : decode cX11_ofShoe 2 = .ok (.invokevirtual 125, 3) := zo_182 zh_cX11_ofShoe_0 2 rfl
theorem dX11_ofShoe_5 : decode cX11_ofShoe 5 = .ok (.ifCond .ne 5, 3) := zo_p154 zh_cX11_ofShoe_0 5 5 rfl rfl
theorem dX11_ofShoe_8 : decode cX11_ofShoe 8 = .ok (.iconst (-1), 1) := zo_2 zh_cX11_ofShoe_0 8 rfl
theorem dX11_ofShoe_9 : decode cX11_ofShoe 9 = .ok (.ireturn, 1) := zo_172 zh_cX11_ofShoe_0 9 rfl
theorem dX11_ofShoe_10 : decode cX11_ofShoe 10 = .ok (.iload_n 2, 1) := zo_28 zh_cX11_ofShoe_0 10 rfl
theorem dX11_ofShoe_11 : decode cX11_ofShoe 11 = .ok (.tableswitch 69 0 3 #[29, 39, 49, 59], 29) := by decide +kernel
theorem zh_cX11_ofShoe_2 : zck [42, 180, 0, 10, 180, 0, 129, 27, 46, 172, 42, 180, 0, 10, 180, 0, 132, 27, 46, 172, 42, 180] (zdu 40 cX11_ofShoe.data.toList) = true := by decide +kernel
theorem dX11_ofShoe_40 : decode cX11_ofShoe 40 = .ok (.aload_n 0, 1) := zo_42 zh_cX11_ofShoe_2 0 rfl
theorem dX11_ofShoe_41 : decode cX11_ofShoe 41 = .ok (.getfield 10, 3) := zo_180 zh_cX11_ofShoe_2 1 rfl
theorem dX11_ofShoe_44 : decode cX11_ofShoe 44 = .ok (.getfield 129, 3) := zo_180 zh_cX11_ofShoe_2 4 rfl
theorem dX11_ofShoe_47 : decode cX11_ofShoe 47 = .ok (.iload_n 1, 1) := zo_27 zh_cX11_ofShoe_2 7 rfl
theorem dX11_ofShoe_48 : decode cX11_ofShoe 48 = .ok (.iaload, 1) := zo_46 zh_cX11_ofShoe_2 8 rfl
theorem dX11_ofShoe_49 : decode cX11_ofShoe 49 = .ok (.ireturn, 1) := zo_172 zh_cX11_ofShoe_2 9 rfl
theorem dX11_ofShoe_50 : decode cX11_ofShoe 50 = .ok (.aload_n 0, 1) := zo_42 zh_cX11_ofShoe_2 10 rfl
theorem dX11_ofShoe_51 : decode cX11_ofShoe 51 = .ok (.getfield 10, 3) := zo_180 zh_cX11_ofShoe_2 11 rfl
theorem dX11_ofShoe_54 : decode cX11_ofShoe 54 = .ok (.getfield 132, 3) := zo_180 zh_cX11_ofShoe_2 14 rfl
theorem dX11_ofShoe_57 : decode cX11_ofShoe 57 = .ok (.iload_n 1, 1) := zo_27 zh_cX11_ofShoe_2 17 rfl
theorem dX11_ofShoe_58 : decode cX11_ofShoe 58 = .ok (.iaload, 1) := zo_46 zh_cX11_ofShoe_2 18 rfl
theorem dX11_ofShoe_59 : decode cX11_ofShoe 59 = .ok (.ireturn, 1) := zo_172 zh_cX11_ofShoe_2 19 rfl
theorem zh_cX11_ofShoe_3 : zck [42, 180, 0, 10, 180, 0, 135, 27, 46, 172, 42, 180, 0, 10, 180, 0, 138, 27, 46, 172, 2, 172] (zdu 60 cX11_ofShoe.data.toList) = true := by decide +kernel
theorem dX11_ofShoe_60 : decode cX11_ofShoe 60 = .ok (.aload_n 0, 1) := zo_42 zh_cX11_ofShoe_3 0 rfl
theorem dX11_ofShoe_61 : decode cX11_ofShoe 61 = .ok (.getfield 10, 3) := zo_180 zh_cX11_ofShoe_3 1 rfl
theorem dX11_ofShoe_64 : decode cX11_ofShoe 64 = .ok (.getfield 135, 3) := zo_180 zh_cX11_ofShoe_3 4 rfl
theorem dX11_ofShoe_67 : decode cX11_ofShoe 67 = .ok (.iload_n 1, 1) := zo_27 zh_cX11_ofShoe_3 7 rfl
theorem dX11_ofShoe_68 : decode cX11_ofShoe 68 = .ok (.iaload, 1) := zo_46 zh_cX11_ofShoe_3 8 rfl
theorem dX11_ofShoe_69 : decode cX11_ofShoe 69 = .ok (.ireturn, 1) := zo_172 zh_cX11_ofShoe_3 9 rfl
theorem dX11_ofShoe_70 : decode cX11_ofShoe 70 = .ok (.aload_n 0, 1) := zo_42 zh_cX11_ofShoe_3 10 rfl
theorem dX11_ofShoe_71 : decode cX11_ofShoe 71 = .ok (.getfield 10, 3) := zo_180 zh_cX11_ofShoe_3 11 rfl
theorem dX11_ofShoe_74 : decode cX11_ofShoe 74 = .ok (.getfield 138, 3) := zo_180 zh_cX11_ofShoe_3 14 rfl
theorem dX11_ofShoe_77 : decode cX11_ofShoe 77 = .ok (.iload_n 1, 1) := zo_27 zh_cX11_ofShoe_3 17 rfl
theorem dX11_ofShoe_78 : decode cX11_ofShoe 78 = .ok (.iaload, 1) := zo_46 zh_cX11_ofShoe_3 18 rfl
theorem dX11_ofShoe_79 : decode cX11_ofShoe 79 = .ok (.ireturn, 1) := zo_172 zh_cX11_ofShoe_3 19 rfl
theorem zh_cX11_ofShoe_4 : zck [2, 172] (zdu 80 cX11_ofShoe.data.toList) = true := by decide +kernel
theorem dX11_ofShoe_80 : decode cX11_ofShoe 80 = .ok (.iconst (-1), 1) := zo_2 zh_cX11_ofShoe_4 0 rfl
theorem dX11_ofShoe_81 : decode cX11_ofShoe 81 = .ok (.ireturn, 1) := zo_172 zh_cX11_ofShoe_4 1 rfl
abbrev z_X11_ofShoe : List Cond := .code yX11_ofShoe cX11_ofShoe 3 (some .int) :: zW
abbrev wl_X11_ofShoe (ad : Nat → Nat) (cs : Nat → ClassId)  (court_shoeCount : Int32) (court_claimCount : Int32) (court_suitCount : Int32) (court_shoePerson : Nat → Int32) (court_shoeOther : Nat → Int32) (court_shoeSort : Nat → Int32) (court_shoeDay : Nat → Int32) : va_W := [((ad 0), .inr (11, [.ref (ad 4), .ref (ad 15), .ref (ad 23), .ref (ad 25), .ref (ad 26), .ref (ad 28), .ref (ad 34), .ref (ad 39), .ref (ad 1), .ref (ad 2), .ref (ad 3)])), ((ad 4), .inr (2, [.ref (ad 5), .ref (ad 6), .ref (ad 7), .ref (ad 8), .ref (ad 9), .ref (ad 10), .ref (ad 11), .ref (ad 12), .ref (ad 13), .ref (ad 14), .int court_shoeCount, .int court_claimCount, .int court_suitCount])), ((ad 5), .inl (cs 0, 40, .inl court_shoePerson)), ((ad 6), .inl (cs 0, 40, .inl court_shoeOther)), ((ad 7), .inl (cs 0, 40, .inl court_shoeSort)), ((ad 8), .inl (cs 0, 40, .inl court_shoeDay))]
def Q_X11_ofShoe (D : va_G) (cs : Nat → ClassId) (ad : Nat → Nat)  (court_shoeCount : Int32) (court_claimCount : Int32) (court_suitCount : Int32) (court_shoePerson : Nat → Int32) (court_shoeOther : Nat → Int32) (court_shoeSort : Nat → Int32) (court_shoeDay : Nat → Int32) (A : Nat → Prop) (R : Int32 × Unit) : Array Value → State → Outcome → State → Prop :=
  va_Qi (fun (r : Int32) (u : Unit) => (r, u) = R) (fun (u : Unit) (t : State) => va_P D classes (wl_X11_ofShoe ad cs court_shoeCount court_claimCount court_suitCount court_shoePerson court_shoeOther court_shoeSort court_shoeDay) t.heap ∧ va_D A (wl_X11_ofShoe ad cs court_shoeCount court_claimCount court_suitCount court_shoePerson court_shoeOther court_shoeSort court_shoeDay)) A
abbrev rm_X11_ofShoe : Room := { frames := 1, cells := 0, slots := 0, locals := 21 }
theorem g_X11_125 : GoodIn zW (wsV RX11 125 RX11 yX11_isShoeNumber z_X11_isShoeNumber) := zGV kw_765 kw_767 kw_4 kw_75 kw_768
theorem hd_X11_isShoeNumber : yX11_isShoeNumber.cls ≠ "java/lang/invoke/MethodHandle" ∧ yX11_isShoeNumber.cls ≠ "java/lang/invoke/VarHandle" ∧ (parseMethodDescriptor yX11_isShoeNumber.desc).map (fun d => d.parameters.length) = some 1 := by decide +kernel
def B_X11_ofShoe_0    (court_shoeCount : Int32) (court_claimCount : Int32) (court_suitCount : Int32) (court_shoePerson : Nat → Int32) (court_shoeOther : Nat → Int32) (court_shoeSort : Nat → Int32) (court_shoeDay : Nat → Int32) (x1 : Int32) (x2 : Int32) : Option (Int32 × Unit) :=
  (zk_b2 (f_X11_isShoeNumber x1 court_shoeCount court_claimCount court_suitCount) (fun r_1 u_2 => (if r_1 = 0 then (some ((-1 : Int32), ())) else (if x2 = (0 : Int32) then (if (x1 < 0 ∨ 40 ≤ x1.toNatClampNeg) then none else (some (court_shoePerson x1.toNatClampNeg, ()))) else (if x2 = (1 : Int32) then (if (x1 < 0 ∨ 40 ≤ x1.toNatClampNeg) then none else (some (court_shoeOther x1.toNatClampNeg, ()))) else (if x2 = (2 : Int32) then (if (x1 < 0 ∨ 40 ≤ x1.toNatClampNeg) then none else (some (court_shoeSort x1.toNatClampNeg, ()))) else (if x2 = (3 : Int32) then (if (x1 < 0 ∨ 40 ≤ x1.toNatClampNeg) then none else (some (court_shoeDay x1.toNatClampNeg, ()))) else (some ((-1 : Int32), ())))))))))
def f_X11_ofShoe   (x1 : Int32) (x2 : Int32) (court_shoeCount : Int32) (court_claimCount : Int32) (court_suitCount : Int32) (court_shoePerson : Nat → Int32) (court_shoeOther : Nat → Int32) (court_shoeSort : Nat → Int32) (court_shoeDay : Nat → Int32) : Option (Int32 × Unit) := B_X11_ofShoe_0   court_shoeCount court_claimCount court_suitCount court_shoePerson court_shoeOther court_shoeSort court_shoeDay x1 x2 
set_option maxHeartbeats 4000000 in
set_option maxRecDepth 100000 in
theorem L_X11_ofShoe_0 {p : Program} {l : Launch} {e : Env} {s : State} {m : MethodId} {args : Array Value} {below : List Frame} {meth : Method} {c : Code} {A : Nat → Prop} {D : va_G} {cs : Nat → ClassId} {ad : Nat → Nat} {court_shoeCount : Int32} {court_claimCount : Int32} {court_suitCount : Int32} {court_shoePerson : Nat → Int32} {court_shoeOther : Nat → Int32} {court_shoeSort : Nat → Int32} {court_shoeDay : Nat → Int32} {R : Int32 × Unit} (C0 : zC p s m args meth c cX11_ofShoe 3 (some .int) RX11 zW) (hK : va_K D classes (zT cs) s) (hA : ∀ q : Nat, s.heap.size ≤ q → A q) (x1 : Int32) (x2 : Int32) (h : B_X11_ofShoe_0 court_shoeCount court_claimCount court_suitCount court_shoePerson court_shoeOther court_shoeSort court_shoeDay x1 x2 = some R) (H : Heap) (locs : List Loc) (ls : Array Slot) (hP : va_P D classes (wl_X11_ofShoe ad cs court_shoeCount court_claimCount court_suitCount court_shoePerson court_shoeOther court_shoeSort court_shoeDay) H) (hD : va_D A (wl_X11_ofShoe ad cs court_shoeCount court_claimCount court_suitCount court_shoePerson court_shoeOther court_shoeSort court_shoeDay)) (hS : va_S A s.heap H locs) (hl : lv_has ls 3 [(0, .ref (ad 0)), (1, .int x1), (2, .int x2)]) : W p l e rm_X11_ofShoe s m args below meth c H locs 0 0 (MQ below (Q_X11_ofShoe D cs ad court_shoeCount court_claimCount court_suitCount court_shoePerson court_shoeOther court_shoeSort court_shoeDay A R) args s 0 0 A) (F0 m 0 ls []) := by
  obtain ⟨hx, hb, hr, hml, hown, ht, hlocks⟩ := id C0
  refine lv_aload_n hx hb dX11_ofShoe_0 rfl (lv_at hl 0 rfl) ?_
  refine lv_iload_n hx hb dX11_ofShoe_1 rfl (lv_at hl 1 rfl) ?_
  obtain ⟨r_1, u_2, hc_3, h⟩ := zk_o2 h
  refine zz_vi (post := (fun r u => (r, u) = (r_1, u_2))) (w1 := fun u => (wl_X11_isShoeNumber ad cs court_shoeCount court_claimCount court_suitCount)) (As := [.int x1]) (rest := []) (c_X11_isShoeNumber l D cs ad  H.size x1 court_shoeCount court_claimCount court_suitCount (r_1, u_2) hc_3) ⟨hx, hb, hml, hown, ht⟩ (cwV 1 ht g_X11_125 rfl rfl rfl ⟨rfl, hd_X11_isShoeNumber⟩ ⟨Nat.le_of_ble_eq_true rfl, Nat.le_of_ble_eq_true rfl⟩) (va_recv hK hP (ci := 11) (q0 := 0) rfl rfl) hP hD hS hK hA [0, 1] rfl rfl [(ad 0), (ad 4)] rfl (fun _ => rfl) rfl hl.1 (Nat.le_of_ble_eq_true rfl) dX11_ofShoe_2 ⟨Nat.zero_le _, Nat.zero_le _⟩ (fun r u H locs hq hP hS => ?_)
  cases hq
  have hP : va_P D classes (wl_X11_ofShoe ad cs court_shoeCount court_claimCount court_suitCount court_shoePerson court_shoeOther court_shoeSort court_shoeDay) H := hP
  have hD : va_D A (wl_X11_ofShoe ad cs court_shoeCount court_claimCount court_suitCount court_shoePerson court_shoeOther court_shoeSort court_shoeDay) := zDk hD [(ad 0), (ad 4), (ad 5), (ad 6), (ad 7), (ad 8)] rfl rfl
  refine lv_if_ne (tgt := 10) hx hb dX11_ofShoe_5 (by decide) (fun c_4 => ?_) (fun c_4 => ?_)
  · have h := zk_f c_4 h
    refine lv_iload_n hx hb dX11_ofShoe_10 rfl (lv_at hl 2 rfl) ?_
    by_cases c_9 : x2 = (0 : Int32)
    · have h := zk_t c_9 h
      refine lv_tableIn (tgt := 40) hx hb dX11_ofShoe_11 (by rw [c_9]; decide) (by rw [c_9]; decide) (by rw [c_9]; rfl) (by decide) ?_
      refine lv_aload_n hx hb dX11_ofShoe_40 rfl (lv_at hl 0 rfl) ?_
      refine va_get (D := D) (ci := 11) (v := .ref (ad 4)) (C := RX11) (T := TX11) (N := 11) hx hb ht iX11 hown hK hP 0 rfl rfl 0 (by decide) (ht _ kw_696) (fun _ h9 => h9) rfl dX11_ofShoe_41 ?_
      refine va_get (D := D) (ci := 2) (v := .ref (ad 5)) (C := RX2) (T := TX2) (N := 13) hx hb ht iX2 hown hK hP 1 rfl rfl 0 (by decide) (ht _ kw_117) (fun _ h9 => h9) rfl dX11_ofShoe_44 ?_
      refine lv_iload_n hx hb dX11_ofShoe_47 rfl (lv_at hl 1 rfl) ?_
      obtain ⟨g_5, h⟩ := zk_gd h
      refine va_iald hx hb hK hP 2 0 rfl rfl g_5 dX11_ofShoe_48 ?_
      exact W.iret (v := court_shoePerson x1.toNatClampNeg) hx hb hr (fun t ht2 hW => ⟨⟨court_shoePerson x1.toNatClampNeg, (), rfl, Option.some.inj h, by rw [ht2]; exact hP, hD⟩, hS.F ht2⟩) hS.2.2 dX11_ofShoe_49 hlocks
    · have h := zk_f c_9 h
      by_cases c_10 : x2 = (1 : Int32)
      · have h := zk_t c_10 h
        refine lv_tableIn (tgt := 50) hx hb dX11_ofShoe_11 (by rw [c_10]; decide) (by rw [c_10]; decide) (by rw [c_10]; rfl) (by decide) ?_
        refine lv_aload_n hx hb dX11_ofShoe_50 rfl (lv_at hl 0 rfl) ?_
        refine va_get (D := D) (ci := 11) (v := .ref (ad 4)) (C := RX11) (T := TX11) (N := 11) hx hb ht iX11 hown hK hP 0 rfl rfl 0 (by decide) (ht _ kw_696) (fun _ h9 => h9) rfl dX11_ofShoe_51 ?_
        refine va_get (D := D) (ci := 2) (v := .ref (ad 6)) (C := RX2) (T := TX2) (N := 13) hx hb ht iX2 hown hK hP 1 rfl rfl 1 (by decide) (ht _ kw_120) (fun _ h9 => h9) rfl dX11_ofShoe_54 ?_
        refine lv_iload_n hx hb dX11_ofShoe_57 rfl (lv_at hl 1 rfl) ?_
        obtain ⟨g_6, h⟩ := zk_gd h
        refine va_iald hx hb hK hP 3 0 rfl rfl g_6 dX11_ofShoe_58 ?_
        exact W.iret (v := court_shoeOther x1.toNatClampNeg) hx hb hr (fun t ht2 hW => ⟨⟨court_shoeOther x1.toNatClampNeg, (), rfl, Option.some.inj h, by rw [ht2]; exact hP, hD⟩, hS.F ht2⟩) hS.2.2 dX11_ofShoe_59 hlocks
      · have h := zk_f c_10 h
        by_cases c_11 : x2 = (2 : Int32)
        · have h := zk_t c_11 h
          refine lv_tableIn (tgt := 60) hx hb dX11_ofShoe_11 (by rw [c_11]; decide) (by rw [c_11]; decide) (by rw [c_11]; rfl) (by decide) ?_
          refine lv_aload_n hx hb dX11_ofShoe_60 rfl (lv_at hl 0 rfl) ?_
          refine va_get (D := D) (ci := 11) (v := .ref (ad 4)) (C := RX11) (T := TX11) (N := 11) hx hb ht iX11 hown hK hP 0 rfl rfl 0 (by decide) (ht _ kw_696) (fun _ h9 => h9) rfl dX11_ofShoe_61 ?_
          refine va_get (D := D) (ci := 2) (v := .ref (ad 7)) (C := RX2) (T := TX2) (N := 13) hx hb ht iX2 hown hK hP 1 rfl rfl 2 (by decide) (ht _ kw_123) (fun _ h9 => h9) rfl dX11_ofShoe_64 ?_
          refine lv_iload_n hx hb dX11_ofShoe_67 rfl (lv_at hl 1 rfl) ?_
          obtain ⟨g_7, h⟩ := zk_gd h
          refine va_iald hx hb hK hP 4 0 rfl rfl g_7 dX11_ofShoe_68 ?_
          exact W.iret (v := court_shoeSort x1.toNatClampNeg) hx hb hr (fun t ht2 hW => ⟨⟨court_shoeSort x1.toNatClampNeg, (), rfl, Option.some.inj h, by rw [ht2]; exact hP, hD⟩, hS.F ht2⟩) hS.2.2 dX11_ofShoe_69 hlocks
        · have h := zk_f c_11 h
          by_cases c_12 : x2 = (3 : Int32)
          · have h := zk_t c_12 h
            refine lv_tableIn (tgt := 70) hx hb dX11_ofShoe_11 (by rw [c_12]; decide) (by rw [c_12]; decide) (by rw [c_12]; rfl) (by decide) ?_
            refine lv_aload_n hx hb dX11_ofShoe_70 rfl (lv_at hl 0 rfl) ?_
            refine va_get (D := D) (ci := 11) (v := .ref (ad 4)) (C := RX11) (T := TX11) (N := 11) hx hb ht iX11 hown hK hP 0 rfl rfl 0 (by decide) (ht _ kw_696) (fun _ h9 => h9) rfl dX11_ofShoe_71 ?_
            refine va_get (D := D) (ci := 2) (v := .ref (ad 8)) (C := RX2) (T := TX2) (N := 13) hx hb ht iX2 hown hK hP 1 rfl rfl 3 (by decide) (ht _ kw_126) (fun _ h9 => h9) rfl dX11_ofShoe_74 ?_
            refine lv_iload_n hx hb dX11_ofShoe_77 rfl (lv_at hl 1 rfl) ?_
            obtain ⟨g_8, h⟩ := zk_gd h
            refine va_iald hx hb hK hP 5 0 rfl rfl g_8 dX11_ofShoe_78 ?_
            exact W.iret (v := court_shoeDay x1.toNatClampNeg) hx hb hr (fun t ht2 hW => ⟨⟨court_shoeDay x1.toNatClampNeg, (), rfl, Option.some.inj h, by rw [ht2]; exact hP, hD⟩, hS.F ht2⟩) hS.2.2 dX11_ofShoe_79 hlocks
          · have h := zk_f c_12 h
            refine lv_tableOut (tgt := 80) hx hb dX11_ofShoe_11 (zk_out (lo := 0) (hi := 3) [(0 : Int32), (1 : Int32), (2 : Int32), (3 : Int32)] (by decide +kernel) (List.forall_mem_cons.mpr ⟨c_9, List.forall_mem_cons.mpr ⟨c_10, List.forall_mem_cons.mpr ⟨c_11, List.forall_mem_cons.mpr ⟨c_12, fun _ h => absurd h List.not_mem_nil⟩⟩⟩⟩)) (by decide) ?_
            refine lv_iconst (v := (-1 : Int32)) hx hb dX11_ofShoe_80 (by decide) ?_
            exact W.iret (v := (-1 : Int32)) hx hb hr (fun t ht2 hW => ⟨⟨(-1 : Int32), (), rfl, Option.some.inj h, by rw [ht2]; exact hP, hD⟩, hS.F ht2⟩) hS.2.2 dX11_ofShoe_81 hlocks
  · have h := zk_t c_4 h
    refine lv_iconst (v := (-1 : Int32)) hx hb dX11_ofShoe_8 (by decide) ?_
    exact W.iret (v := (-1 : Int32)) hx hb hr (fun t ht2 hW => ⟨⟨(-1 : Int32), (), rfl, Option.some.inj h, by rw [ht2]; exact hP, hD⟩, hS.F ht2⟩) hS.2.2 dX11_ofShoe_9 hlocks
set_option maxHeartbeats 4000000 in
set_option maxRecDepth 100000 in
theorem c_X11_ofShoe (l : Launch) (D : va_G) (cs : Nat → ClassId) (ad : Nat → Nat) (sz : Nat) (x1 : Int32) (x2 : Int32) (court_shoeCount : Int32) (court_claimCount : Int32) (court_suitCount : Int32) (court_shoePerson : Nat → Int32) (court_shoeOther : Nat → Int32) (court_shoeSort : Nat → Int32) (court_shoeDay : Nat → Int32) (R : Int32 × Unit) (h : f_X11_ofShoe   x1 x2 court_shoeCount court_claimCount court_suitCount court_shoePerson court_shoeOther court_shoeSort court_shoeDay = some R) : Met l yX11_ofShoe (z_X11_ofShoe) rm_X11_ofShoe (va_Pc [.ref (ad 0), .int x1, .int x2] (zPre D cs (wl_X11_ofShoe ad cs court_shoeCount court_claimCount court_suitCount court_shoePerson court_shoeOther court_shoeSort court_shoeDay) sz)) (Q_X11_ofShoe D cs ad court_shoeCount court_claimCount court_suitCount court_shoePerson court_shoeOther court_shoeSort court_shoeDay (va_A (wl_X11_ofShoe ad cs court_shoeCount court_claimCount court_suitCount court_shoePerson court_shoeOther court_shoeSort court_shoeDay) sz) R) 0 0 (va_A (wl_X11_ofShoe ad cs court_shoeCount court_claimCount court_suitCount court_shoePerson court_shoeOther court_shoeSort court_shoeDay) sz) := by
  refine Met.ofW (cc := cX11_ofShoe) (maxL := 3) (ret := (some .int)) (by decide) rfl ?_
  intro p e s m args below meth c s₁ B hml hv
  obtain ⟨rfl, hsz, hP, hK, hD0⟩ := hv
  subst hsz
  have hD := hD0.self (sz := s.heap.size)
  have C0 : zC p s m _ meth c cX11_ofShoe 3 (some .int) RX11 zW := ⟨B.exec, B.bytes, B.returns, hml, findClass_of_methodNamed B.named, fun w hw => atoms_spec (ws := z_X11_ofShoe) B.pre w (List.mem_cons_of_mem _ hw), B.notSynchronized⟩
  have hA : ∀ q : Nat, s.heap.size ≤ q → va_A (wl_X11_ofShoe ad cs court_shoeCount court_claimCount court_suitCount court_shoePerson court_shoeOther court_shoeSort court_shoeDay) s.heap.size q := fun q h => Or.inr h
  have hl := lv_entry ([.ref (ad 0), .int x1, .int x2]) (n := 3) (Nat.le_of_ble_eq_true rfl)
  rw [lg_entry_eq]
  generalize (lg_sl ([.ref (ad 0), .int x1, .int x2]) ++ List.replicate (3 - (lg_sl ([.ref (ad 0), .int x1, .int x2])).length) Slot.unset).toArray = ls at hl ⊢
  exact L_X11_ofShoe_0 C0 hK hA   x1 x2  h s.heap [] ls hP hD va_S.rf hl
theorem kw_702 : Cond.fieldLink RX11 58 "AlreadyJudged" "changes" "LAlreadyJudged$Changes;" ∈ zW := zwC (i := 148) zc_3 rfl rfl
theorem kw_773 : Cond.methodLink RX11 141 yX11_isDay ∈ zW := zwC (i := 219) zc_3 rfl rfl
theorem kw_774 : Cond.methodLink RX11 144 yX1_make ∈ zW := zwC (i := 220) zc_3 rfl rfl
theorem kw_775 : Cond.instanceMethod yX1_make ∈ zW := zwC (i := 221) zc_3 rfl rfl
theorem kw_776 : Cond.selects RX1 yX1_make yX1_make ∈ zW := zwC (i := 222) zc_3 rfl rfl
theorem kw_777 : Cond.code yX1_make cX1_make 5 none ∈ zW := zwC (i := 223) zc_3 rfl rfl
theorem zh_cX11_moveShoe_0 : zck [42, 27, 182, 0, 125, 153, 0, 10, 28, 184, 0, 141, 154, 0, 5, 2, 172, 42, 180, 0, 10, 180] (zdu 0 cX11_moveShoe.data.toList) = true := by decide +kernel
theorem dX11_moveShoe_0 : decode cX11_moveShoe 0 = .ok (.aload_n 0, 1) := zo_42 zh_cX11_moveShoe_0 0 rfl
theorem dX11_moveShoe_1 : decode cX11_moveShoe 1 = .ok (.iload_n 1, 1) := zo_27 zh_cX11_moveShoe_0 1 rfl
theorem dX11_moveShoe_2 : decode cX11_moveShoe 2 = .ok (.invokevirtual 125, 3) := zo_182 zh_cX11_moveShoe_0 2 rfl
theorem dX11_moveShoe_5 : decode cX11_moveShoe 5 = .ok (.ifCond .eq 10, 3) := zo_p153 zh_cX11_moveShoe_0 5 10 rfl rfl
theorem dX11_moveShoe_8 : decode cX11_moveShoe 8 = .ok (.iload_n 2, 1) := zo_28 zh_cX11_moveShoe_0 8 rfl
theorem dX11_moveShoe_9 : decode cX11_moveShoe 9 = .ok (.invokestatic 141, 3) := zo_184 zh_cX11_moveShoe_0 9 rfl
theorem dX11_moveShoe_12 : decode cX11_moveShoe 12 = .ok (.ifCond .ne 5, 3) := zo_p154 zh_cX11_moveShoe_0 12 5 rfl rfl
theorem dX11_moveShoe_15 : decode cX11_moveShoe 15 = .ok (.iconst (-1), 1) := zo_2 zh_cX11_moveShoe_0 15 rfl
theorem dX11_moveShoe_16 : decode cX11_moveShoe 16 = .ok (.ireturn, 1) := zo_172 zh_cX11_moveShoe_0 16 rfl
theorem dX11_moveShoe_17 : decode cX11_moveShoe 17 = .ok (.aload_n 0, 1) := zo_42 zh_cX11_moveShoe_0 17 rfl
theorem dX11_moveShoe_18 : decode cX11_moveShoe 18 = .ok (.getfield 10, 3) := zo_180 zh_cX11_moveShoe_0 18 rfl
theorem zh_cX11_moveShoe_1 : zck [10, 180, 0, 138, 27, 46, 62, 42, 180, 0, 58, 5, 27, 29, 28, 182, 0, 144, 29, 172] (zdu 20 cX11_moveShoe.data.toList) = true := by decide +kernel
theorem dX11_moveShoe_21 : decode cX11_moveShoe 21 = .ok (.getfield 138, 3) := zo_180 zh_cX11_moveShoe_1 1 rfl
theorem dX11_moveShoe_24 : decode cX11_moveShoe 24 = .ok (.iload_n 1, 1) := zo_27 zh_cX11_moveShoe_1 4 rfl
theorem dX11_moveShoe_25 : decode cX11_moveShoe 25 = .ok (.iaload, 1) := zo_46 zh_cX11_moveShoe_1 5 rfl
theorem dX11_moveShoe_26 : decode cX11_moveShoe 26 = .ok (.istore_n 3, 1) := zo_62 zh_cX11_moveShoe_1 6 rfl
theorem dX11_moveShoe_27 : decode cX11_moveShoe 27 = .ok (.aload_n 0, 1) := zo_42 zh_cX11_moveShoe_1 7 rfl
theorem dX11_moveShoe_28 : decode cX11_moveShoe 28 = .ok (.getfield 58, 3) := zo_180 zh_cX11_moveShoe_1 8 rfl
theorem dX11_moveShoe_31 : decode cX11_moveShoe 31 = .ok (.iconst 2, 1) := zo_5 zh_cX11_moveShoe_1 11 rfl
theorem dX11_moveShoe_32 : decode cX11_moveShoe 32 = .ok (.iload_n 1, 1) := zo_27 zh_cX11_moveShoe_1 12 rfl
theorem dX11_moveShoe_33 : decode cX11_moveShoe 33 = .ok (.iload_n 3, 1) := zo_29 zh_cX11_moveShoe_1 13 rfl
theorem dX11_moveShoe_34 : decode cX11_moveShoe 34 = .ok (.iload_n 2, 1) := zo_28 zh_cX11_moveShoe_1 14 rfl
theorem dX11_moveShoe_35 : decode cX11_moveShoe 35 = .ok (.invokevirtual 144, 3) := zo_182 zh_cX11_moveShoe_1 15 rfl
theorem dX11_moveShoe_38 : decode cX11_moveShoe 38 = .ok (.iload_n 3, 1) := zo_29 zh_cX11_moveShoe_1 18 rfl
theorem dX11_moveShoe_39 : decode cX11_moveShoe 39 = .ok (.ireturn, 1) := zo_172 zh_cX11_moveShoe_1 19 rfl
abbrev z_X11_moveShoe : List Cond := .code yX11_moveShoe cX11_moveShoe 4 (some .int) :: zW
abbrev wx_X11_moveShoe (ad : Nat → Nat) (cs : Nat → ClassId) (LP : va_W) (S_a : Nat → Nat) (S_b : Nat → Nat) (court_shoeCount : Int32) (court_claimCount : Int32) (court_suitCount : Int32) (court_shoeDay : Nat → Int32) (court_suits : Nat → Option Nat) (chg_done : Int32) (chg_size : Int32) (chg_sorts : Nat → Int32) (chg_numbers : Nat → Int32) (chg_befores : Nat → Int32) (chg_afters : Nat → Int32) (S_who : Nat → Int32) (S_against : Nat → Int32) (S_kind : Nat → Int32) (S_won : Nat → Int32) (S_day : Nat → Int32) (S_land : Nat → Int32) (S_undoneFrom : Nat → Int32) (S_asked : Nat → Nat → Int32) (S_askedCount : Nat → Int32) (S_askedBits : Nat → Int32) (S_first : Nat → Int32) (S_foundSo : Nat → Int32) (S_foundNot : Nat → Int32) (S_fought : Nat → Int32) (S_needed : Nat → Int32) : va_W := [((ad 0), .inr (11, [.ref (ad 4), .ref (ad 15), .ref (ad 23), .ref (ad 25), .ref (ad 26), .ref (ad 28), .ref (ad 34), .ref (ad 39), .ref (ad 1), .ref (ad 2), .ref (ad 3)])), ((ad 4), .inr (2, [.ref (ad 5), .ref (ad 6), .ref (ad 7), .ref (ad 8), .ref (ad 9), .ref (ad 10), .ref (ad 11), .ref (ad 12), .ref (ad 13), .ref (ad 14), .int court_shoeCount, .int court_claimCount, .int court_suitCount])), ((ad 8), .inl (cs 0, 40, .inl court_shoeDay)), ((ad 13), .inl (cs 5, 40, .inr (.inr (.inr (.inr court_suits))))), ((ad 34), .inr (1, [.ref (ad 4), .ref (ad 35), .ref (ad 36), .ref (ad 37), .ref (ad 38), .int chg_done, .int chg_size])), ((ad 35), .inl (cs 0, 40, .inl chg_sorts)), ((ad 36), .inl (cs 0, 40, .inl chg_numbers)), ((ad 37), .inl (cs 0, 40, .inl chg_befores)), ((ad 38), .inl (cs 0, 40, .inl chg_afters))]
abbrev wl_X11_moveShoe (ad : Nat → Nat) (cs : Nat → ClassId) (LP : va_W) (S_a : Nat → Nat) (S_b : Nat → Nat) (court_shoeCount : Int32) (court_claimCount : Int32) (court_suitCount : Int32) (court_shoeDay : Nat → Int32) (court_suits : Nat → Option Nat) (chg_done : Int32) (chg_size : Int32) (chg_sorts : Nat → Int32) (chg_numbers : Nat → Int32) (chg_befores : Nat → Int32) (chg_afters : Nat → Int32) (S_who : Nat → Int32) (S_against : Nat → Int32) (S_kind : Nat → Int32) (S_won : Nat → Int32) (S_day : Nat → Int32) (S_land : Nat → Int32) (S_undoneFrom : Nat → Int32) (S_asked : Nat → Nat → Int32) (S_askedCount : Nat → Int32) (S_askedBits : Nat → Int32) (S_first : Nat → Int32) (S_foundSo : Nat → Int32) (S_foundNot : Nat → Int32) (S_fought : Nat → Int32) (S_needed : Nat → Int32) : va_W := wx_X11_moveShoe ad cs LP S_a S_b court_shoeCount court_claimCount court_suitCount court_shoeDay court_suits chg_done chg_size chg_sorts chg_numbers chg_befores chg_afters S_who S_against S_kind S_won S_day S_land S_undoneFrom S_asked S_askedCount S_askedBits S_first S_foundSo S_foundNot S_fought S_needed ++ (zSu cs S_a S_b court_suitCount.toInt.toNat S_who S_against S_kind S_won S_day S_land S_undoneFrom S_asked S_askedCount S_askedBits S_first S_foundSo S_foundNot S_fought S_needed ++ LP)
def Q_X11_moveShoe (D : va_G) (cs : Nat → ClassId) (ad : Nat → Nat) (LP : va_W) (S_a : Nat → Nat) (S_b : Nat → Nat) (court_shoeCount : Int32) (court_claimCount : Int32) (court_suitCount : Int32) (court_suits : Nat → Option Nat) (S_who : Nat → Int32) (S_against : Nat → Int32) (S_kind : Nat → Int32) (S_day : Nat → Int32) (S_land : Nat → Int32) (S_asked : Nat → Nat → Int32) (S_askedCount : Nat → Int32) (S_askedBits : Nat → Int32) (S_first : Nat → Int32) (S_foundSo : Nat → Int32) (S_foundNot : Nat → Int32) (S_fought : Nat → Int32) (S_needed : Nat → Int32) (A : Nat → Prop) (R : Int32 × (Nat → Int32) × Int32 × Int32 × (Nat → Int32) × (Nat → Int32) × (Nat → Int32) × (Nat → Int32) × (Nat → Int32) × (Nat → Int32)) : Array Value → State → Outcome → State → Prop :=
  va_Qi (fun (r : Int32) (u : (Nat → Int32) × Int32 × Int32 × (Nat → Int32) × (Nat → Int32) × (Nat → Int32) × (Nat → Int32) × (Nat → Int32) × (Nat → Int32)) => (r, u) = R) (fun (u : (Nat → Int32) × Int32 × Int32 × (Nat → Int32) × (Nat → Int32) × (Nat → Int32) × (Nat → Int32) × (Nat → Int32) × (Nat → Int32)) (t : State) => va_P D classes (wl_X11_moveShoe ad cs LP S_a S_b court_shoeCount court_claimCount court_suitCount u.1 court_suits u.2.1 u.2.2.1 u.2.2.2.1 u.2.2.2.2.1 u.2.2.2.2.2.1 u.2.2.2.2.2.2.1 S_who S_against S_kind u.2.2.2.2.2.2.2.1 S_day S_land u.2.2.2.2.2.2.2.2 S_asked S_askedCount S_askedBits S_first S_foundSo S_foundNot S_fought S_needed) t.heap ∧ va_D A (wl_X11_moveShoe ad cs LP S_a S_b court_shoeCount court_claimCount court_suitCount u.1 court_suits u.2.1 u.2.2.1 u.2.2.2.1 u.2.2.2.2.1 u.2.2.2.2.2.1 u.2.2.2.2.2.2.1 S_who S_against S_kind u.2.2.2.2.2.2.2.1 S_day S_land u.2.2.2.2.2.2.2.2 S_asked S_askedCount S_askedBits S_first S_foundSo S_foundNot S_fought S_needed)) A
abbrev rm_X11_moveShoe : Room := { frames := 3, cells := 0, slots := 0, locals := 84 }
theorem g_X11_141 : GoodIn zW (va_wsS RX11 141 yX11_isDay z_X11_isDay) := zGS kw_773 kw_738 kw_75 kw_739
theorem g_X11_144 : GoodIn zW (wsV RX11 144 RX1 yX1_make z_X1_make) := zGV kw_774 kw_775 kw_776 kw_83 kw_777
theorem hd_X1_make : yX1_make.cls ≠ "java/lang/invoke/MethodHandle" ∧ yX1_make.cls ≠ "java/lang/invoke/VarHandle" ∧ (parseMethodDescriptor yX1_make.desc).map (fun d => d.parameters.length) = some 4 := by decide +kernel
def B_X11_moveShoe_0    (court_shoeCount : Int32) (court_claimCount : Int32) (court_suitCount : Int32) (court_suits : Nat → Option Nat) (S_who : Nat → Int32) (S_against : Nat → Int32) (S_kind : Nat → Int32) (S_day : Nat → Int32) (S_land : Nat → Int32) (S_asked : Nat → Nat → Int32) (S_askedCount : Nat → Int32) (S_askedBits : Nat → Int32) (S_first : Nat → Int32) (S_foundSo : Nat → Int32) (S_foundNot : Nat → Int32) (S_fought : Nat → Int32) (S_needed : Nat → Int32) (x1 : Int32) (x2 : Int32) (court_shoeDay : Nat → Int32) (chg_done : Int32) (chg_size : Int32) (chg_sorts : Nat → Int32) (chg_numbers : Nat → Int32) (chg_befores : Nat → Int32) (chg_afters : Nat → Int32) (S_won : Nat → Int32) (S_undoneFrom : Nat → Int32) : Option (Int32 × (Nat → Int32) × Int32 × Int32 × (Nat → Int32) × (Nat → Int32) × (Nat → Int32) × (Nat → Int32) × (Nat → Int32) × (Nat → Int32)) :=
  (zk_b2 (f_X11_isShoeNumber x1 court_shoeCount court_claimCount court_suitCount) (fun r_1 u_2 => (if r_1 = 0 then (some ((-1 : Int32), court_shoeDay, chg_done, chg_size, chg_sorts, chg_numbers, chg_befores, chg_afters, S_won, S_undoneFrom)) else (zk_b2 (f_X11_isDay x2) (fun r_5 u_6 => (if r_5 = 0 then (some ((-1 : Int32), court_shoeDay, chg_done, chg_size, chg_sorts, chg_numbers, chg_befores, chg_afters, S_won, S_undoneFrom)) else (if (x1 < 0 ∨ 40 ≤ x1.toNatClampNeg) then none else (zk_let (court_shoeDay x1.toNatClampNeg) (fun v_10 => (zk_b9 (f_X1_make (2 : Int32) x1 v_10 x2 court_shoeCount court_claimCount court_suitCount court_shoeDay court_suits chg_done chg_size chg_sorts chg_numbers chg_befores chg_afters S_who S_against S_kind S_won S_day S_land S_undoneFrom S_asked S_askedCount S_askedBits S_first S_foundSo S_foundNot S_fought S_needed) (fun u_11 u_12 u_13 u_14 u_15 u_16 u_17 u_18 u_19 => (some (v_10, u_11, u_12, u_13, u_14, u_15, u_16, u_17, u_18, u_19)))))))))))))
def f_X11_moveShoe   (x1 : Int32) (x2 : Int32) (court_shoeCount : Int32) (court_claimCount : Int32) (court_suitCount : Int32) (court_shoeDay : Nat → Int32) (court_suits : Nat → Option Nat) (chg_done : Int32) (chg_size : Int32) (chg_sorts : Nat → Int32) (chg_numbers : Nat → Int32) (chg_befores : Nat → Int32) (chg_afters : Nat → Int32) (S_who : Nat → Int32) (S_against : Nat → Int32) (S_kind : Nat → Int32) (S_won : Nat → Int32) (S_day : Nat → Int32) (S_land : Nat → Int32) (S_undoneFrom : Nat → Int32) (S_asked : Nat → Nat → Int32) (S_askedCount : Nat → Int32) (S_askedBits : Nat → Int32) (S_first : Nat → Int32) (S_foundSo : Nat → Int32) (S_foundNot : Nat → Int32) (S_fought : Nat → Int32) (S_needed : Nat → Int32) : Option (Int32 × (Nat → Int32) × Int32 × Int32 × (Nat → Int32) × (Nat → Int32) × (Nat → Int32) × (Nat → Int32) × (Nat → Int32) × (Nat → Int32)) := B_X11_moveShoe_0   court_shoeCount court_claimCount court_suitCount court_suits S_who S_against S_kind S_day S_land S_asked S_askedCount S_askedBits S_first S_foundSo S_foundNot S_fought S_needed x1 x2 court_shoeDay chg_done chg_size chg_sorts chg_numbers chg_befores chg_afters S_won S_undoneFrom
set_option maxHeartbeats 4000000 in
set_option maxRecDepth 100000 in
theorem L_X11_moveShoe_0 {p : Program} {l : Launch} {e : Env} {s : State} {m : MethodId} {args : Array Value} {below : List Frame} {meth : Method} {c : Code} {A : Nat → Prop} {D : va_G} {cs : Nat → ClassId} {ad : Nat → Nat} {LP : va_W} {S_a : Nat → Nat} {S_b : Nat → Nat} {court_shoeCount : Int32} {court_claimCount : Int32} {court_suitCount : Int32} {court_suits : Nat → Option Nat} {S_who : Nat → Int32} {S_against : Nat → Int32} {S_kind : Nat → Int32} {S_day : Nat → Int32} {S_land : Nat → Int32} {S_asked : Nat → Nat → Int32} {S_askedCount : Nat → Int32} {S_askedBits : Nat → Int32} {S_first : Nat → Int32} {S_foundSo : Nat → Int32} {S_foundNot : Nat → Int32} {S_fought : Nat → Int32} {S_needed : Nat → Int32} {R : Int32 × (Nat → Int32) × Int32 × Int32 × (Nat → Int32) × (Nat → Int32) × (Nat → Int32) × (Nat → Int32) × (Nat → Int32) × (Nat → Int32)} (C0 : zC p s m args meth c cX11_moveShoe 4 (some .int) RX11 zW) (hK : va_K D classes (zT cs) s) (hA : ∀ q : Nat, s.heap.size ≤ q → A q) (hSA : ∀ i, i < court_suitCount.toInt.toNat → court_suits i = some (S_a i)) (x1 : Int32) (x2 : Int32) (court_shoeDay : Nat → Int32) (chg_done : Int32) (chg_size : Int32) (chg_sorts : Nat → Int32) (chg_numbers : Nat → Int32) (chg_befores : Nat → Int32) (chg_afters : Nat → Int32) (S_won : Nat → Int32) (S_undoneFrom : Nat → Int32) (h : B_X11_moveShoe_0 court_shoeCount court_claimCount court_suitCount court_suits S_who S_against S_kind S_day S_land S_asked S_askedCount S_askedBits S_first S_foundSo S_foundNot S_fought S_needed x1 x2 court_shoeDay chg_done chg_size chg_sorts chg_numbers chg_befores chg_afters S_won S_undoneFrom = some R) (H : Heap) (locs : List Loc) (ls : Array Slot) (hP : va_P D classes (wl_X11_moveShoe ad cs LP S_a S_b court_shoeCount court_claimCount court_suitCount court_shoeDay court_suits chg_done chg_size chg_sorts chg_numbers chg_befores chg_afters S_who S_against S_kind S_won S_day S_land S_undoneFrom S_asked S_askedCount S_askedBits S_first S_foundSo S_foundNot S_fought S_needed) H) (hD : va_D A (wl_X11_moveShoe ad cs LP S_a S_b court_shoeCount court_claimCount court_suitCount court_shoeDay court_suits chg_done chg_size chg_sorts chg_numbers chg_befores chg_afters S_who S_against S_kind S_won S_day S_land S_undoneFrom S_asked S_askedCount S_askedBits S_first S_foundSo S_foundNot S_fought S_needed)) (hS : va_S A s.heap H locs) (hl : lv_has ls 4 [(0, .ref (ad 0)), (1, .int x1), (2, .int x2)]) : W p l e rm_X11_moveShoe s m args below meth c H locs 0 0 (MQ below (Q_X11_moveShoe D cs ad LP S_a S_b court_shoeCount court_claimCount court_suitCount court_suits S_who S_against S_kind S_day S_land S_asked S_askedCount S_askedBits S_first S_foundSo S_foundNot S_fought S_needed A R) args s 0 0 A) (F0 m 0 ls []) := by
  obtain ⟨hx, hb, hr, hml, hown, ht, hlocks⟩ := id C0
  refine lv_aload_n hx hb dX11_moveShoe_0 rfl (lv_at hl 0 rfl) ?_
  refine lv_iload_n hx hb dX11_moveShoe_1 rfl (lv_at hl 1 rfl) ?_
  obtain ⟨r_1, u_2, hc_3, h⟩ := zk_o2 h
  refine zz_viQ (post := (fun r u => (r, u) = (r_1, u_2))) (w1 := fun u => (wl_X11_isShoeNumber ad cs court_shoeCount court_claimCount court_suitCount)) (As := [.int x1]) (rest := []) (c_X11_isShoeNumber l D cs ad  H.size x1 court_shoeCount court_claimCount court_suitCount (r_1, u_2) hc_3) ⟨hx, hb, hml, hown, ht⟩ (cwV 1 ht g_X11_125 rfl rfl rfl ⟨rfl, hd_X11_isShoeNumber⟩ ⟨Nat.le_of_ble_eq_true rfl, Nat.le_of_ble_eq_true rfl⟩) (va_recv hK hP (ci := 11) (q0 := 0) rfl rfl) hP hD hS hK hA [0, 1] rfl rfl [(ad 0), (ad 4)] rfl (fun _ => rfl) rfl hl.1 (Nat.le_of_ble_eq_true rfl) dX11_moveShoe_2 ⟨Nat.zero_le _, Nat.zero_le _⟩ (fun r u H locs hq hP hS => ?_)
  cases hq
  have hP : va_P D classes (wl_X11_moveShoe ad cs LP S_a S_b court_shoeCount court_claimCount court_suitCount court_shoeDay court_suits chg_done chg_size chg_sorts chg_numbers chg_befores chg_afters S_who S_against S_kind S_won S_day S_land S_undoneFrom S_asked S_askedCount S_askedBits S_first S_foundSo S_foundNot S_fought S_needed) H := hP
  have hD : va_D A (wl_X11_moveShoe ad cs LP S_a S_b court_shoeCount court_claimCount court_suitCount court_shoeDay court_suits chg_done chg_size chg_sorts chg_numbers chg_befores chg_afters S_who S_against S_kind S_won S_day S_land S_undoneFrom S_asked S_askedCount S_askedBits S_first S_foundSo S_foundNot S_fought S_needed) := zDkp hD [(ad 0), (ad 4), (ad 8), (ad 13), (ad 34), (ad 35), (ad 36), (ad 37), (ad 38)] rfl rfl
  refine lv_if_eq (tgt := 15) hx hb dX11_moveShoe_5 (by decide) (fun c_4 => ?_) (fun c_4 => ?_)
  · have h := zk_t c_4 h
    refine lv_iconst (v := (-1 : Int32)) hx hb dX11_moveShoe_15 (by decide) ?_
    exact W.iret (v := (-1 : Int32)) hx hb hr (fun t ht2 hW => ⟨⟨(-1 : Int32), (court_shoeDay, chg_done, chg_size, chg_sorts, chg_numbers, chg_befores, chg_afters, S_won, S_undoneFrom), rfl, Option.some.inj h, by rw [ht2]; exact hP, hD⟩, hS.F ht2⟩) hS.2.2 dX11_moveShoe_16 hlocks
  · have h := zk_f c_4 h
    refine lv_iload_n hx hb dX11_moveShoe_8 rfl (lv_at hl 2 rfl) ?_
    obtain ⟨r_5, u_6, hc_7, h⟩ := zk_o2 h
    refine zz_siQ (post := (fun r u => (r, u) = (r_5, u_6))) (w1 := fun u => (wl_X11_isDay ad cs )) (As := [.int x2]) (rest := []) (c_X11_isDay l D cs ad  H.size x2 (r_5, u_6) hc_7) ⟨hx, hb, hml, hown, ht⟩ (va_cwS 1 ht g_X11_141 rfl rfl rfl hd_X11_isDay ⟨Nat.le_of_ble_eq_true rfl, Nat.le_of_ble_eq_true rfl⟩) hP hD hS hK hA [] rfl rfl [] rfl (fun _ => rfl) rfl hl.1 (Nat.le_of_ble_eq_true rfl) dX11_moveShoe_9 ⟨Nat.zero_le _, Nat.zero_le _⟩ (fun r u H locs hq hP hS => ?_)
    cases hq
    have hP : va_P D classes (wl_X11_moveShoe ad cs LP S_a S_b court_shoeCount court_claimCount court_suitCount court_shoeDay court_suits chg_done chg_size chg_sorts chg_numbers chg_befores chg_afters S_who S_against S_kind S_won S_day S_land S_undoneFrom S_asked S_askedCount S_askedBits S_first S_foundSo S_foundNot S_fought S_needed) H := hP
    refine lv_if_ne (tgt := 17) hx hb dX11_moveShoe_12 (by decide) (fun c_8 => ?_) (fun c_8 => ?_)
    · have h := zk_f c_8 h
      refine lv_aload_n hx hb dX11_moveShoe_17 rfl (lv_at hl 0 rfl) ?_
      refine va_get (D := D) (ci := 11) (v := .ref (ad 4)) (C := RX11) (T := TX11) (N := 11) hx hb ht iX11 hown hK hP 0 rfl rfl 0 (by decide) (ht _ kw_696) (fun _ h9 => h9) rfl dX11_moveShoe_18 ?_
      refine va_get (D := D) (ci := 2) (v := .ref (ad 8)) (C := RX2) (T := TX2) (N := 13) hx hb ht iX2 hown hK hP 1 rfl rfl 3 (by decide) (ht _ kw_126) (fun _ h9 => h9) rfl dX11_moveShoe_21 ?_
      refine lv_iload_n hx hb dX11_moveShoe_24 rfl (lv_at hl 1 rfl) ?_
      obtain ⟨g_9, h⟩ := zk_gd h
      refine va_iald hx hb hK hP 2 0 rfl rfl g_9 dX11_moveShoe_25 ?_
      obtain ⟨v_10, ev_10, h⟩ := zk_lt h
      refine W.eq (g2 := F0 m 26 ls [.int v_10]) (by rw [ev_10]) ?_
      refine lv_istore_n (lv' := [(3, .int v_10), (0, .ref (ad 0)), (1, .int x1), (2, .int x2)]) hx hb dX11_moveShoe_26 rfl hl (by decide) rfl (fun ls hl => ?_)
      refine lv_aload_n hx hb dX11_moveShoe_27 rfl (lv_at hl 1 rfl) ?_
      refine va_get (D := D) (ci := 11) (v := .ref (ad 34)) (C := RX11) (T := TX11) (N := 11) hx hb ht iX11 hown hK hP 0 rfl rfl 6 (by decide) (ht _ kw_702) (fun _ h9 => h9) rfl dX11_moveShoe_28 ?_
      refine lv_iconst (v := (2 : Int32)) hx hb dX11_moveShoe_31 (by decide) ?_
      refine lv_iload_n hx hb dX11_moveShoe_32 rfl (lv_at hl 2 rfl) ?_
      refine lv_iload_n hx hb dX11_moveShoe_33 rfl (lv_at hl 0 rfl) ?_
      refine lv_iload_n hx hb dX11_moveShoe_34 rfl (lv_at hl 3 rfl) ?_
      obtain ⟨u_11, u_12, u_13, u_14, u_15, u_16, u_17, u_18, u_19, hc_20, h⟩ := zk_o9 h
      refine zk_vvP (post := (fun u => u = (u_11, u_12, u_13, u_14, u_15, u_16, u_17, u_18, u_19))) (w1 := fun u => (wx_X1_make ad cs LP S_a S_b court_shoeCount court_claimCount court_suitCount u.1 court_suits u.2.1 u.2.2.1 u.2.2.2.1 u.2.2.2.2.1 u.2.2.2.2.2.1 u.2.2.2.2.2.2.1 S_who S_against S_kind u.2.2.2.2.2.2.2.1 S_day S_land u.2.2.2.2.2.2.2.2 S_asked S_askedCount S_askedBits S_first S_foundSo S_foundNot S_fought S_needed)) (pl1 := fun u => (zSu cs S_a S_b court_suitCount.toInt.toNat S_who S_against S_kind u.2.2.2.2.2.2.2.1 S_day S_land u.2.2.2.2.2.2.2.2 S_asked S_askedCount S_askedBits S_first S_foundSo S_foundNot S_fought S_needed ++ LP)) (As := [.int (2 : Int32), .int x1, .int v_10, .int x2]) (rest := []) (c_X1_make l D cs ad LP S_a S_b H.size (2 : Int32) x1 v_10 x2 court_shoeCount court_claimCount court_suitCount court_shoeDay court_suits chg_done chg_size chg_sorts chg_numbers chg_befores chg_afters S_who S_against S_kind S_won S_day S_land S_undoneFrom S_asked S_askedCount S_askedBits S_first S_foundSo S_foundNot S_fought S_needed hSA (u_11, u_12, u_13, u_14, u_15, u_16, u_17, u_18, u_19) hc_20) ⟨hx, hb, hml, hown, ht⟩ (cwV 4 ht g_X11_144 rfl rfl rfl ⟨rfl, hd_X1_make⟩ ⟨Nat.le_of_ble_eq_true rfl, Nat.le_of_ble_eq_true rfl⟩) (va_recv hK hP (ci := 1) (q0 := 4) rfl rfl) hP hD hS hK hA [1, 2, 3, 4, 5, 6, 7, 8] [0] rfl rfl rfl rfl (by decide) rfl hl.1 (Nat.le_of_ble_eq_true rfl) dX11_moveShoe_35 ⟨Nat.zero_le _, Nat.zero_le _⟩ (fun u H locs hq hP hD hS => ?_)
      cases hq
      have hP : va_P D classes (wl_X11_moveShoe ad cs LP S_a S_b court_shoeCount court_claimCount court_suitCount u_11 court_suits u_12 u_13 u_14 u_15 u_16 u_17 S_who S_against S_kind u_18 S_day S_land u_19 S_asked S_askedCount S_askedBits S_first S_foundSo S_foundNot S_fought S_needed) H := hP.part [0, 1, 2, 3, 4, 5, 6, 7, 8] rfl
      have hD : va_D A (wl_X11_moveShoe ad cs LP S_a S_b court_shoeCount court_claimCount court_suitCount u_11 court_suits u_12 u_13 u_14 u_15 u_16 u_17 S_who S_against S_kind u_18 S_day S_land u_19 S_asked S_askedCount S_askedBits S_first S_foundSo S_foundNot S_fought S_needed) := hD.part [0, 1, 2, 3, 4, 5, 6, 7, 8] rfl rfl
      refine lv_iload_n hx hb dX11_moveShoe_38 rfl (lv_at hl 0 rfl) ?_
      exact W.iret (v := v_10) hx hb hr (fun t ht2 hW => ⟨⟨v_10, (u_11, u_12, u_13, u_14, u_15, u_16, u_17, u_18, u_19), rfl, Option.some.inj h, by rw [ht2]; exact hP, hD⟩, hS.F ht2⟩) hS.2.2 dX11_moveShoe_39 hlocks
    · have h := zk_t c_8 h
      refine lv_iconst (v := (-1 : Int32)) hx hb dX11_moveShoe_15 (by decide) ?_
      exact W.iret (v := (-1 : Int32)) hx hb hr (fun t ht2 hW => ⟨⟨(-1 : Int32), (court_shoeDay, chg_done, chg_size, chg_sorts, chg_numbers, chg_befores, chg_afters, S_won, S_undoneFrom), rfl, Option.some.inj h, by rw [ht2]; exact hP, hD⟩, hS.F ht2⟩) hS.2.2 dX11_moveShoe_16 hlocks
set_option maxHeartbeats 4000000 in
set_option maxRecDepth 100000 in
theorem c_X11_moveShoe (l : Launch) (D : va_G) (cs : Nat → ClassId) (ad : Nat → Nat) (LP : va_W) (S_a : Nat → Nat) (S_b : Nat → Nat) (sz : Nat) (x1 : Int32) (x2 : Int32) (court_shoeCount : Int32) (court_claimCount : Int32) (court_suitCount : Int32) (court_shoeDay : Nat → Int32) (court_suits : Nat → Option Nat) (chg_done : Int32) (chg_size : Int32) (chg_sorts : Nat → Int32) (chg_numbers : Nat → Int32) (chg_befores : Nat → Int32) (chg_afters : Nat → Int32) (S_who : Nat → Int32) (S_against : Nat → Int32) (S_kind : Nat → Int32) (S_won : Nat → Int32) (S_day : Nat → Int32) (S_land : Nat → Int32) (S_undoneFrom : Nat → Int32) (S_asked : Nat → Nat → Int32) (S_askedCount : Nat → Int32) (S_askedBits : Nat → Int32) (S_first : Nat → Int32) (S_foundSo : Nat → Int32) (S_foundNot : Nat → Int32) (S_fought : Nat → Int32) (S_needed : Nat → Int32) (hSA : ∀ i, i < court_suitCount.toInt.toNat → court_suits i = some (S_a i)) (R : Int32 × (Nat → Int32) × Int32 × Int32 × (Nat → Int32) × (Nat → Int32) × (Nat → Int32) × (Nat → Int32) × (Nat → Int32) × (Nat → Int32)) (h : f_X11_moveShoe   x1 x2 court_shoeCount court_claimCount court_suitCount court_shoeDay court_suits chg_done chg_size chg_sorts chg_numbers chg_befores chg_afters S_who S_against S_kind S_won S_day S_land S_undoneFrom S_asked S_askedCount S_askedBits S_first S_foundSo S_foundNot S_fought S_needed = some R) : Met l yX11_moveShoe (z_X11_moveShoe) rm_X11_moveShoe (va_Pc [.ref (ad 0), .int x1, .int x2] (zPre D cs (wl_X11_moveShoe ad cs LP S_a S_b court_shoeCount court_claimCount court_suitCount court_shoeDay court_suits chg_done chg_size chg_sorts chg_numbers chg_befores chg_afters S_who S_against S_kind S_won S_day S_land S_undoneFrom S_asked S_askedCount S_askedBits S_first S_foundSo S_foundNot S_fought S_needed) sz)) (Q_X11_moveShoe D cs ad LP S_a S_b court_shoeCount court_claimCount court_suitCount court_suits S_who S_against S_kind S_day S_land S_asked S_askedCount S_askedBits S_first S_foundSo S_foundNot S_fought S_needed (va_A (wl_X11_moveShoe ad cs LP S_a S_b court_shoeCount court_claimCount court_suitCount court_shoeDay court_suits chg_done chg_size chg_sorts chg_numbers chg_befores chg_afters S_who S_against S_kind S_won S_day S_land S_undoneFrom S_asked S_askedCount S_askedBits S_first S_foundSo S_foundNot S_fought S_needed) sz) R) 0 0 (va_A (wl_X11_moveShoe ad cs LP S_a S_b court_shoeCount court_claimCount court_suitCount court_shoeDay court_suits chg_done chg_size chg_sorts chg_numbers chg_befores chg_afters S_who S_against S_kind S_won S_day S_land S_undoneFrom S_asked S_askedCount S_askedBits S_first S_foundSo S_foundNot S_fought S_needed) sz) := by
  refine Met.ofW (cc := cX11_moveShoe) (maxL := 4) (ret := (some .int)) (by decide) rfl ?_
  intro p e s m args below meth c s₁ B hml hv
  obtain ⟨rfl, hsz, hP, hK, hD0⟩ := hv
  subst hsz
  have hD := hD0.self (sz := s.heap.size)
  have C0 : zC p s m _ meth c cX11_moveShoe 4 (some .int) RX11 zW := ⟨B.exec, B.bytes, B.returns, hml, findClass_of_methodNamed B.named, fun w hw => atoms_spec (ws := z_X11_moveShoe) B.pre w (List.mem_cons_of_mem _ hw), B.notSynchronized⟩
  have hA : ∀ q : Nat, s.heap.size ≤ q → va_A (wl_X11_moveShoe ad cs LP S_a S_b court_shoeCount court_claimCount court_suitCount court_shoeDay court_suits chg_done chg_size chg_sorts chg_numbers chg_befores chg_afters S_who S_against S_kind S_won S_day S_land S_undoneFrom S_asked S_askedCount S_askedBits S_first S_foundSo S_foundNot S_fought S_needed) s.heap.size q := fun q h => Or.inr h
  have hl := lv_entry ([.ref (ad 0), .int x1, .int x2]) (n := 4) (Nat.le_of_ble_eq_true rfl)
  rw [lg_entry_eq]
  generalize (lg_sl ([.ref (ad 0), .int x1, .int x2]) ++ List.replicate (4 - (lg_sl ([.ref (ad 0), .int x1, .int x2])).length) Slot.unset).toArray = ls at hl ⊢
  exact L_X11_moveShoe_0 C0 hK hA hSA   x1 x2 court_shoeDay chg_done chg_size chg_sorts chg_numbers chg_befores chg_afters S_won S_undoneFrom h s.heap [] ls hP hD va_S.rf hl
theorem zh_cX11_isPair_0 : zck [26, 155, 0, 25, 26, 16, 100, 108, 16, 20, 162, 0, 16, 26, 16, 100, 112, 16, 20, 162, 0, 7] (zdu 0 cX11_isPair.data.toList) = true := by decide +kernel
theorem dX11_isPair_0 : decode cX11_isPair 0 = .ok (.iload_n 0, 1) := zo_26 zh_cX11_isPair_0 0 rfl
theorem dX11_isPair_1 : decode cX11_isPair 1 = .ok (.ifCond .lt 25, 3) := zo_p155 zh_cX11_isPair_0 1 25 rfl rfl
theorem dX11_isPair_4 : decode cX11_isPair 4 = .ok (.iload_n 0, 1) := zo_26 zh_cX11_isPair_0 4 rfl
theorem dX11_isPair_5 : decode cX11_isPair 5 = .ok (.bipush 100, 2) := zo_p16 zh_cX11_isPair_0 5 100 rfl rfl
theorem dX11_isPair_7 : decode cX11_isPair 7 = .ok (.idiv, 1) := zo_108 zh_cX11_isPair_0 7 rfl
theorem dX11_isPair_8 : decode cX11_isPair 8 = .ok (.bipush 20, 2) := zo_p16 zh_cX11_isPair_0 8 20 rfl rfl
theorem dX11_isPair_10 : decode cX11_isPair 10 = .ok (.if_icmp .ge 16, 3) := zo_p162 zh_cX11_isPair_0 10 16 rfl rfl
theorem dX11_isPair_13 : decode cX11_isPair 13 = .ok (.iload_n 0, 1) := zo_26 zh_cX11_isPair_0 13 rfl
theorem dX11_isPair_14 : decode cX11_isPair 14 = .ok (.bipush 100, 2) := zo_p16 zh_cX11_isPair_0 14 100 rfl rfl
theorem dX11_isPair_16 : decode cX11_isPair 16 = .ok (.irem, 1) := zo_112 zh_cX11_isPair_0 16 rfl
theorem dX11_isPair_17 : decode cX11_isPair 17 = .ok (.bipush 20, 2) := zo_p16 zh_cX11_isPair_0 17 20 rfl rfl
theorem dX11_isPair_19 : decode cX11_isPair 19 = .ok (.if_icmp .ge 7, 3) := zo_p162 zh_cX11_isPair_0 19 7 rfl rfl
theorem zh_cX11_isPair_1 : zck [0, 7, 4, 167, 0, 4, 3, 172] (zdu 20 cX11_isPair.data.toList) = true := by decide +kernel
theorem dX11_isPair_22 : decode cX11_isPair 22 = .ok (.iconst 1, 1) := zo_4 zh_cX11_isPair_1 2 rfl
theorem dX11_isPair_23 : decode cX11_isPair 23 = .ok (.goto 4, 3) := zo_p167 zh_cX11_isPair_1 3 4 rfl rfl
theorem dX11_isPair_26 : decode cX11_isPair 26 = .ok (.iconst 0, 1) := zo_3 zh_cX11_isPair_1 6 rfl
theorem dX11_isPair_27 : decode cX11_isPair 27 = .ok (.ireturn, 1) := zo_172 zh_cX11_isPair_1 7 rfl
abbrev z_X11_isPair : List Cond := .code yX11_isPair cX11_isPair 1 (some .boolean) :: zW
abbrev wl_X11_isPair (ad : Nat → Nat) (cs : Nat → ClassId)   : va_W := []
def Q_X11_isPair (D : va_G) (cs : Nat → ClassId) (ad : Nat → Nat)   (A : Nat → Prop) (R : Int32 × Unit) : Array Value → State → Outcome → State → Prop :=
  va_Qi (fun (r : Int32) (u : Unit) => (r, u) = R) (fun (u : Unit) (t : State) => va_P D classes (wl_X11_isPair ad cs ) t.heap ∧ va_D A (wl_X11_isPair ad cs )) A
abbrev rm_X11_isPair : Room := { frames := 0, cells := 0, slots := 0, locals := 0 }
def B_X11_isPair_0     (x0 : Int32) : Option (Int32 × Unit) :=
  (if x0 < 0 then (some ((0 : Int32), ())) else (if (20 : Int32) ≤ (x0 / (100 : Int32)) then (some ((0 : Int32), ())) else (if (20 : Int32) ≤ (x0 - x0 / (100 : Int32) * (100 : Int32)) then (some ((0 : Int32), ())) else (some ((1 : Int32), ())))))
def f_X11_isPair   (x0 : Int32)  : Option (Int32 × Unit) := B_X11_isPair_0    x0 
set_option maxHeartbeats 4000000 in
set_option maxRecDepth 100000 in
theorem L_X11_isPair_0 {p : Program} {l : Launch} {e : Env} {s : State} {m : MethodId} {args : Array Value} {below : List Frame} {meth : Method} {c : Code} {A : Nat → Prop} {D : va_G} {cs : Nat → ClassId} {ad : Nat → Nat} {R : Int32 × Unit} (C0 : zC p s m args meth c cX11_isPair 1 (some .boolean) RX11 zW) (hK : va_K D classes (zT cs) s) (hA : ∀ q : Nat, s.heap.size ≤ q → A q) (x0 : Int32) (h : B_X11_isPair_0 x0 = some R) (H : Heap) (locs : List Loc) (ls : Array Slot) (hP : va_P D classes (wl_X11_isPair ad cs ) H) (hD : va_D A (wl_X11_isPair ad cs )) (hS : va_S A s.heap H locs) (hl : lv_has ls 1 [(0, .int x0)]) : W p l e rm_X11_isPair s m args below meth c H locs 0 0 (MQ below (Q_X11_isPair D cs ad  A R) args s 0 0 A) (F0 m 0 ls []) := by
  obtain ⟨hx, hb, hr, hml, hown, ht, hlocks⟩ := id C0
  refine lv_iload_n hx hb dX11_isPair_0 rfl (lv_at hl 0 rfl) ?_
  refine lv_if_lt (tgt := 26) hx hb dX11_isPair_1 (by decide) (fun c_1 => ?_) (fun c_1 => ?_)
  · have h := zk_t c_1 h
    refine lv_iconst (v := (0 : Int32)) hx hb dX11_isPair_26 (by decide) ?_
    exact W.zret (ty := .boolean) (v := (0 : Int32)) hx hb hr rfl (fun t ht2 hW => ⟨⟨(0 : Int32), (), rfl, Option.some.inj h, by rw [ht2]; exact hP, hD⟩, hS.F ht2⟩) hS.2.2 dX11_isPair_27 hlocks
  · have h := zk_f c_1 h
    refine lv_iload_n hx hb dX11_isPair_4 rfl (lv_at hl 0 rfl) ?_
    refine lv_bipush (v := (100 : Int32)) hx hb dX11_isPair_5 (by decide) ?_
    refine lv_idiv hx hb dX11_isPair_7 (by decide) ?_
    refine lv_bipush (v := (20 : Int32)) hx hb dX11_isPair_8 (by decide) ?_
    refine lv_icmp_ge (tgt := 26) hx hb dX11_isPair_10 (by decide) (fun c_2 => ?_) (fun c_2 => ?_)
    · have h := zk_t c_2 h
      refine lv_iconst (v := (0 : Int32)) hx hb dX11_isPair_26 (by decide) ?_
      exact W.zret (ty := .boolean) (v := (0 : Int32)) hx hb hr rfl (fun t ht2 hW => ⟨⟨(0 : Int32), (), rfl, Option.some.inj h, by rw [ht2]; exact hP, hD⟩, hS.F ht2⟩) hS.2.2 dX11_isPair_27 hlocks
    · have h := zk_f c_2 h
      refine lv_iload_n hx hb dX11_isPair_13 rfl (lv_at hl 0 rfl) ?_
      refine lv_bipush (v := (100 : Int32)) hx hb dX11_isPair_14 (by decide) ?_
      refine lv_irem hx hb dX11_isPair_16 (by decide) ?_
      refine lv_bipush (v := (20 : Int32)) hx hb dX11_isPair_17 (by decide) ?_
      refine lv_icmp_ge (tgt := 26) hx hb dX11_isPair_19 (by decide) (fun c_3 => ?_) (fun c_3 => ?_)
      · have h := zk_t c_3 h
        refine lv_iconst (v := (0 : Int32)) hx hb dX11_isPair_26 (by decide) ?_
        exact W.zret (ty := .boolean) (v := (0 : Int32)) hx hb hr rfl (fun t ht2 hW => ⟨⟨(0 : Int32), (), rfl, Option.some.inj h, by rw [ht2]; exact hP, hD⟩, hS.F ht2⟩) hS.2.2 dX11_isPair_27 hlocks
      · have h := zk_f c_3 h
        refine lv_iconst (v := (1 : Int32)) hx hb dX11_isPair_22 (by decide) ?_
        refine lv_goto (tgt := 27) hx hb dX11_isPair_23 (by decide) ?_
        exact W.zret (ty := .boolean) (v := (1 : Int32)) hx hb hr rfl (fun t ht2 hW => ⟨⟨(1 : Int32), (), rfl, Option.some.inj h, by rw [ht2]; exact hP, hD⟩, hS.F ht2⟩) hS.2.2 dX11_isPair_27 hlocks
set_option maxHeartbeats 4000000 in
set_option maxRecDepth 100000 in
theorem c_X11_isPair (l : Launch) (D : va_G) (cs : Nat → ClassId) (ad : Nat → Nat) (sz : Nat) (x0 : Int32)  (R : Int32 × Unit) (h : f_X11_isPair   x0  = some R) : Met l yX11_isPair (z_X11_isPair) rm_X11_isPair (va_Pc [.int x0] (zPre D cs (wl_X11_isPair ad cs ) sz)) (Q_X11_isPair D cs ad  (va_A (wl_X11_isPair ad cs ) sz) R) 0 0 (va_A (wl_X11_isPair ad cs ) sz) := by
  refine Met.ofW (cc := cX11_isPair) (maxL := 1) (ret := (some .boolean)) (by decide) rfl ?_
  intro p e s m args below meth c s₁ B hml hv
  obtain ⟨rfl, hsz, hP, hK, hD0⟩ := hv
  subst hsz
  have hD := hD0.self (sz := s.heap.size)
  have C0 : zC p s m _ meth c cX11_isPair 1 (some .boolean) RX11 zW := ⟨B.exec, B.bytes, B.returns, hml, findClass_of_methodNamed B.named, fun w hw => atoms_spec (ws := z_X11_isPair) B.pre w (List.mem_cons_of_mem _ hw), B.notSynchronized⟩
  have hA : ∀ q : Nat, s.heap.size ≤ q → va_A (wl_X11_isPair ad cs ) s.heap.size q := fun q h => Or.inr h
  have hl := lv_entry ([.int x0]) (n := 1) (Nat.le_of_ble_eq_true rfl)
  rw [lg_entry_eq]
  generalize (lg_sl ([.int x0]) ++ List.replicate (1 - (lg_sl ([.int x0])).length) Slot.unset).toArray = ls at hl ⊢
  exact L_X11_isPair_0 C0 hK hA   x0  h s.heap [] ls hP hD va_S.rf hl
theorem zh_cX11_isLand_0 : zck [26, 155, 0, 13, 26, 16, 8, 162, 0, 7, 4, 167, 0, 4, 3, 172] (zdu 0 cX11_isLand.data.toList) = true := by decide +kernel
theorem dX11_isLand_0 : decode cX11_isLand 0 = .ok (.iload_n 0, 1) := zo_26 zh_cX11_isLand_0 0 rfl
theorem dX11_isLand_1 : decode cX11_isLand 1 = .ok (.ifCond .lt 13, 3) := zo_p155 zh_cX11_isLand_0 1 13 rfl rfl
theorem dX11_isLand_4 : decode cX11_isLand 4 = .ok (.iload_n 0, 1) := zo_26 zh_cX11_isLand_0 4 rfl
theorem dX11_isLand_5 : decode cX11_isLand 5 = .ok (.bipush 8, 2) := zo_p16 zh_cX11_isLand_0 5 8 rfl rfl
theorem dX11_isLand_7 : decode cX11_isLand 7 = .ok (.if_icmp .ge 7, 3) := zo_p162 zh_cX11_isLand_0 7 7 rfl rfl
theorem dX11_isLand_10 : decode cX11_isLand 10 = .ok (.iconst 1, 1) := zo_4 zh_cX11_isLand_0 10 rfl
theorem dX11_isLand_11 : decode cX11_isLand 11 = .ok (.goto 4, 3) := zo_p167 zh_cX11_isLand_0 11 4 rfl rfl
theorem dX11_isLand_14 : decode cX11_isLand 14 = .ok (.iconst 0, 1) := zo_3 zh_cX11_isLand_0 14 rfl
theorem dX11_isLand_15 : decode cX11_isLand 15 = .ok (.ireturn, 1) := zo_172 zh_cX11_isLand_0 15 rfl
abbrev z_X11_isLand : List Cond := .code yX11_isLand cX11_isLand 1 (some .boolean) :: zW
abbrev wl_X11_isLand (ad : Nat → Nat) (cs : Nat → ClassId)   : va_W := []
def Q_X11_isLand (D : va_G) (cs : Nat → ClassId) (ad : Nat → Nat)   (A : Nat → Prop) (R : Int32 × Unit) : Array Value → State → Outcome → State → Prop :=
  va_Qi (fun (r : Int32) (u : Unit) => (r, u) = R) (fun (u : Unit) (t : State) => va_P D classes (wl_X11_isLand ad cs ) t.heap ∧ va_D A (wl_X11_isLand ad cs )) A
abbrev rm_X11_isLand : Room := { frames := 0, cells := 0, slots := 0, locals := 0 }
def B_X11_isLand_0     (x0 : Int32) : Option (Int32 × Unit) :=
  (if x0 < 0 then (some ((0 : Int32), ())) else (if (8 : Int32) ≤ x0 then (some ((0 : Int32), ())) else (some ((1 : Int32), ()))))
def f_X11_isLand   (x0 : Int32)  : Option (Int32 × Unit) := B_X11_isLand_0    x0 
set_option maxHeartbeats 4000000 in
set_option maxRecDepth 100000 in
theorem L_X11_isLand_0 {p : Program} {l : Launch} {e : Env} {s : State} {m : MethodId} {args : Array Value} {below : List Frame} {meth : Method} {c : Code} {A : Nat → Prop} {D : va_G} {cs : Nat → ClassId} {ad : Nat → Nat} {R : Int32 × Unit} (C0 : zC p s m args meth c cX11_isLand 1 (some .boolean) RX11 zW) (hK : va_K D classes (zT cs) s) (hA : ∀ q : Nat, s.heap.size ≤ q → A q) (x0 : Int32) (h : B_X11_isLand_0 x0 = some R) (H : Heap) (locs : List Loc) (ls : Array Slot) (hP : va_P D classes (wl_X11_isLand ad cs ) H) (hD : va_D A (wl_X11_isLand ad cs )) (hS : va_S A s.heap H locs) (hl : lv_has ls 1 [(0, .int x0)]) : W p l e rm_X11_isLand s m args below meth c H locs 0 0 (MQ below (Q_X11_isLand D cs ad  A R) args s 0 0 A) (F0 m 0 ls []) := by
  obtain ⟨hx, hb, hr, hml, hown, ht, hlocks⟩ := id C0
  refine lv_iload_n hx hb dX11_isLand_0 rfl (lv_at hl 0 rfl) ?_
  refine lv_if_lt (tgt := 14) hx hb dX11_isLand_1 (by decide) (fun c_1 => ?_) (fun c_1 => ?_)
  · have h := zk_t c_1 h
    refine lv_iconst (v := (0 : Int32)) hx hb dX11_isLand_14 (by decide) ?_
    exact W.zret (ty := .boolean) (v := (0 : Int32)) hx hb hr rfl (fun t ht2 hW => ⟨⟨(0 : Int32), (), rfl, Option.some.inj h, by rw [ht2]; exact hP, hD⟩, hS.F ht2⟩) hS.2.2 dX11_isLand_15 hlocks
  · have h := zk_f c_1 h
    refine lv_iload_n hx hb dX11_isLand_4 rfl (lv_at hl 0 rfl) ?_
    refine lv_bipush (v := (8 : Int32)) hx hb dX11_isLand_5 (by decide) ?_
    refine lv_icmp_ge (tgt := 14) hx hb dX11_isLand_7 (by decide) (fun c_2 => ?_) (fun c_2 => ?_)
    · have h := zk_t c_2 h
      refine lv_iconst (v := (0 : Int32)) hx hb dX11_isLand_14 (by decide) ?_
      exact W.zret (ty := .boolean) (v := (0 : Int32)) hx hb hr rfl (fun t ht2 hW => ⟨⟨(0 : Int32), (), rfl, Option.some.inj h, by rw [ht2]; exact hP, hD⟩, hS.F ht2⟩) hS.2.2 dX11_isLand_15 hlocks
    · have h := zk_f c_2 h
      refine lv_iconst (v := (1 : Int32)) hx hb dX11_isLand_10 (by decide) ?_
      refine lv_goto (tgt := 15) hx hb dX11_isLand_11 (by decide) ?_
      exact W.zret (ty := .boolean) (v := (1 : Int32)) hx hb hr rfl (fun t ht2 hW => ⟨⟨(1 : Int32), (), rfl, Option.some.inj h, by rw [ht2]; exact hP, hD⟩, hS.F ht2⟩) hS.2.2 dX11_isLand_15 hlocks
set_option maxHeartbeats 4000000 in
set_option maxRecDepth 100000 in
theorem c_X11_isLand (l : Launch) (D : va_G) (cs : Nat → ClassId) (ad : Nat → Nat) (sz : Nat) (x0 : Int32)  (R : Int32 × Unit) (h : f_X11_isLand   x0  = some R) : Met l yX11_isLand (z_X11_isLand) rm_X11_isLand (va_Pc [.int x0] (zPre D cs (wl_X11_isLand ad cs ) sz)) (Q_X11_isLand D cs ad  (va_A (wl_X11_isLand ad cs ) sz) R) 0 0 (va_A (wl_X11_isLand ad cs ) sz) := by
  refine Met.ofW (cc := cX11_isLand) (maxL := 1) (ret := (some .boolean)) (by decide) rfl ?_
  intro p e s m args below meth c s₁ B hml hv
  obtain ⟨rfl, hsz, hP, hK, hD0⟩ := hv
  subst hsz
  have hD := hD0.self (sz := s.heap.size)
  have C0 : zC p s m _ meth c cX11_isLand 1 (some .boolean) RX11 zW := ⟨B.exec, B.bytes, B.returns, hml, findClass_of_methodNamed B.named, fun w hw => atoms_spec (ws := z_X11_isLand) B.pre w (List.mem_cons_of_mem _ hw), B.notSynchronized⟩
  have hA : ∀ q : Nat, s.heap.size ≤ q → va_A (wl_X11_isLand ad cs ) s.heap.size q := fun q h => Or.inr h
  have hl := lv_entry ([.int x0]) (n := 1) (Nat.le_of_ble_eq_true rfl)
  rw [lg_entry_eq]
  generalize (lg_sl ([.int x0]) ++ List.replicate (1 - (lg_sl ([.int x0])).length) Slot.unset).toArray = ls at hl ⊢
  exact L_X11_isLand_0 C0 hK hA   x0  h s.heap [] ls hP hD va_S.rf hl
theorem zh_cX11_isChoice_0 : zck [26, 153, 0, 8, 26, 4, 160, 0, 7, 4, 167, 0, 4, 3, 172] (zdu 0 cX11_isChoice.data.toList) = true := by decide +kernel
theorem dX11_isChoice_0 : decode cX11_isChoice 0 = .ok (.iload_n 0, 1) := zo_26 zh_cX11_isChoice_0 0 rfl
theorem dX11_isChoice_1 : decode cX11_isChoice 1 = .ok (.ifCond .eq 8, 3) := zo_p153 zh_cX11_isChoice_0 1 8 rfl rfl
theorem dX11_isChoice_4 : decode cX11_isChoice 4 = .ok (.iload_n 0, 1) := zo_26 zh_cX11_isChoice_0 4 rfl
theorem dX11_isChoice_5 : decode cX11_isChoice 5 = .ok (.iconst 1, 1) := zo_4 zh_cX11_isChoice_0 5 rfl
theorem dX11_isChoice_6 : decode cX11_isChoice 6 = .ok (.if_icmp .ne 7, 3) := zo_p160 zh_cX11_isChoice_0 6 7 rfl rfl
theorem dX11_isChoice_9 : decode cX11_isChoice 9 = .ok (.iconst 1, 1) := zo_4 zh_cX11_isChoice_0 9 rfl
theorem dX11_isChoice_10 : decode cX11_isChoice 10 = .ok (.goto 4, 3) := zo_p167 zh_cX11_isChoice_0 10 4 rfl rfl
theorem dX11_isChoice_13 : decode cX11_isChoice 13 = .ok (.iconst 0, 1) := zo_3 zh_cX11_isChoice_0 13 rfl
theorem dX11_isChoice_14 : decode cX11_isChoice 14 = .ok (.ireturn, 1) := zo_172 zh_cX11_isChoice_0 14 rfl
abbrev z_X11_isChoice : List Cond := .code yX11_isChoice cX11_isChoice 1 (some .boolean) :: zW
abbrev wl_X11_isChoice (ad : Nat → Nat) (cs : Nat → ClassId)   : va_W := []
def Q_X11_isChoice (D : va_G) (cs : Nat → ClassId) (ad : Nat → Nat)   (A : Nat → Prop) (R : Int32 × Unit) : Array Value → State → Outcome → State → Prop :=
  va_Qi (fun (r : Int32) (u : Unit) => (r, u) = R) (fun (u : Unit) (t : State) => va_P D classes (wl_X11_isChoice ad cs ) t.heap ∧ va_D A (wl_X11_isChoice ad cs )) A
abbrev rm_X11_isChoice : Room := { frames := 0, cells := 0, slots := 0, locals := 0 }
def B_X11_isChoice_9      : Option (Int32 × Unit) :=
  (some ((1 : Int32), ()))
def B_X11_isChoice_0     (x0 : Int32) : Option (Int32 × Unit) :=
  (if x0 = 0 then (B_X11_isChoice_9 ) else (if x0 = (1 : Int32) then (B_X11_isChoice_9 ) else (some ((0 : Int32), ()))))
def f_X11_isChoice   (x0 : Int32)  : Option (Int32 × Unit) := B_X11_isChoice_0    x0 
set_option maxHeartbeats 4000000 in
set_option maxRecDepth 100000 in
theorem L_X11_isChoice_9 {p : Program} {l : Launch} {e : Env} {s : State} {m : MethodId} {args : Array Value} {below : List Frame} {meth : Method} {c : Code} {A : Nat → Prop} {D : va_G} {cs : Nat → ClassId} {ad : Nat → Nat} {R : Int32 × Unit} (C0 : zC p s m args meth c cX11_isChoice 1 (some .boolean) RX11 zW) (hK : va_K D classes (zT cs) s) (hA : ∀ q : Nat, s.heap.size ≤ q → A q)  (h : B_X11_isChoice_9  = some R) (H : Heap) (locs : List Loc) (ls : Array Slot) (hP : va_P D classes (wl_X11_isChoice ad cs ) H) (hD : va_D A (wl_X11_isChoice ad cs )) (hS : va_S A s.heap H locs) (hl : lv_has ls 1 []) : W p l e rm_X11_isChoice s m args below meth c H locs 0 0 (MQ below (Q_X11_isChoice D cs ad  A R) args s 0 0 A) (F0 m 9 ls []) := by
  obtain ⟨hx, hb, hr, hml, hown, ht, hlocks⟩ := id C0
  refine lv_iconst (v := (1 : Int32)) hx hb dX11_isChoice_9 (by decide) ?_
  refine lv_goto (tgt := 14) hx hb dX11_isChoice_10 (by decide) ?_
  exact W.zret (ty := .boolean) (v := (1 : Int32)) hx hb hr rfl (fun t ht2 hW => ⟨⟨(1 : Int32), (), rfl, Option.some.inj h, by rw [ht2]; exact hP, hD⟩, hS.F ht2⟩) hS.2.2 dX11_isChoice_14 hlocks
set_option maxHeartbeats 4000000 in
set_option maxRecDepth 100000 in
theorem L_X11_isChoice_0 {p : Program} {l : Launch} {e : Env} {s : State} {m : MethodId} {args : Array Value} {below : List Frame} {meth : Method} {c : Code} {A : Nat → Prop} {D : va_G} {cs : Nat → ClassId} {ad : Nat → Nat} {R : Int32 × Unit} (C0 : zC p s m args meth c cX11_isChoice 1 (some .boolean) RX11 zW) (hK : va_K D classes (zT cs) s) (hA : ∀ q : Nat, s.heap.size ≤ q → A q) (x0 : Int32) (h : B_X11_isChoice_0 x0 = some R) (H : Heap) (locs : List Loc) (ls : Array Slot) (hP : va_P D classes (wl_X11_isChoice ad cs ) H) (hD : va_D A (wl_X11_isChoice ad cs )) (hS : va_S A s.heap H locs) (hl : lv_has ls 1 [(0, .int x0)]) : W p l e rm_X11_isChoice s m args below meth c H locs 0 0 (MQ below (Q_X11_isChoice D cs ad  A R) args s 0 0 A) (F0 m 0 ls []) := by
  obtain ⟨hx, hb, hr, hml, hown, ht, hlocks⟩ := id C0
  refine lv_iload_n hx hb dX11_isChoice_0 rfl (lv_at hl 0 rfl) ?_
  refine lv_if_eq (tgt := 9) hx hb dX11_isChoice_1 (by decide) (fun c_1 => ?_) (fun c_1 => ?_)
  · have h := zk_t c_1 h
    exact L_X11_isChoice_9 C0 hK hA    h H locs ls hP hD hS (lv_sub hl [] rfl)
  · have h := zk_f c_1 h
    refine lv_iload_n hx hb dX11_isChoice_4 rfl (lv_at hl 0 rfl) ?_
    refine lv_iconst (v := (1 : Int32)) hx hb dX11_isChoice_5 (by decide) ?_
    refine lv_icmp_ne (tgt := 13) hx hb dX11_isChoice_6 (by decide) (fun c_2 => ?_) (fun c_2 => ?_)
    · have h := zk_f c_2 h
      refine lv_iconst (v := (0 : Int32)) hx hb dX11_isChoice_13 (by decide) ?_
      exact W.zret (ty := .boolean) (v := (0 : Int32)) hx hb hr rfl (fun t ht2 hW => ⟨⟨(0 : Int32), (), rfl, Option.some.inj h, by rw [ht2]; exact hP, hD⟩, hS.F ht2⟩) hS.2.2 dX11_isChoice_14 hlocks
    · have h := zk_t c_2 h
      exact L_X11_isChoice_9 C0 hK hA    h H locs ls hP hD hS (lv_sub hl [] rfl)
set_option maxHeartbeats 4000000 in
set_option maxRecDepth 100000 in
theorem c_X11_isChoice (l : Launch) (D : va_G) (cs : Nat → ClassId) (ad : Nat → Nat) (sz : Nat) (x0 : Int32)  (R : Int32 × Unit) (h : f_X11_isChoice   x0  = some R) : Met l yX11_isChoice (z_X11_isChoice) rm_X11_isChoice (va_Pc [.int x0] (zPre D cs (wl_X11_isChoice ad cs ) sz)) (Q_X11_isChoice D cs ad  (va_A (wl_X11_isChoice ad cs ) sz) R) 0 0 (va_A (wl_X11_isChoice ad cs ) sz) := by
  refine Met.ofW (cc := cX11_isChoice) (maxL := 1) (ret := (some .boolean)) (by decide) rfl ?_
  intro p e s m args below meth c s₁ B hml hv
  obtain ⟨rfl, hsz, hP, hK, hD0⟩ := hv
  subst hsz
  have hD := hD0.self (sz := s.heap.size)
  have C0 : zC p s m _ meth c cX11_isChoice 1 (some .boolean) RX11 zW := ⟨B.exec, B.bytes, B.returns, hml, findClass_of_methodNamed B.named, fun w hw => atoms_spec (ws := z_X11_isChoice) B.pre w (List.mem_cons_of_mem _ hw), B.notSynchronized⟩
  have hA : ∀ q : Nat, s.heap.size ≤ q → va_A (wl_X11_isChoice ad cs ) s.heap.size q := fun q h => Or.inr h
  have hl := lv_entry ([.int x0]) (n := 1) (Nat.le_of_ble_eq_true rfl)
  rw [lg_entry_eq]
  generalize (lg_sl ([.int x0]) ++ List.replicate (1 - (lg_sl ([.int x0])).length) Slot.unset).toArray = ls at hl ⊢
  exact L_X11_isChoice_0 C0 hK hA   x0  h s.heap [] ls hP hD va_S.rf hl
