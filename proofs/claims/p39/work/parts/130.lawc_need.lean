theorem dL_law_1108 : decode cL_law 1108 = .ok (.aload_n 1, 1) := zo_43 zh_cL_law_55 8 rfl
theorem dL_law_1109 : decode cL_law 1109 = .ok (.aload_n 0, 1) := zo_42 zh_cL_law_55 9 rfl
theorem dL_law_1110 : decode cL_law 1110 = .ok (.iload_n 3, 1) := zo_29 zh_cL_law_55 10 rfl
theorem dL_law_1111 : decode cL_law 1111 = .ok (.iconst 1, 1) := zo_4 zh_cL_law_55 11 rfl
theorem dL_law_1112 : decode cL_law 1112 = .ok (.iadd, 1) := zo_96 zh_cL_law_55 12 rfl
theorem dL_law_1113 : decode cL_law 1113 = .ok (.iaload, 1) := zo_46 zh_cL_law_55 13 rfl
theorem dL_law_1114 : decode cL_law 1114 = .ok (.aload_n 0, 1) := zo_42 zh_cL_law_55 14 rfl
theorem dL_law_1115 : decode cL_law 1115 = .ok (.iload_n 3, 1) := zo_29 zh_cL_law_55 15 rfl
theorem dL_law_1116 : decode cL_law 1116 = .ok (.iconst 2, 1) := zo_5 zh_cL_law_55 16 rfl
theorem dL_law_1117 : decode cL_law 1117 = .ok (.iadd, 1) := zo_96 zh_cL_law_55 17 rfl
theorem dL_law_1118 : decode cL_law 1118 = .ok (.iaload, 1) := zo_46 zh_cL_law_55 18 rfl
theorem dL_law_1119 : decode cL_law 1119 = .ok (.aload_n 0, 1) := zo_42 zh_cL_law_55 19 rfl
set_option maxRecDepth 100000 in
theorem zh_cL_law_56 : zck [29, 6, 96, 46, 182, 0, 123, 87, 44, 42, 29, 4, 96, 46, 42, 29, 5, 96, 46, 42, 29, 6] (zdu 1120 cL_law.data.toList) = true := by decide +kernel
theorem dL_law_1120 : decode cL_law 1120 = .ok (.iload_n 3, 1) := zo_29 zh_cL_law_56 0 rfl
theorem dL_law_1121 : decode cL_law 1121 = .ok (.iconst 3, 1) := zo_6 zh_cL_law_56 1 rfl
theorem dL_law_1122 : decode cL_law 1122 = .ok (.iadd, 1) := zo_96 zh_cL_law_56 2 rfl
theorem dL_law_1123 : decode cL_law 1123 = .ok (.iaload, 1) := zo_46 zh_cL_law_56 3 rfl
theorem dL_law_1124 : decode cL_law 1124 = .ok (.invokevirtual 123, 3) := zo_182 zh_cL_law_56 4 rfl
theorem dL_law_1127 : decode cL_law 1127 = .ok (.pop, 1) := zo_87 zh_cL_law_56 7 rfl
theorem dL_law_1128 : decode cL_law 1128 = .ok (.aload_n 2, 1) := zo_44 zh_cL_law_56 8 rfl
theorem dL_law_1129 : decode cL_law 1129 = .ok (.aload_n 0, 1) := zo_42 zh_cL_law_56 9 rfl
theorem dL_law_1130 : decode cL_law 1130 = .ok (.iload_n 3, 1) := zo_29 zh_cL_law_56 10 rfl
theorem dL_law_1131 : decode cL_law 1131 = .ok (.iconst 1, 1) := zo_4 zh_cL_law_56 11 rfl
theorem dL_law_1132 : decode cL_law 1132 = .ok (.iadd, 1) := zo_96 zh_cL_law_56 12 rfl
theorem dL_law_1133 : decode cL_law 1133 = .ok (.iaload, 1) := zo_46 zh_cL_law_56 13 rfl
theorem dL_law_1134 : decode cL_law 1134 = .ok (.aload_n 0, 1) := zo_42 zh_cL_law_56 14 rfl
theorem dL_law_1135 : decode cL_law 1135 = .ok (.iload_n 3, 1) := zo_29 zh_cL_law_56 15 rfl
theorem dL_law_1136 : decode cL_law 1136 = .ok (.iconst 2, 1) := zo_5 zh_cL_law_56 16 rfl
theorem dL_law_1137 : decode cL_law 1137 = .ok (.iadd, 1) := zo_96 zh_cL_law_56 17 rfl
theorem dL_law_1138 : decode cL_law 1138 = .ok (.iaload, 1) := zo_46 zh_cL_law_56 18 rfl
theorem dL_law_1139 : decode cL_law 1139 = .ok (.aload_n 0, 1) := zo_42 zh_cL_law_56 19 rfl
set_option maxRecDepth 100000 in
theorem zh_cL_law_57 : zck [29, 6, 96, 46, 182, 0, 126, 87, 167, 1, 140, 43, 182, 0, 127, 87, 44, 182, 0, 130, 87, 167] (zdu 1140 cL_law.data.toList) = true := by decide +kernel
theorem dL_law_1140 : decode cL_law 1140 = .ok (.iload_n 3, 1) := zo_29 zh_cL_law_57 0 rfl
theorem dL_law_1141 : decode cL_law 1141 = .ok (.iconst 3, 1) := zo_6 zh_cL_law_57 1 rfl
theorem dL_law_1142 : decode cL_law 1142 = .ok (.iadd, 1) := zo_96 zh_cL_law_57 2 rfl
theorem dL_law_1143 : decode cL_law 1143 = .ok (.iaload, 1) := zo_46 zh_cL_law_57 3 rfl
theorem dL_law_1144 : decode cL_law 1144 = .ok (.invokevirtual 126, 3) := zo_182 zh_cL_law_57 4 rfl
theorem dL_law_1147 : decode cL_law 1147 = .ok (.pop, 1) := zo_87 zh_cL_law_57 7 rfl
theorem dL_law_1148 : decode cL_law 1148 = .ok (.goto 396, 3) := zo_p167 zh_cL_law_57 8 396 rfl rfl
set_option maxHeartbeats 8000000 in
set_option maxRecDepth 100000 in
theorem law_case_26 {p : Program} {l : Launch} {e : Env} {s : State} {m : MethodId} {below : List Frame} {meth : Method} {c : Code} {b L : Nat} {xs : Nat → Int32} {D : va_G} {cs : Nat → ClassId} {k : (Nat → Nat) × (Nat → Nat)} {ad am : Nat → Nat} (C0 : lw_At p s m meth c b L xs) (hK : va_K D classes (zT cs) s) (hO : zO s) (hE : zE k (fun q : Nat => s.heap.size ≤ q) s) (hL : L ≤ 3072) (x3 : Int32) (h3 : 0 ≤ x3.toInt ∧ x3.toInt + 6 ≤ (L : Int)) (z : ZT) (w : MT) (hI : IX ad cs z) (hJ : IM w) (hr : RL z w) (cells slots : Nat) (hc : cells + 2 ≤ 600000) (hs : slots + 122 ≤ 7302250) (H : Heap) (locs : List Loc) (ls : Array Slot) (hP : va_P D classes (WM am cs w ++ WX ad cs z) H) (hD : va_D (fun q : Nat => s.heap.size ≤ q) (WM am cs w ++ WX ad cs z)) (hS : va_S (fun q : Nat => s.heap.size ≤ q) s.heap H locs) (hl : lv_has ls 4 [(0, .ref b), (1, .ref (ad 0)), (2, .ref (am 41)), (3, .int x3)]) (kk : ∀ (z2 : ZT) (w2 : MT) (H : Heap) (locs : List Loc) (ls : Array Slot) (cells2 slots2 : Nat), IX ad cs z2 → IM w2 → RL z2 w2 → cells2 ≤ cells + 2 → slots2 ≤ slots + 122 → va_P D classes (WM am cs w2 ++ WX ad cs z2) H → va_D (fun q : Nat => s.heap.size ≤ q) (WM am cs w2 ++ WX ad cs z2) → va_S (fun q : Nat => s.heap.size ≤ q) s.heap H locs → lv_has ls 4 [(0, .ref b), (1, .ref (ad 0)), (2, .ref (am 41)), (3, .int x3)] → W p l e room_1 s m #[Value.ref b] below meth c H locs cells2 slots2 (lw_Z below #[Value.ref b] s) (F0 m 1544 ls [])) : W p l e room_1 s m #[Value.ref b] below meth c H locs cells slots (lw_Z below #[Value.ref b] s) (F0 m 1108 ls []) := by
  obtain ⟨hx, hb, hret, hml, hown, hts, hX, hbl, hlocks, hgv⟩ := id C0
  have hA : ∀ q : Nat, s.heap.size ≤ q → (fun q : Nat => s.heap.size ≤ q) q := fun _ h => h
  have hbA : ¬ (fun q : Nat => s.heap.size ≤ q) b := Nat.not_le.mpr hbl
  have ht : ∀ w ∈ zW, w.before #[Value.ref b] s = true := fun w hw => hts w (List.mem_filter.mp hw).1
  refine lv_aload_n hx hb dL_law_1108 rfl (lv_at hl 1 rfl) ?_
  refine lv_aload_n hx hb dL_law_1109 rfl (lv_at hl 0 rfl) ?_
  refine lv_iload_n hx hb dL_law_1110 rfl (lv_at hl 3 rfl) ?_
  refine lv_iconst (v := (1 : Int32)) hx hb dL_law_1111 (by decide) ?_
  refine lv_iadd hx hb dL_law_1112 ?_
  refine va_sld hx hb hX hbl hbA hS (zl_in h3 hL (by decide)) dL_law_1113 ?_
  refine lv_aload_n hx hb dL_law_1114 rfl (lv_at hl 0 rfl) ?_
  refine lv_iload_n hx hb dL_law_1115 rfl (lv_at hl 3 rfl) ?_
  refine lv_iconst (v := (2 : Int32)) hx hb dL_law_1116 (by decide) ?_
  refine lv_iadd hx hb dL_law_1117 ?_
  refine va_sld hx hb hX hbl hbA hS (zl_in h3 hL (by decide)) dL_law_1118 ?_
  refine lv_aload_n hx hb dL_law_1119 rfl (lv_at hl 0 rfl) ?_
  refine lv_iload_n hx hb dL_law_1120 rfl (lv_at hl 3 rfl) ?_
  refine lv_iconst (v := (3 : Int32)) hx hb dL_law_1121 (by decide) ?_
  refine lv_iadd hx hb dL_law_1122 ?_
  refine va_sld hx hb hX hbl hbA hS (zl_in h3 hL (by decide)) dL_law_1123 ?_
  obtain ⟨R1, hf1, hI2, hM1⟩ := K_X11_need l D cs k H.size ad z hI (xs (x3 + (1 : Int32)).toNatClampNeg) (xs (x3 + (2 : Int32)).toNatClampNeg) (xs (x3 + (3 : Int32)).toNatClampNeg)
  refine zk_LXi (As := [.int (xs (x3 + (1 : Int32)).toNatClampNeg), .int (xs (x3 + (2 : Int32)).toNatClampNeg), .int (xs (x3 + (3 : Int32)).toNatClampNeg)]) (rest := []) hE hO hM1 ⟨hx, hb, hml, hown, ht⟩ (cwV 3 ht gl_123 rfl rfl rfl (by decide +kernel) ⟨Nat.le_of_ble_eq_true rfl, Nat.le_of_ble_eq_true rfl⟩) (va_recv hK hP (ci := 11) (q0 := 44) rfl rfl) hP hD hS hK hA rfl hl.1 (Nat.le_of_ble_eq_true rfl) dL_law_1124 ⟨by show _ ≤ 600000; omega, by show _ ≤ 7302250; omega⟩ (fun H locs hP hD hS => ?_)
  refine lv_pop hx hb dL_law_1127 rfl ?_
  refine lv_aload_n hx hb dL_law_1128 rfl (lv_at hl 2 rfl) ?_
  refine lv_aload_n hx hb dL_law_1129 rfl (lv_at hl 0 rfl) ?_
  refine lv_iload_n hx hb dL_law_1130 rfl (lv_at hl 3 rfl) ?_
  refine lv_iconst (v := (1 : Int32)) hx hb dL_law_1131 (by decide) ?_
  refine lv_iadd hx hb dL_law_1132 ?_
  refine va_sld hx hb hX hbl hbA hS (zl_in h3 hL (by decide)) dL_law_1133 ?_
  refine lv_aload_n hx hb dL_law_1134 rfl (lv_at hl 0 rfl) ?_
  refine lv_iload_n hx hb dL_law_1135 rfl (lv_at hl 3 rfl) ?_
  refine lv_iconst (v := (2 : Int32)) hx hb dL_law_1136 (by decide) ?_
  refine lv_iadd hx hb dL_law_1137 ?_
  refine va_sld hx hb hX hbl hbA hS (zl_in h3 hL (by decide)) dL_law_1138 ?_
  refine lv_aload_n hx hb dL_law_1139 rfl (lv_at hl 0 rfl) ?_
  refine lv_iload_n hx hb dL_law_1140 rfl (lv_at hl 3 rfl) ?_
  refine lv_iconst (v := (3 : Int32)) hx hb dL_law_1141 (by decide) ?_
  refine lv_iadd hx hb dL_law_1142 ?_
  refine va_sld hx hb hX hbl hbA hS (zl_in h3 hL (by decide)) dL_law_1143 ?_
  obtain ⟨R2, hf2, hJ2, hM2⟩ := K_X12_need l D cs k H.size am w hJ (xs (x3 + (1 : Int32)).toNatClampNeg) (xs (x3 + (2 : Int32)).toNatClampNeg) (xs (x3 + (3 : Int32)).toNatClampNeg)
  refine zk_LMi (As := [.int (xs (x3 + (1 : Int32)).toNatClampNeg), .int (xs (x3 + (2 : Int32)).toNatClampNeg), .int (xs (x3 + (3 : Int32)).toNatClampNeg)]) (rest := []) hE hO hM2 ⟨hx, hb, hml, hown, ht⟩ (cwV 3 ht gl_126 rfl rfl rfl (by decide +kernel) ⟨Nat.le_of_ble_eq_true rfl, Nat.le_of_ble_eq_true rfl⟩) (va_recv hK hP (ci := 12) (q0 := 0) rfl rfl) hP hD hS hK hA rfl hl.1 (Nat.le_of_ble_eq_true rfl) dL_law_1144 ⟨by show _ ≤ 600000; omega, by show _ ≤ 7302250; omega⟩ (fun H locs hP hD hS => ?_)
  refine lv_pop hx hb dL_law_1147 rfl ?_
  refine lv_goto (tgt := 1544) hx hb dL_law_1148 (by decide) ?_
  exact kk _ _ H locs ls _ _ hI2 hJ2 ⟨(rl_0 hr :), (rl_1 hr :), (rl_2 hr :), (rl_3 hr :), (rl_4 hr :), (rl_5 hr :), (rl_6 hr :), (rl_7 hr :), (rl_8 hr :), (rl_9 hr :), (rl_10 hr :), (rl_11 hr :), (rl_12 hr :), (rl_13 hr :), (rl_14 hr :), (rl_15 hr :), (rl_16 hr :), (rl_17 hr :), (rl_18 hr :), (rl_19 hr :), (rl_20 hr :), (rl_21 hr :), (rl_22 hr :), (rl_23 hr :), (rl_24 hr :), (rl_25 hr :), (rl_26 hr :), (rl_27 hr :), (rl_28 hr :), (rl_29 hr :), (rl_30 hr :), (rl_31 hr :), (rl_32 hr :), (rl_33 hr :)⟩ (by omega) (by omega) hP hD hS (lv_sub hl [0, 1, 2, 3] rfl)
theorem dL_law_1151 : decode cL_law 1151 = .ok (.aload_n 1, 1) := zo_43 zh_cL_law_57 11 rfl
theorem dL_law_1152 : decode cL_law 1152 = .ok (.invokevirtual 127, 3) := zo_182 zh_cL_law_57 12 rfl
theorem dL_law_1155 : decode cL_law 1155 = .ok (.pop, 1) := zo_87 zh_cL_law_57 15 rfl
theorem dL_law_1156 : decode cL_law 1156 = .ok (.aload_n 2, 1) := zo_44 zh_cL_law_57 16 rfl
theorem dL_law_1157 : decode cL_law 1157 = .ok (.invokevirtual 130, 3) := zo_182 zh_cL_law_57 17 rfl
set_option maxRecDepth 100000 in
theorem zh_cL_law_58 : zck [87, 167, 1, 127, 43, 182, 0, 131, 87, 44, 182, 0, 134, 87, 167, 1, 114, 43, 42, 29, 4, 96] (zdu 1160 cL_law.data.toList) = true := by decide +kernel
theorem dL_law_1160 : decode cL_law 1160 = .ok (.pop, 1) := zo_87 zh_cL_law_58 0 rfl
theorem dL_law_1161 : decode cL_law 1161 = .ok (.goto 383, 3) := zo_p167 zh_cL_law_58 1 383 rfl rfl
set_option maxHeartbeats 8000000 in
set_option maxRecDepth 100000 in
theorem law_case_27 {p : Program} {l : Launch} {e : Env} {s : State} {m : MethodId} {below : List Frame} {meth : Method} {c : Code} {b L : Nat} {xs : Nat → Int32} {D : va_G} {cs : Nat → ClassId} {k : (Nat → Nat) × (Nat → Nat)} {ad am : Nat → Nat} (C0 : lw_At p s m meth c b L xs) (hK : va_K D classes (zT cs) s) (hO : zO s) (hE : zE k (fun q : Nat => s.heap.size ≤ q) s) (hL : L ≤ 3072) (x3 : Int32) (h3 : 0 ≤ x3.toInt ∧ x3.toInt + 6 ≤ (L : Int)) (z : ZT) (w : MT) (hI : IX ad cs z) (hJ : IM w) (hr : RL z w) (cells slots : Nat) (hc : cells + 2 ≤ 600000) (hs : slots + 122 ≤ 7302250) (H : Heap) (locs : List Loc) (ls : Array Slot) (hP : va_P D classes (WM am cs w ++ WX ad cs z) H) (hD : va_D (fun q : Nat => s.heap.size ≤ q) (WM am cs w ++ WX ad cs z)) (hS : va_S (fun q : Nat => s.heap.size ≤ q) s.heap H locs) (hl : lv_has ls 4 [(0, .ref b), (1, .ref (ad 0)), (2, .ref (am 41)), (3, .int x3)]) (kk : ∀ (z2 : ZT) (w2 : MT) (H : Heap) (locs : List Loc) (ls : Array Slot) (cells2 slots2 : Nat), IX ad cs z2 → IM w2 → RL z2 w2 → cells2 ≤ cells + 2 → slots2 ≤ slots + 122 → va_P D classes (WM am cs w2 ++ WX ad cs z2) H → va_D (fun q : Nat => s.heap.size ≤ q) (WM am cs w2 ++ WX ad cs z2) → va_S (fun q : Nat => s.heap.size ≤ q) s.heap H locs → lv_has ls 4 [(0, .ref b), (1, .ref (ad 0)), (2, .ref (am 41)), (3, .int x3)] → W p l e room_1 s m #[Value.ref b] below meth c H locs cells2 slots2 (lw_Z below #[Value.ref b] s) (F0 m 1544 ls [])) : W p l e room_1 s m #[Value.ref b] below meth c H locs cells slots (lw_Z below #[Value.ref b] s) (F0 m 1151 ls []) := by
  obtain ⟨hx, hb, hret, hml, hown, hts, hX, hbl, hlocks, hgv⟩ := id C0
  have hA : ∀ q : Nat, s.heap.size ≤ q → (fun q : Nat => s.heap.size ≤ q) q := fun _ h => h
  have hbA : ¬ (fun q : Nat => s.heap.size ≤ q) b := Nat.not_le.mpr hbl
  have ht : ∀ w ∈ zW, w.before #[Value.ref b] s = true := fun w hw => hts w (List.mem_filter.mp hw).1
  refine lv_aload_n hx hb dL_law_1151 rfl (lv_at hl 1 rfl) ?_
  obtain ⟨R1, hf1, hI2, hM1⟩ := K_X11_undo l D cs k H.size ad z hI 
  refine zk_LXi (As := []) (rest := []) hE hO hM1 ⟨hx, hb, hml, hown, ht⟩ (cwV 0 ht gl_127 rfl rfl rfl (by decide +kernel) ⟨Nat.le_of_ble_eq_true rfl, Nat.le_of_ble_eq_true rfl⟩) (va_recv hK hP (ci := 11) (q0 := 44) rfl rfl) hP hD hS hK hA rfl hl.1 (Nat.le_of_ble_eq_true rfl) dL_law_1152 ⟨by show _ ≤ 600000; omega, by show _ ≤ 7302250; omega⟩ (fun H locs hP hD hS => ?_)
  refine lv_pop hx hb dL_law_1155 rfl ?_
  refine lv_aload_n hx hb dL_law_1156 rfl (lv_at hl 2 rfl) ?_
  obtain ⟨R2, hf2, hJ2, hM2⟩ := K_X12_undo l D cs k H.size am w hJ 
  have hf3 := hf2
  rw [← (rl_0 hr :), ← (rl_5 hr :), ← (rl_6 hr :), ← (rl_7 hr :), ← (rl_11 hr :), ← (rl_12 hr :), ← (rl_15 hr :), ← (rl_17 hr :), ← (rl_18 hr :), ← (rl_19 hr :), ← (rl_20 hr :)] at hf3
  obtain ⟨EQ, E1, E2, E8, E9, E10⟩ := pw_undo (ix_6 hI) (by rw [(rl_17 hr :)]; exact (rl_29 hr :)) ⟨(im_7 hJ).1, (ix_7 hI).2⟩ (rl_30 hr :) hf1 hf3
  have EQ2 : RL ((fun n => zc n 30 R1.2.2.1 (z.1 n)), (fun n => zc n 5 R1.2.1 (zc n 31 R1.2.2.2.1 (zc n 34 R1.2.2.2.2 (z.2.1 n)))), z.2.2.1, z.2.2.2.1, z.2.2.2.2.1, z.2.2.2.2.2.1, z.2.2.2.2.2.2.1, z.2.2.2.2.2.2.2) ((fun n => zc n 7 R2.2.1 (zc n 8 R2.2.2.1 (w.1 n))), (fun n => zc n 3 R2.2.2.2.1 (zc n 12 R2.2.2.2.2.1 (zc n 15 R2.2.2.2.2.2 (w.2.1 n)))), w.2.2) := ⟨(rl_0 hr :), (rl_1 hr :), (rl_2 hr :), (rl_3 hr :), (rl_4 hr :), (rl_5 hr :), (rl_6 hr :), (rl_7 hr :), (rl_8 hr :), (rl_9 hr :), (rl_10 hr :), (E8 rfl), (rl_12 hr :), (rl_13 hr :), (rl_14 hr :), (rl_15 hr :), (rl_16 hr :), E1, (rl_18 hr :), (rl_19 hr :), (rl_20 hr :), (rl_21 hr :), (rl_22 hr :), (rl_23 hr :), (rl_24 hr :), (rl_25 hr :), (rl_26 hr :), (rl_27 hr :), (rl_28 hr :), E2, (rl_30 hr :), (E9 (rl_31 hr :)), (E10 (rl_32 hr :)), (rl_33 hr :)⟩
  refine zk_LMi (As := []) (rest := []) hE hO hM2 ⟨hx, hb, hml, hown, ht⟩ (cwV 0 ht gl_130 rfl rfl rfl (by decide +kernel) ⟨Nat.le_of_ble_eq_true rfl, Nat.le_of_ble_eq_true rfl⟩) (va_recv hK hP (ci := 12) (q0 := 0) rfl rfl) hP hD hS hK hA rfl hl.1 (Nat.le_of_ble_eq_true rfl) dL_law_1157 ⟨by show _ ≤ 600000; omega, by show _ ≤ 7302250; omega⟩ (fun H locs hP hD hS => ?_)
  refine lv_pop hx hb dL_law_1160 rfl ?_
  refine lv_goto (tgt := 1544) hx hb dL_law_1161 (by decide) ?_
  exact kk _ _ H locs ls _ _ hI2 hJ2 EQ2 (by omega) (by omega) hP hD hS (lv_sub hl [0, 1, 2, 3] rfl)
theorem dL_law_1164 : decode cL_law 1164 = .ok (.aload_n 1, 1) := zo_43 zh_cL_law_58 4 rfl
theorem dL_law_1165 : decode cL_law 1165 = .ok (.invokevirtual 131, 3) := zo_182 zh_cL_law_58 5 rfl
theorem dL_law_1168 : decode cL_law 1168 = .ok (.pop, 1) := zo_87 zh_cL_law_58 8 rfl
theorem dL_law_1169 : decode cL_law 1169 = .ok (.aload_n 2, 1) := zo_44 zh_cL_law_58 9 rfl
theorem dL_law_1170 : decode cL_law 1170 = .ok (.invokevirtual 134, 3) := zo_182 zh_cL_law_58 10 rfl
theorem dL_law_1173 : decode cL_law 1173 = .ok (.pop, 1) := zo_87 zh_cL_law_58 13 rfl
theorem dL_law_1174 : decode cL_law 1174 = .ok (.goto 370, 3) := zo_p167 zh_cL_law_58 14 370 rfl rfl
set_option maxHeartbeats 8000000 in
set_option maxRecDepth 100000 in
theorem law_case_28 {p : Program} {l : Launch} {e : Env} {s : State} {m : MethodId} {below : List Frame} {meth : Method} {c : Code} {b L : Nat} {xs : Nat → Int32} {D : va_G} {cs : Nat → ClassId} {k : (Nat → Nat) × (Nat → Nat)} {ad am : Nat → Nat} (C0 : lw_At p s m meth c b L xs) (hK : va_K D classes (zT cs) s) (hO : zO s) (hE : zE k (fun q : Nat => s.heap.size ≤ q) s) (hL : L ≤ 3072) (x3 : Int32) (h3 : 0 ≤ x3.toInt ∧ x3.toInt + 6 ≤ (L : Int)) (z : ZT) (w : MT) (hI : IX ad cs z) (hJ : IM w) (hr : RL z w) (cells slots : Nat) (hc : cells + 2 ≤ 600000) (hs : slots + 122 ≤ 7302250) (H : Heap) (locs : List Loc) (ls : Array Slot) (hP : va_P D classes (WM am cs w ++ WX ad cs z) H) (hD : va_D (fun q : Nat => s.heap.size ≤ q) (WM am cs w ++ WX ad cs z)) (hS : va_S (fun q : Nat => s.heap.size ≤ q) s.heap H locs) (hl : lv_has ls 4 [(0, .ref b), (1, .ref (ad 0)), (2, .ref (am 41)), (3, .int x3)]) (kk : ∀ (z2 : ZT) (w2 : MT) (H : Heap) (locs : List Loc) (ls : Array Slot) (cells2 slots2 : Nat), IX ad cs z2 → IM w2 → RL z2 w2 → cells2 ≤ cells + 2 → slots2 ≤ slots + 122 → va_P D classes (WM am cs w2 ++ WX ad cs z2) H → va_D (fun q : Nat => s.heap.size ≤ q) (WM am cs w2 ++ WX ad cs z2) → va_S (fun q : Nat => s.heap.size ≤ q) s.heap H locs → lv_has ls 4 [(0, .ref b), (1, .ref (ad 0)), (2, .ref (am 41)), (3, .int x3)] → W p l e room_1 s m #[Value.ref b] below meth c H locs cells2 slots2 (lw_Z below #[Value.ref b] s) (F0 m 1544 ls [])) : W p l e room_1 s m #[Value.ref b] below meth c H locs cells slots (lw_Z below #[Value.ref b] s) (F0 m 1164 ls []) := by
  obtain ⟨hx, hb, hret, hml, hown, hts, hX, hbl, hlocks, hgv⟩ := id C0
  have hA : ∀ q : Nat, s.heap.size ≤ q → (fun q : Nat => s.heap.size ≤ q) q := fun _ h => h
  have hbA : ¬ (fun q : Nat => s.heap.size ≤ q) b := Nat.not_le.mpr hbl
  have ht : ∀ w ∈ zW, w.before #[Value.ref b] s = true := fun w hw => hts w (List.mem_filter.mp hw).1
  refine lv_aload_n hx hb dL_law_1164 rfl (lv_at hl 1 rfl) ?_
  obtain ⟨R1, hf1, hI2, hM1⟩ := K_X11_redo l D cs k H.size ad z hI 
  refine zk_LXi (As := []) (rest := []) hE hO hM1 ⟨hx, hb, hml, hown, ht⟩ (cwV 0 ht gl_131 rfl rfl rfl (by decide +kernel) ⟨Nat.le_of_ble_eq_true rfl, Nat.le_of_ble_eq_true rfl⟩) (va_recv hK hP (ci := 11) (q0 := 44) rfl rfl) hP hD hS hK hA rfl hl.1 (Nat.le_of_ble_eq_true rfl) dL_law_1165 ⟨by show _ ≤ 600000; omega, by show _ ≤ 7302250; omega⟩ (fun H locs hP hD hS => ?_)
  refine lv_pop hx hb dL_law_1168 rfl ?_
  refine lv_aload_n hx hb dL_law_1169 rfl (lv_at hl 2 rfl) ?_
  obtain ⟨R2, hf2, hJ2, hM2⟩ := K_X12_redo l D cs k H.size am w hJ 
  have hf3 := hf2
  rw [← (rl_0 hr :), ← (rl_5 hr :), ← (rl_6 hr :), ← (rl_7 hr :), ← (rl_11 hr :), ← (rl_12 hr :), ← (rl_15 hr :), ← (rl_17 hr :), ← (rl_18 hr :), ← (rl_19 hr :), ← (rl_21 hr :)] at hf3
  obtain ⟨EQ, E1, E2, E8, E9, E10⟩ := pw_redo (ix_6 hI) (by rw [(rl_17 hr :)]; exact (rl_29 hr :)) ⟨(im_7 hJ).1, (ix_7 hI).2⟩ (rl_30 hr :) hf1 hf3
  have EQ2 : RL ((fun n => zc n 30 R1.2.2.1 (z.1 n)), (fun n => zc n 5 R1.2.1 (zc n 31 R1.2.2.2.1 (zc n 34 R1.2.2.2.2 (z.2.1 n)))), z.2.2.1, z.2.2.2.1, z.2.2.2.2.1, z.2.2.2.2.2.1, z.2.2.2.2.2.2.1, z.2.2.2.2.2.2.2) ((fun n => zc n 7 R2.2.1 (zc n 8 R2.2.2.1 (w.1 n))), (fun n => zc n 3 R2.2.2.2.1 (zc n 12 R2.2.2.2.2.1 (zc n 15 R2.2.2.2.2.2 (w.2.1 n)))), w.2.2) := ⟨(rl_0 hr :), (rl_1 hr :), (rl_2 hr :), (rl_3 hr :), (rl_4 hr :), (rl_5 hr :), (rl_6 hr :), (rl_7 hr :), (rl_8 hr :), (rl_9 hr :), (rl_10 hr :), (E8 rfl), (rl_12 hr :), (rl_13 hr :), (rl_14 hr :), (rl_15 hr :), (rl_16 hr :), E1, (rl_18 hr :), (rl_19 hr :), (rl_20 hr :), (rl_21 hr :), (rl_22 hr :), (rl_23 hr :), (rl_24 hr :), (rl_25 hr :), (rl_26 hr :), (rl_27 hr :), (rl_28 hr :), E2, (rl_30 hr :), (E9 (rl_31 hr :)), (E10 (rl_32 hr :)), (rl_33 hr :)⟩
  refine zk_LMi (As := []) (rest := []) hE hO hM2 ⟨hx, hb, hml, hown, ht⟩ (cwV 0 ht gl_134 rfl rfl rfl (by decide +kernel) ⟨Nat.le_of_ble_eq_true rfl, Nat.le_of_ble_eq_true rfl⟩) (va_recv hK hP (ci := 12) (q0 := 0) rfl rfl) hP hD hS hK hA rfl hl.1 (Nat.le_of_ble_eq_true rfl) dL_law_1170 ⟨by show _ ≤ 600000; omega, by show _ ≤ 7302250; omega⟩ (fun H locs hP hD hS => ?_)
  refine lv_pop hx hb dL_law_1173 rfl ?_
  refine lv_goto (tgt := 1544) hx hb dL_law_1174 (by decide) ?_
  exact kk _ _ H locs ls _ _ hI2 hJ2 EQ2 (by omega) (by omega) hP hD hS (lv_sub hl [0, 1, 2, 3] rfl)
theorem dL_law_1177 : decode cL_law 1177 = .ok (.aload_n 1, 1) := zo_43 zh_cL_law_58 17 rfl
theorem dL_law_1178 : decode cL_law 1178 = .ok (.aload_n 0, 1) := zo_42 zh_cL_law_58 18 rfl
theorem dL_law_1179 : decode cL_law 1179 = .ok (.iload_n 3, 1) := zo_29 zh_cL_law_58 19 rfl
set_option maxRecDepth 100000 in
theorem zh_cL_law_59 : zck [4, 96, 46, 42, 29, 5, 96, 46, 42, 29, 6, 96, 46, 182, 0, 135, 87, 44, 42, 29, 4, 96] (zdu 1180 cL_law.data.toList) = true := by decide +kernel
theorem dL_law_1180 : decode cL_law 1180 = .ok (.iconst 1, 1) := zo_4 zh_cL_law_59 0 rfl
theorem dL_law_1181 : decode cL_law 1181 = .ok (.iadd, 1) := zo_96 zh_cL_law_59 1 rfl
theorem dL_law_1182 : decode cL_law 1182 = .ok (.iaload, 1) := zo_46 zh_cL_law_59 2 rfl
theorem dL_law_1183 : decode cL_law 1183 = .ok (.aload_n 0, 1) := zo_42 zh_cL_law_59 3 rfl
theorem dL_law_1184 : decode cL_law 1184 = .ok (.iload_n 3, 1) := zo_29 zh_cL_law_59 4 rfl
theorem dL_law_1185 : decode cL_law 1185 = .ok (.iconst 2, 1) := zo_5 zh_cL_law_59 5 rfl
theorem dL_law_1186 : decode cL_law 1186 = .ok (.iadd, 1) := zo_96 zh_cL_law_59 6 rfl
theorem dL_law_1187 : decode cL_law 1187 = .ok (.iaload, 1) := zo_46 zh_cL_law_59 7 rfl
theorem dL_law_1188 : decode cL_law 1188 = .ok (.aload_n 0, 1) := zo_42 zh_cL_law_59 8 rfl
theorem dL_law_1189 : decode cL_law 1189 = .ok (.iload_n 3, 1) := zo_29 zh_cL_law_59 9 rfl
theorem dL_law_1190 : decode cL_law 1190 = .ok (.iconst 3, 1) := zo_6 zh_cL_law_59 10 rfl
theorem dL_law_1191 : decode cL_law 1191 = .ok (.iadd, 1) := zo_96 zh_cL_law_59 11 rfl
theorem dL_law_1192 : decode cL_law 1192 = .ok (.iaload, 1) := zo_46 zh_cL_law_59 12 rfl
theorem dL_law_1193 : decode cL_law 1193 = .ok (.invokevirtual 135, 3) := zo_182 zh_cL_law_59 13 rfl
theorem dL_law_1196 : decode cL_law 1196 = .ok (.pop, 1) := zo_87 zh_cL_law_59 16 rfl
theorem dL_law_1197 : decode cL_law 1197 = .ok (.aload_n 2, 1) := zo_44 zh_cL_law_59 17 rfl
theorem dL_law_1198 : decode cL_law 1198 = .ok (.aload_n 0, 1) := zo_42 zh_cL_law_59 18 rfl
theorem dL_law_1199 : decode cL_law 1199 = .ok (.iload_n 3, 1) := zo_29 zh_cL_law_59 19 rfl
set_option maxRecDepth 100000 in
theorem zh_cL_law_60 : zck [4, 96, 46, 42, 29, 5, 96, 46, 42, 29, 6, 96, 46, 182, 0, 138, 87, 167, 1, 71, 43, 42] (zdu 1200 cL_law.data.toList) = true := by decide +kernel
theorem dL_law_1200 : decode cL_law 1200 = .ok (.iconst 1, 1) := zo_4 zh_cL_law_60 0 rfl
theorem dL_law_1201 : decode cL_law 1201 = .ok (.iadd, 1) := zo_96 zh_cL_law_60 1 rfl
theorem dL_law_1202 : decode cL_law 1202 = .ok (.iaload, 1) := zo_46 zh_cL_law_60 2 rfl
theorem dL_law_1203 : decode cL_law 1203 = .ok (.aload_n 0, 1) := zo_42 zh_cL_law_60 3 rfl
theorem dL_law_1204 : decode cL_law 1204 = .ok (.iload_n 3, 1) := zo_29 zh_cL_law_60 4 rfl
theorem dL_law_1205 : decode cL_law 1205 = .ok (.iconst 2, 1) := zo_5 zh_cL_law_60 5 rfl
theorem dL_law_1206 : decode cL_law 1206 = .ok (.iadd, 1) := zo_96 zh_cL_law_60 6 rfl
theorem dL_law_1207 : decode cL_law 1207 = .ok (.iaload, 1) := zo_46 zh_cL_law_60 7 rfl
theorem dL_law_1208 : decode cL_law 1208 = .ok (.aload_n 0, 1) := zo_42 zh_cL_law_60 8 rfl
theorem dL_law_1209 : decode cL_law 1209 = .ok (.iload_n 3, 1) := zo_29 zh_cL_law_60 9 rfl
theorem dL_law_1210 : decode cL_law 1210 = .ok (.iconst 3, 1) := zo_6 zh_cL_law_60 10 rfl
theorem dL_law_1211 : decode cL_law 1211 = .ok (.iadd, 1) := zo_96 zh_cL_law_60 11 rfl
theorem dL_law_1212 : decode cL_law 1212 = .ok (.iaload, 1) := zo_46 zh_cL_law_60 12 rfl
theorem dL_law_1213 : decode cL_law 1213 = .ok (.invokevirtual 138, 3) := zo_182 zh_cL_law_60 13 rfl
theorem dL_law_1216 : decode cL_law 1216 = .ok (.pop, 1) := zo_87 zh_cL_law_60 16 rfl
theorem dL_law_1217 : decode cL_law 1217 = .ok (.goto 327, 3) := zo_p167 zh_cL_law_60 17 327 rfl rfl
set_option maxHeartbeats 8000000 in
set_option maxRecDepth 100000 in
theorem law_case_29 {p : Program} {l : Launch} {e : Env} {s : State} {m : MethodId} {below : List Frame} {meth : Method} {c : Code} {b L : Nat} {xs : Nat → Int32} {D : va_G} {cs : Nat → ClassId} {k : (Nat → Nat) × (Nat → Nat)} {ad am : Nat → Nat} (C0 : lw_At p s m meth c b L xs) (hK : va_K D classes (zT cs) s) (hO : zO s) (hE : zE k (fun q : Nat => s.heap.size ≤ q) s) (hL : L ≤ 3072) (x3 : Int32) (h3 : 0 ≤ x3.toInt ∧ x3.toInt + 6 ≤ (L : Int)) (z : ZT) (w : MT) (hI : IX ad cs z) (hJ : IM w) (hr : RL z w) (cells slots : Nat) (hc : cells + 2 ≤ 600000) (hs : slots + 122 ≤ 7302250) (H : Heap) (locs : List Loc) (ls : Array Slot) (hP : va_P D classes (WM am cs w ++ WX ad cs z) H) (hD : va_D (fun q : Nat => s.heap.size ≤ q) (WM am cs w ++ WX ad cs z)) (hS : va_S (fun q : Nat => s.heap.size ≤ q) s.heap H locs) (hl : lv_has ls 4 [(0, .ref b), (1, .ref (ad 0)), (2, .ref (am 41)), (3, .int x3)]) (kk : ∀ (z2 : ZT) (w2 : MT) (H : Heap) (locs : List Loc) (ls : Array Slot) (cells2 slots2 : Nat), IX ad cs z2 → IM w2 → RL z2 w2 → cells2 ≤ cells + 2 → slots2 ≤ slots + 122 → va_P D classes (WM am cs w2 ++ WX ad cs z2) H → va_D (fun q : Nat => s.heap.size ≤ q) (WM am cs w2 ++ WX ad cs z2) → va_S (fun q : Nat => s.heap.size ≤ q) s.heap H locs → lv_has ls 4 [(0, .ref b), (1, .ref (ad 0)), (2, .ref (am 41)), (3, .int x3)] → W p l e room_1 s m #[Value.ref b] below meth c H locs cells2 slots2 (lw_Z below #[Value.ref b] s) (F0 m 1544 ls [])) : W p l e room_1 s m #[Value.ref b] below meth c H locs cells slots (lw_Z below #[Value.ref b] s) (F0 m 1177 ls []) := by
  obtain ⟨hx, hb, hret, hml, hown, hts, hX, hbl, hlocks, hgv⟩ := id C0
  have hA : ∀ q : Nat, s.heap.size ≤ q → (fun q : Nat => s.heap.size ≤ q) q := fun _ h => h
  have hbA : ¬ (fun q : Nat => s.heap.size ≤ q) b := Nat.not_le.mpr hbl
  have ht : ∀ w ∈ zW, w.before #[Value.ref b] s = true := fun w hw => hts w (List.mem_filter.mp hw).1
  refine lv_aload_n hx hb dL_law_1177 rfl (lv_at hl 1 rfl) ?_
  refine lv_aload_n hx hb dL_law_1178 rfl (lv_at hl 0 rfl) ?_
  refine lv_iload_n hx hb dL_law_1179 rfl (lv_at hl 3 rfl) ?_
  refine lv_iconst (v := (1 : Int32)) hx hb dL_law_1180 (by decide) ?_
  refine lv_iadd hx hb dL_law_1181 ?_
  refine va_sld hx hb hX hbl hbA hS (zl_in h3 hL (by decide)) dL_law_1182 ?_
  refine lv_aload_n hx hb dL_law_1183 rfl (lv_at hl 0 rfl) ?_
  refine lv_iload_n hx hb dL_law_1184 rfl (lv_at hl 3 rfl) ?_
  refine lv_iconst (v := (2 : Int32)) hx hb dL_law_1185 (by decide) ?_
  refine lv_iadd hx hb dL_law_1186 ?_
  refine va_sld hx hb hX hbl hbA hS (zl_in h3 hL (by decide)) dL_law_1187 ?_
  refine lv_aload_n hx hb dL_law_1188 rfl (lv_at hl 0 rfl) ?_
  refine lv_iload_n hx hb dL_law_1189 rfl (lv_at hl 3 rfl) ?_
  refine lv_iconst (v := (3 : Int32)) hx hb dL_law_1190 (by decide) ?_
  refine lv_iadd hx hb dL_law_1191 ?_
  refine va_sld hx hb hX hbl hbA hS (zl_in h3 hL (by decide)) dL_law_1192 ?_
  obtain ⟨R1, hf1, hI2, hM1⟩ := K_X11_act l D cs k H.size ad z hI (xs (x3 + (1 : Int32)).toNatClampNeg) (xs (x3 + (2 : Int32)).toNatClampNeg) (xs (x3 + (3 : Int32)).toNatClampNeg)
  refine zk_LXi (As := [.int (xs (x3 + (1 : Int32)).toNatClampNeg), .int (xs (x3 + (2 : Int32)).toNatClampNeg), .int (xs (x3 + (3 : Int32)).toNatClampNeg)]) (rest := []) hE hO hM1 ⟨hx, hb, hml, hown, ht⟩ (cwV 3 ht gl_135 rfl rfl rfl (by decide +kernel) ⟨Nat.le_of_ble_eq_true rfl, Nat.le_of_ble_eq_true rfl⟩) (va_recv hK hP (ci := 11) (q0 := 44) rfl rfl) hP hD hS hK hA rfl hl.1 (Nat.le_of_ble_eq_true rfl) dL_law_1193 ⟨by show _ ≤ 600000; omega, by show _ ≤ 7302250; omega⟩ (fun H locs hP hD hS => ?_)
  refine lv_pop hx hb dL_law_1196 rfl ?_
  refine lv_aload_n hx hb dL_law_1197 rfl (lv_at hl 2 rfl) ?_
  refine lv_aload_n hx hb dL_law_1198 rfl (lv_at hl 0 rfl) ?_
  refine lv_iload_n hx hb dL_law_1199 rfl (lv_at hl 3 rfl) ?_
  refine lv_iconst (v := (1 : Int32)) hx hb dL_law_1200 (by decide) ?_
  refine lv_iadd hx hb dL_law_1201 ?_
  refine va_sld hx hb hX hbl hbA hS (zl_in h3 hL (by decide)) dL_law_1202 ?_
  refine lv_aload_n hx hb dL_law_1203 rfl (lv_at hl 0 rfl) ?_
  refine lv_iload_n hx hb dL_law_1204 rfl (lv_at hl 3 rfl) ?_
  refine lv_iconst (v := (2 : Int32)) hx hb dL_law_1205 (by decide) ?_
  refine lv_iadd hx hb dL_law_1206 ?_
  refine va_sld hx hb hX hbl hbA hS (zl_in h3 hL (by decide)) dL_law_1207 ?_
  refine lv_aload_n hx hb dL_law_1208 rfl (lv_at hl 0 rfl) ?_
  refine lv_iload_n hx hb dL_law_1209 rfl (lv_at hl 3 rfl) ?_
  refine lv_iconst (v := (3 : Int32)) hx hb dL_law_1210 (by decide) ?_
  refine lv_iadd hx hb dL_law_1211 ?_
  refine va_sld hx hb hX hbl hbA hS (zl_in h3 hL (by decide)) dL_law_1212 ?_
  obtain ⟨R2, hf2, hJ2, hM2⟩ := K_X12_act l D cs k H.size am w hJ (xs (x3 + (1 : Int32)).toNatClampNeg) (xs (x3 + (2 : Int32)).toNatClampNeg) (xs (x3 + (3 : Int32)).toNatClampNeg)
  have hf3 := hf2
  rw [← (rl_0 hr :), ← (rl_5 hr :), ← (rl_6 hr :), ← (rl_7 hr :), ← (rl_12 hr :), ← (rl_15 hr :), ← (rl_16 hr :), ← (rl_17 hr :)] at hf3
  obtain ⟨EQ, E1, E2⟩ := pw_act (ix_2 hI) (fun i hi => ((rl_33 hr :) i hi).2.2.2.2.2.2.2.1.2.1.symm) (rl_32 hr :) (fun i hi => ((rl_33 hr :) i hi).2.2.1) (ix_37 hI) hf1 hf3
  have EQ2 : RL ((fun n => zc n 32 R1.2.1 (zc n 33 R1.2.2.1 (zc n 34 R1.2.2.2.1 (zc n 35 R1.2.2.2.2.1 (z.1 n))))), (fun n => zc n 27 R1.2.2.2.2.2 (z.2.1 n)), z.2.2.1, z.2.2.2.1, z.2.2.2.2.1, z.2.2.2.2.2.1, z.2.2.2.2.2.2.1, z.2.2.2.2.2.2.2) ((fun n => zc n 16 R2.2.1 (w.1 n)), (fun n => zc n 38 R2.2.2 (w.2.1 n)), w.2.2) := ⟨(rl_0 hr :), (rl_1 hr :), (rl_2 hr :), (rl_3 hr :), (rl_4 hr :), (rl_5 hr :), (rl_6 hr :), (rl_7 hr :), (rl_8 hr :), (rl_9 hr :), (rl_10 hr :), (rl_11 hr :), (rl_12 hr :), (rl_13 hr :), (rl_14 hr :), E1, (E2 rfl), (rl_17 hr :), (rl_18 hr :), (rl_19 hr :), (rl_20 hr :), (rl_21 hr :), (rl_22 hr :), (rl_23 hr :), (rl_24 hr :), (rl_25 hr :), (rl_26 hr :), (rl_27 hr :), (rl_28 hr :), (rl_29 hr :), (rl_30 hr :), (rl_31 hr :), (rl_32 hr :), (rl_33 hr :)⟩
  refine zk_LMi (As := [.int (xs (x3 + (1 : Int32)).toNatClampNeg), .int (xs (x3 + (2 : Int32)).toNatClampNeg), .int (xs (x3 + (3 : Int32)).toNatClampNeg)]) (rest := []) hE hO hM2 ⟨hx, hb, hml, hown, ht⟩ (cwV 3 ht gl_138 rfl rfl rfl (by decide +kernel) ⟨Nat.le_of_ble_eq_true rfl, Nat.le_of_ble_eq_true rfl⟩) (va_recv hK hP (ci := 12) (q0 := 0) rfl rfl) hP hD hS hK hA rfl hl.1 (Nat.le_of_ble_eq_true rfl) dL_law_1213 ⟨by show _ ≤ 600000; omega, by show _ ≤ 7302250; omega⟩ (fun H locs hP hD hS => ?_)
  refine lv_pop hx hb dL_law_1216 rfl ?_
  refine lv_goto (tgt := 1544) hx hb dL_law_1217 (by decide) ?_
  exact kk _ _ H locs ls _ _ hI2 hJ2 EQ2 (by omega) (by omega) hP hD hS (lv_sub hl [0, 1, 2, 3] rfl)
set_option maxRecDepth 100000 in
theorem zh_cL_law_61 : zck [43, 42, 29, 4, 96, 46, 182, 0, 139, 87, 44, 42, 29, 4, 96, 46, 182, 0, 142, 87, 167, 1] (zdu 1220 cL_law.data.toList) = true := by decide +kernel
theorem dL_law_1220 : decode cL_law 1220 = .ok (.aload_n 1, 1) := zo_43 zh_cL_law_61 0 rfl
theorem dL_law_1221 : decode cL_law 1221 = .ok (.aload_n 0, 1) := zo_42 zh_cL_law_61 1 rfl
theorem dL_law_1222 : decode cL_law 1222 = .ok (.iload_n 3, 1) := zo_29 zh_cL_law_61 2 rfl
theorem dL_law_1223 : decode cL_law 1223 = .ok (.iconst 1, 1) := zo_4 zh_cL_law_61 3 rfl
theorem dL_law_1224 : decode cL_law 1224 = .ok (.iadd, 1) := zo_96 zh_cL_law_61 4 rfl
theorem dL_law_1225 : decode cL_law 1225 = .ok (.iaload, 1) := zo_46 zh_cL_law_61 5 rfl
theorem dL_law_1226 : decode cL_law 1226 = .ok (.invokevirtual 139, 3) := zo_182 zh_cL_law_61 6 rfl
theorem dL_law_1229 : decode cL_law 1229 = .ok (.pop, 1) := zo_87 zh_cL_law_61 9 rfl
theorem dL_law_1230 : decode cL_law 1230 = .ok (.aload_n 2, 1) := zo_44 zh_cL_law_61 10 rfl
theorem dL_law_1231 : decode cL_law 1231 = .ok (.aload_n 0, 1) := zo_42 zh_cL_law_61 11 rfl
theorem dL_law_1232 : decode cL_law 1232 = .ok (.iload_n 3, 1) := zo_29 zh_cL_law_61 12 rfl
theorem dL_law_1233 : decode cL_law 1233 = .ok (.iconst 1, 1) := zo_4 zh_cL_law_61 13 rfl
theorem dL_law_1234 : decode cL_law 1234 = .ok (.iadd, 1) := zo_96 zh_cL_law_61 14 rfl
theorem dL_law_1235 : decode cL_law 1235 = .ok (.iaload, 1) := zo_46 zh_cL_law_61 15 rfl
theorem dL_law_1236 : decode cL_law 1236 = .ok (.invokevirtual 142, 3) := zo_182 zh_cL_law_61 16 rfl
theorem dL_law_1239 : decode cL_law 1239 = .ok (.pop, 1) := zo_87 zh_cL_law_61 19 rfl
set_option maxRecDepth 100000 in
theorem zh_cL_law_62 : zck [167, 1, 48, 43, 42, 29, 4, 96, 46, 42, 29, 5, 96, 46, 182, 0, 143, 87, 44, 42, 29, 4] (zdu 1240 cL_law.data.toList) = true := by decide +kernel
theorem dL_law_1240 : decode cL_law 1240 = .ok (.goto 304, 3) := zo_p167 zh_cL_law_62 0 304 rfl rfl
set_option maxHeartbeats 8000000 in
set_option maxRecDepth 100000 in
theorem law_case_30 {p : Program} {l : Launch} {e : Env} {s : State} {m : MethodId} {below : List Frame} {meth : Method} {c : Code} {b L : Nat} {xs : Nat → Int32} {D : va_G} {cs : Nat → ClassId} {k : (Nat → Nat) × (Nat → Nat)} {ad am : Nat → Nat} (C0 : lw_At p s m meth c b L xs) (hK : va_K D classes (zT cs) s) (hO : zO s) (hE : zE k (fun q : Nat => s.heap.size ≤ q) s) (hL : L ≤ 3072) (x3 : Int32) (h3 : 0 ≤ x3.toInt ∧ x3.toInt + 6 ≤ (L : Int)) (z : ZT) (w : MT) (hI : IX ad cs z) (hJ : IM w) (hr : RL z w) (cells slots : Nat) (hc : cells + 2 ≤ 600000) (hs : slots + 122 ≤ 7302250) (H : Heap) (locs : List Loc) (ls : Array Slot) (hP : va_P D classes (WM am cs w ++ WX ad cs z) H) (hD : va_D (fun q : Nat => s.heap.size ≤ q) (WM am cs w ++ WX ad cs z)) (hS : va_S (fun q : Nat => s.heap.size ≤ q) s.heap H locs) (hl : lv_has ls 4 [(0, .ref b), (1, .ref (ad 0)), (2, .ref (am 41)), (3, .int x3)]) (kk : ∀ (z2 : ZT) (w2 : MT) (H : Heap) (locs : List Loc) (ls : Array Slot) (cells2 slots2 : Nat), IX ad cs z2 → IM w2 → RL z2 w2 → cells2 ≤ cells + 2 → slots2 ≤ slots + 122 → va_P D classes (WM am cs w2 ++ WX ad cs z2) H → va_D (fun q : Nat => s.heap.size ≤ q) (WM am cs w2 ++ WX ad cs z2) → va_S (fun q : Nat => s.heap.size ≤ q) s.heap H locs → lv_has ls 4 [(0, .ref b), (1, .ref (ad 0)), (2, .ref (am 41)), (3, .int x3)] → W p l e room_1 s m #[Value.ref b] below meth c H locs cells2 slots2 (lw_Z below #[Value.ref b] s) (F0 m 1544 ls [])) : W p l e room_1 s m #[Value.ref b] below meth c H locs cells slots (lw_Z below #[Value.ref b] s) (F0 m 1220 ls []) := by
  obtain ⟨hx, hb, hret, hml, hown, hts, hX, hbl, hlocks, hgv⟩ := id C0
  have hA : ∀ q : Nat, s.heap.size ≤ q → (fun q : Nat => s.heap.size ≤ q) q := fun _ h => h
  have hbA : ¬ (fun q : Nat => s.heap.size ≤ q) b := Nat.not_le.mpr hbl
  have ht : ∀ w ∈ zW, w.before #[Value.ref b] s = true := fun w hw => hts w (List.mem_filter.mp hw).1
  refine lv_aload_n hx hb dL_law_1220 rfl (lv_at hl 1 rfl) ?_
  refine lv_aload_n hx hb dL_law_1221 rfl (lv_at hl 0 rfl) ?_
  refine lv_iload_n hx hb dL_law_1222 rfl (lv_at hl 3 rfl) ?_
  refine lv_iconst (v := (1 : Int32)) hx hb dL_law_1223 (by decide) ?_
  refine lv_iadd hx hb dL_law_1224 ?_
  refine va_sld hx hb hX hbl hbA hS (zl_in h3 hL (by decide)) dL_law_1225 ?_
  obtain ⟨R1, hf1, hI2, hM1⟩ := K_X11_trace l D cs k H.size ad z hI (xs (x3 + (1 : Int32)).toNatClampNeg)
  refine zk_LXi (As := [.int (xs (x3 + (1 : Int32)).toNatClampNeg)]) (rest := []) hE hO hM1 ⟨hx, hb, hml, hown, ht⟩ (cwV 1 ht gl_139 rfl rfl rfl (by decide +kernel) ⟨Nat.le_of_ble_eq_true rfl, Nat.le_of_ble_eq_true rfl⟩) (va_recv hK hP (ci := 11) (q0 := 44) rfl rfl) hP hD hS hK hA rfl hl.1 (Nat.le_of_ble_eq_true rfl) dL_law_1226 ⟨by show _ ≤ 600000; omega, by show _ ≤ 7302250; omega⟩ (fun H locs hP hD hS => ?_)
  refine lv_pop hx hb dL_law_1229 rfl ?_
  refine lv_aload_n hx hb dL_law_1230 rfl (lv_at hl 2 rfl) ?_
  refine lv_aload_n hx hb dL_law_1231 rfl (lv_at hl 0 rfl) ?_
  refine lv_iload_n hx hb dL_law_1232 rfl (lv_at hl 3 rfl) ?_
  refine lv_iconst (v := (1 : Int32)) hx hb dL_law_1233 (by decide) ?_
  refine lv_iadd hx hb dL_law_1234 ?_
  refine va_sld hx hb hX hbl hbA hS (zl_in h3 hL (by decide)) dL_law_1235 ?_
  obtain ⟨R2, hf2, hJ2, hM2⟩ := K_X12_trace l D cs k H.size am w hJ (xs (x3 + (1 : Int32)).toNatClampNeg)
  refine zk_LMi (As := [.int (xs (x3 + (1 : Int32)).toNatClampNeg)]) (rest := []) hE hO hM2 ⟨hx, hb, hml, hown, ht⟩ (cwV 1 ht gl_142 rfl rfl rfl (by decide +kernel) ⟨Nat.le_of_ble_eq_true rfl, Nat.le_of_ble_eq_true rfl⟩) (va_recv hK hP (ci := 12) (q0 := 0) rfl rfl) hP hD hS hK hA rfl hl.1 (Nat.le_of_ble_eq_true rfl) dL_law_1236 ⟨by show _ ≤ 600000; omega, by show _ ≤ 7302250; omega⟩ (fun H locs hP hD hS => ?_)
  refine lv_pop hx hb dL_law_1239 rfl ?_
  refine lv_goto (tgt := 1544) hx hb dL_law_1240 (by decide) ?_
  exact kk _ _ H locs ls _ _ hI2 hJ2 ⟨(rl_0 hr :), (rl_1 hr :), (rl_2 hr :), (rl_3 hr :), (rl_4 hr :), (rl_5 hr :), (rl_6 hr :), (rl_7 hr :), (rl_8 hr :), (rl_9 hr :), (rl_10 hr :), (rl_11 hr :), (rl_12 hr :), (rl_13 hr :), (rl_14 hr :), (rl_15 hr :), (rl_16 hr :), (rl_17 hr :), (rl_18 hr :), (rl_19 hr :), (rl_20 hr :), (rl_21 hr :), (rl_22 hr :), (rl_23 hr :), (rl_24 hr :), (rl_25 hr :), (rl_26 hr :), (rl_27 hr :), (rl_28 hr :), (rl_29 hr :), (rl_30 hr :), (rl_31 hr :), (rl_32 hr :), (rl_33 hr :)⟩ (by omega) (by omega) hP hD hS (lv_sub hl [0, 1, 2, 3] rfl)
theorem dL_law_1243 : decode cL_law 1243 = .ok (.aload_n 1, 1) := zo_43 zh_cL_law_62 3 rfl
theorem dL_law_1244 : decode cL_law 1244 = .ok (.aload_n 0, 1) := zo_42 zh_cL_law_62 4 rfl
theorem dL_law_1245 : decode cL_law 1245 = .ok (.iload_n 3, 1) := zo_29 zh_cL_law_62 5 rfl
theorem dL_law_1246 : decode cL_law 1246 = .ok (.iconst 1, 1) := zo_4 zh_cL_law_62 6 rfl
theorem dL_law_1247 : decode cL_law 1247 = .ok (.iadd, 1) := zo_96 zh_cL_law_62 7 rfl
theorem dL_law_1248 : decode cL_law 1248 = .ok (.iaload, 1) := zo_46 zh_cL_law_62 8 rfl
theorem dL_law_1249 : decode cL_law 1249 = .ok (.aload_n 0, 1) := zo_42 zh_cL_law_62 9 rfl
theorem dL_law_1250 : decode cL_law 1250 = .ok (.iload_n 3, 1) := zo_29 zh_cL_law_62 10 rfl
theorem dL_law_1251 : decode cL_law 1251 = .ok (.iconst 2, 1) := zo_5 zh_cL_law_62 11 rfl
theorem dL_law_1252 : decode cL_law 1252 = .ok (.iadd, 1) := zo_96 zh_cL_law_62 12 rfl
theorem dL_law_1253 : decode cL_law 1253 = .ok (.iaload, 1) := zo_46 zh_cL_law_62 13 rfl
theorem dL_law_1254 : decode cL_law 1254 = .ok (.invokevirtual 143, 3) := zo_182 zh_cL_law_62 14 rfl
theorem dL_law_1257 : decode cL_law 1257 = .ok (.pop, 1) := zo_87 zh_cL_law_62 17 rfl
theorem dL_law_1258 : decode cL_law 1258 = .ok (.aload_n 2, 1) := zo_44 zh_cL_law_62 18 rfl
theorem dL_law_1259 : decode cL_law 1259 = .ok (.aload_n 0, 1) := zo_42 zh_cL_law_62 19 rfl
set_option maxRecDepth 100000 in
theorem zh_cL_law_63 : zck [29, 4, 96, 46, 42, 29, 5, 96, 46, 182, 0, 146, 87, 167, 1, 15, 43, 42, 29, 4, 96, 46] (zdu 1260 cL_law.data.toList) = true := by decide +kernel
theorem dL_law_1260 : decode cL_law 1260 = .ok (.iload_n 3, 1) := zo_29 zh_cL_law_63 0 rfl
theorem dL_law_1261 : decode cL_law 1261 = .ok (.iconst 1, 1) := zo_4 zh_cL_law_63 1 rfl
theorem dL_law_1262 : decode cL_law 1262 = .ok (.iadd, 1) := zo_96 zh_cL_law_63 2 rfl
theorem dL_law_1263 : decode cL_law 1263 = .ok (.iaload, 1) := zo_46 zh_cL_law_63 3 rfl
theorem dL_law_1264 : decode cL_law 1264 = .ok (.aload_n 0, 1) := zo_42 zh_cL_law_63 4 rfl
theorem dL_law_1265 : decode cL_law 1265 = .ok (.iload_n 3, 1) := zo_29 zh_cL_law_63 5 rfl
theorem dL_law_1266 : decode cL_law 1266 = .ok (.iconst 2, 1) := zo_5 zh_cL_law_63 6 rfl
theorem dL_law_1267 : decode cL_law 1267 = .ok (.iadd, 1) := zo_96 zh_cL_law_63 7 rfl
theorem dL_law_1268 : decode cL_law 1268 = .ok (.iaload, 1) := zo_46 zh_cL_law_63 8 rfl
theorem dL_law_1269 : decode cL_law 1269 = .ok (.invokevirtual 146, 3) := zo_182 zh_cL_law_63 9 rfl
theorem dL_law_1272 : decode cL_law 1272 = .ok (.pop, 1) := zo_87 zh_cL_law_63 12 rfl
theorem dL_law_1273 : decode cL_law 1273 = .ok (.goto 271, 3) := zo_p167 zh_cL_law_63 13 271 rfl rfl
set_option maxHeartbeats 8000000 in
set_option maxRecDepth 100000 in
theorem law_case_31 {p : Program} {l : Launch} {e : Env} {s : State} {m : MethodId} {below : List Frame} {meth : Method} {c : Code} {b L : Nat} {xs : Nat → Int32} {D : va_G} {cs : Nat → ClassId} {k : (Nat → Nat) × (Nat → Nat)} {ad am : Nat → Nat} (C0 : lw_At p s m meth c b L xs) (hK : va_K D classes (zT cs) s) (hO : zO s) (hE : zE k (fun q : Nat => s.heap.size ≤ q) s) (hL : L ≤ 3072) (x3 : Int32) (h3 : 0 ≤ x3.toInt ∧ x3.toInt + 6 ≤ (L : Int)) (z : ZT) (w : MT) (hI : IX ad cs z) (hJ : IM w) (hr : RL z w) (cells slots : Nat) (hc : cells + 2 ≤ 600000) (hs : slots + 122 ≤ 7302250) (H : Heap) (locs : List Loc) (ls : Array Slot) (hP : va_P D classes (WM am cs w ++ WX ad cs z) H) (hD : va_D (fun q : Nat => s.heap.size ≤ q) (WM am cs w ++ WX ad cs z)) (hS : va_S (fun q : Nat => s.heap.size ≤ q) s.heap H locs) (hl : lv_has ls 4 [(0, .ref b), (1, .ref (ad 0)), (2, .ref (am 41)), (3, .int x3)]) (kk : ∀ (z2 : ZT) (w2 : MT) (H : Heap) (locs : List Loc) (ls : Array Slot) (cells2 slots2 : Nat), IX ad cs z2 → IM w2 → RL z2 w2 → cells2 ≤ cells + 2 → slots2 ≤ slots + 122 → va_P D classes (WM am cs w2 ++ WX ad cs z2) H → va_D (fun q : Nat => s.heap.size ≤ q) (WM am cs w2 ++ WX ad cs z2) → va_S (fun q : Nat => s.heap.size ≤ q) s.heap H locs → lv_has ls 4 [(0, .ref b), (1, .ref (ad 0)), (2, .ref (am 41)), (3, .int x3)] → W p l e room_1 s m #[Value.ref b] below meth c H locs cells2 slots2 (lw_Z below #[Value.ref b] s) (F0 m 1544 ls [])) : W p l e room_1 s m #[Value.ref b] below meth c H locs cells slots (lw_Z below #[Value.ref b] s) (F0 m 1243 ls []) := by
  obtain ⟨hx, hb, hret, hml, hown, hts, hX, hbl, hlocks, hgv⟩ := id C0
  have hA : ∀ q : Nat, s.heap.size ≤ q → (fun q : Nat => s.heap.size ≤ q) q := fun _ h => h
  have hbA : ¬ (fun q : Nat => s.heap.size ≤ q) b := Nat.not_le.mpr hbl
  have ht : ∀ w ∈ zW, w.before #[Value.ref b] s = true := fun w hw => hts w (List.mem_filter.mp hw).1
  obtain ⟨j0, hj0, hp0⟩ := zk_pl (xs (x3 + (1 : Int32)).toNatClampNeg)
  rcases (show j0 = 0 ∨ j0 = 1 ∨ j0 = 2 ∨ j0 = 3 ∨ j0 = 4 ∨ j0 = 5 by omega) with rfl | rfl | rfl | rfl | rfl | rfl
  · refine lv_aload_n hx hb dL_law_1243 rfl (lv_at hl 1 rfl) ?_
    refine lv_aload_n hx hb dL_law_1244 rfl (lv_at hl 0 rfl) ?_
    refine lv_iload_n hx hb dL_law_1245 rfl (lv_at hl 3 rfl) ?_
    refine lv_iconst (v := (1 : Int32)) hx hb dL_law_1246 (by decide) ?_
    refine lv_iadd hx hb dL_law_1247 ?_
    refine va_sld hx hb hX hbl hbA hS (zl_in h3 hL (by decide)) dL_law_1248 ?_
    refine lv_aload_n hx hb dL_law_1249 rfl (lv_at hl 0 rfl) ?_
    refine lv_iload_n hx hb dL_law_1250 rfl (lv_at hl 3 rfl) ?_
    refine lv_iconst (v := (2 : Int32)) hx hb dL_law_1251 (by decide) ?_
    refine lv_iadd hx hb dL_law_1252 ?_
    refine va_sld hx hb hX hbl hbA hS (zl_in h3 hL (by decide)) dL_law_1253 ?_
    obtain ⟨R1, hf1, hI2, hM1⟩ := K_X11_keep_0 l D cs k H.size ad z hI (xs (x3 + (1 : Int32)).toNatClampNeg) (xs (x3 + (2 : Int32)).toNatClampNeg) hp0
    refine zk_LXi (As := [.int (xs (x3 + (1 : Int32)).toNatClampNeg), .int (xs (x3 + (2 : Int32)).toNatClampNeg)]) (rest := []) hE hO hM1 ⟨hx, hb, hml, hown, ht⟩ (cwV 2 ht gl_143 rfl rfl rfl (by decide +kernel) ⟨Nat.le_of_ble_eq_true rfl, Nat.le_of_ble_eq_true rfl⟩) (va_recv hK hP (ci := 11) (q0 := 44) rfl rfl) hP hD hS hK hA rfl hl.1 (Nat.le_of_ble_eq_true rfl) dL_law_1254 ⟨by show _ ≤ 600000; omega, by show _ ≤ 7302250; omega⟩ (fun H locs hP hD hS => ?_)
    refine lv_pop hx hb dL_law_1257 rfl ?_
    refine lv_aload_n hx hb dL_law_1258 rfl (lv_at hl 2 rfl) ?_
    refine lv_aload_n hx hb dL_law_1259 rfl (lv_at hl 0 rfl) ?_
    refine lv_iload_n hx hb dL_law_1260 rfl (lv_at hl 3 rfl) ?_
    refine lv_iconst (v := (1 : Int32)) hx hb dL_law_1261 (by decide) ?_
    refine lv_iadd hx hb dL_law_1262 ?_
    refine va_sld hx hb hX hbl hbA hS (zl_in h3 hL (by decide)) dL_law_1263 ?_
    refine lv_aload_n hx hb dL_law_1264 rfl (lv_at hl 0 rfl) ?_
    refine lv_iload_n hx hb dL_law_1265 rfl (lv_at hl 3 rfl) ?_
    refine lv_iconst (v := (2 : Int32)) hx hb dL_law_1266 (by decide) ?_
    refine lv_iadd hx hb dL_law_1267 ?_
    refine va_sld hx hb hX hbl hbA hS (zl_in h3 hL (by decide)) dL_law_1268 ?_
    obtain ⟨R2, hf2, hJ2, hM2⟩ := K_X12_keep l D cs k H.size am w hJ (xs (x3 + (1 : Int32)).toNatClampNeg) (xs (x3 + (2 : Int32)).toNatClampNeg)
    have hf3 := hf2
    rw [← (rl_0 hr :), ← (rl_5 hr :), ← (rl_6 hr :), ← (rl_7 hr :), ← (rl_12 hr :), ← (rl_15 hr :), ← (rl_17 hr :)] at hf3
    obtain ⟨EQ, E1, E2⟩ := pw_keep (ix_2 hI) hp0 (rl_23 hr :) hf1 hf3
    have EQ2 : RL ((fun n => zc n 36 R1.2.1 (zc n 37 R1.2.2 (z.1 n))), z.2.1, z.2.2.1, z.2.2.2.1, z.2.2.2.2.1, z.2.2.2.2.2.1, z.2.2.2.2.2.2.1, z.2.2.2.2.2.2.2) (w.1, (fun n => zc n 39 R2.2 (w.2.1 n)), w.2.2) := ⟨(rl_0 hr :), (rl_1 hr :), (rl_2 hr :), (rl_3 hr :), (rl_4 hr :), (rl_5 hr :), (rl_6 hr :), (rl_7 hr :), (rl_8 hr :), (rl_9 hr :), (rl_10 hr :), (rl_11 hr :), (rl_12 hr :), (rl_13 hr :), (rl_14 hr :), (rl_15 hr :), (rl_16 hr :), (rl_17 hr :), (rl_18 hr :), (rl_19 hr :), (rl_20 hr :), (rl_21 hr :), (rl_22 hr :), E1, (PLR_fr (rl_24 hr :) (Int.le_refl _) (E2 1 (by decide)) rfl (fun _ _ _ => rfl)), (PLR_fr (rl_25 hr :) (Int.le_refl _) (E2 2 (by decide)) rfl (fun _ _ _ => rfl)), (PLR_fr (rl_26 hr :) (Int.le_refl _) (E2 3 (by decide)) rfl (fun _ _ _ => rfl)), (PLR_fr (rl_27 hr :) (Int.le_refl _) (E2 4 (by decide)) rfl (fun _ _ _ => rfl)), (PLR_fr (rl_28 hr :) (Int.le_refl _) (E2 5 (by decide)) rfl (fun _ _ _ => rfl)), (rl_29 hr :), (rl_30 hr :), (rl_31 hr :), (rl_32 hr :), (rl_33 hr :)⟩
    refine zk_LMi (As := [.int (xs (x3 + (1 : Int32)).toNatClampNeg), .int (xs (x3 + (2 : Int32)).toNatClampNeg)]) (rest := []) hE hO hM2 ⟨hx, hb, hml, hown, ht⟩ (cwV 2 ht gl_146 rfl rfl rfl (by decide +kernel) ⟨Nat.le_of_ble_eq_true rfl, Nat.le_of_ble_eq_true rfl⟩) (va_recv hK hP (ci := 12) (q0 := 0) rfl rfl) hP hD hS hK hA rfl hl.1 (Nat.le_of_ble_eq_true rfl) dL_law_1269 ⟨by show _ ≤ 600000; omega, by show _ ≤ 7302250; omega⟩ (fun H locs hP hD hS => ?_)
    refine lv_pop hx hb dL_law_1272 rfl ?_
    refine lv_goto (tgt := 1544) hx hb dL_law_1273 (by decide) ?_
    exact kk _ _ H locs ls _ _ hI2 hJ2 EQ2 (by omega) (by omega) hP hD hS (lv_sub hl [0, 1, 2, 3] rfl)
  · refine lv_aload_n hx hb dL_law_1243 rfl (lv_at hl 1 rfl) ?_
    refine lv_aload_n hx hb dL_law_1244 rfl (lv_at hl 0 rfl) ?_
    refine lv_iload_n hx hb dL_law_1245 rfl (lv_at hl 3 rfl) ?_
    refine lv_iconst (v := (1 : Int32)) hx hb dL_law_1246 (by decide) ?_
    refine lv_iadd hx hb dL_law_1247 ?_
    refine va_sld hx hb hX hbl hbA hS (zl_in h3 hL (by decide)) dL_law_1248 ?_
    refine lv_aload_n hx hb dL_law_1249 rfl (lv_at hl 0 rfl) ?_
    refine lv_iload_n hx hb dL_law_1250 rfl (lv_at hl 3 rfl) ?_
    refine lv_iconst (v := (2 : Int32)) hx hb dL_law_1251 (by decide) ?_
    refine lv_iadd hx hb dL_law_1252 ?_
    refine va_sld hx hb hX hbl hbA hS (zl_in h3 hL (by decide)) dL_law_1253 ?_
    obtain ⟨R1, hf1, hI2, hM1⟩ := K_X11_keep_1 l D cs k H.size ad z hI (xs (x3 + (1 : Int32)).toNatClampNeg) (xs (x3 + (2 : Int32)).toNatClampNeg) hp0
    refine zk_LXi (As := [.int (xs (x3 + (1 : Int32)).toNatClampNeg), .int (xs (x3 + (2 : Int32)).toNatClampNeg)]) (rest := []) hE hO hM1 ⟨hx, hb, hml, hown, ht⟩ (cwV 2 ht gl_143 rfl rfl rfl (by decide +kernel) ⟨Nat.le_of_ble_eq_true rfl, Nat.le_of_ble_eq_true rfl⟩) (va_recv hK hP (ci := 11) (q0 := 44) rfl rfl) hP hD hS hK hA rfl hl.1 (Nat.le_of_ble_eq_true rfl) dL_law_1254 ⟨by show _ ≤ 600000; omega, by show _ ≤ 7302250; omega⟩ (fun H locs hP hD hS => ?_)
    refine lv_pop hx hb dL_law_1257 rfl ?_
    refine lv_aload_n hx hb dL_law_1258 rfl (lv_at hl 2 rfl) ?_
    refine lv_aload_n hx hb dL_law_1259 rfl (lv_at hl 0 rfl) ?_
    refine lv_iload_n hx hb dL_law_1260 rfl (lv_at hl 3 rfl) ?_
    refine lv_iconst (v := (1 : Int32)) hx hb dL_law_1261 (by decide) ?_
    refine lv_iadd hx hb dL_law_1262 ?_
    refine va_sld hx hb hX hbl hbA hS (zl_in h3 hL (by decide)) dL_law_1263 ?_
    refine lv_aload_n hx hb dL_law_1264 rfl (lv_at hl 0 rfl) ?_
    refine lv_iload_n hx hb dL_law_1265 rfl (lv_at hl 3 rfl) ?_
    refine lv_iconst (v := (2 : Int32)) hx hb dL_law_1266 (by decide) ?_
    refine lv_iadd hx hb dL_law_1267 ?_
    refine va_sld hx hb hX hbl hbA hS (zl_in h3 hL (by decide)) dL_law_1268 ?_
    obtain ⟨R2, hf2, hJ2, hM2⟩ := K_X12_keep l D cs k H.size am w hJ (xs (x3 + (1 : Int32)).toNatClampNeg) (xs (x3 + (2 : Int32)).toNatClampNeg)
    have hf3 := hf2
    rw [← (rl_0 hr :), ← (rl_5 hr :), ← (rl_6 hr :), ← (rl_7 hr :), ← (rl_12 hr :), ← (rl_15 hr :), ← (rl_17 hr :)] at hf3
    obtain ⟨EQ, E1, E2⟩ := pw_keep (ix_2 hI) hp0 (rl_24 hr :) hf1 hf3
    have EQ2 : RL ((fun n => zc n 39 R1.2.1 (zc n 40 R1.2.2 (z.1 n))), z.2.1, z.2.2.1, z.2.2.2.1, z.2.2.2.2.1, z.2.2.2.2.2.1, z.2.2.2.2.2.2.1, z.2.2.2.2.2.2.2) (w.1, (fun n => zc n 39 R2.2 (w.2.1 n)), w.2.2) := ⟨(rl_0 hr :), (rl_1 hr :), (rl_2 hr :), (rl_3 hr :), (rl_4 hr :), (rl_5 hr :), (rl_6 hr :), (rl_7 hr :), (rl_8 hr :), (rl_9 hr :), (rl_10 hr :), (rl_11 hr :), (rl_12 hr :), (rl_13 hr :), (rl_14 hr :), (rl_15 hr :), (rl_16 hr :), (rl_17 hr :), (rl_18 hr :), (rl_19 hr :), (rl_20 hr :), (rl_21 hr :), (rl_22 hr :), (PLR_fr (rl_23 hr :) (Int.le_refl _) (E2 0 (by decide)) rfl (fun _ _ _ => rfl)), E1, (PLR_fr (rl_25 hr :) (Int.le_refl _) (E2 2 (by decide)) rfl (fun _ _ _ => rfl)), (PLR_fr (rl_26 hr :) (Int.le_refl _) (E2 3 (by decide)) rfl (fun _ _ _ => rfl)), (PLR_fr (rl_27 hr :) (Int.le_refl _) (E2 4 (by decide)) rfl (fun _ _ _ => rfl)), (PLR_fr (rl_28 hr :) (Int.le_refl _) (E2 5 (by decide)) rfl (fun _ _ _ => rfl)), (rl_29 hr :), (rl_30 hr :), (rl_31 hr :), (rl_32 hr :), (rl_33 hr :)⟩
    refine zk_LMi (As := [.int (xs (x3 + (1 : Int32)).toNatClampNeg), .int (xs (x3 + (2 : Int32)).toNatClampNeg)]) (rest := []) hE hO hM2 ⟨hx, hb, hml, hown, ht⟩ (cwV 2 ht gl_146 rfl rfl rfl (by decide +kernel) ⟨Nat.le_of_ble_eq_true rfl, Nat.le_of_ble_eq_true rfl⟩) (va_recv hK hP (ci := 12) (q0 := 0) rfl rfl) hP hD hS hK hA rfl hl.1 (Nat.le_of_ble_eq_true rfl) dL_law_1269 ⟨by show _ ≤ 600000; omega, by show _ ≤ 7302250; omega⟩ (fun H locs hP hD hS => ?_)
    refine lv_pop hx hb dL_law_1272 rfl ?_
    refine lv_goto (tgt := 1544) hx hb dL_law_1273 (by decide) ?_
    exact kk _ _ H locs ls _ _ hI2 hJ2 EQ2 (by omega) (by omega) hP hD hS (lv_sub hl [0, 1, 2, 3] rfl)
  · refine lv_aload_n hx hb dL_law_1243 rfl (lv_at hl 1 rfl) ?_
    refine lv_aload_n hx hb dL_law_1244 rfl (lv_at hl 0 rfl) ?_
    refine lv_iload_n hx hb dL_law_1245 rfl (lv_at hl 3 rfl) ?_
    refine lv_iconst (v := (1 : Int32)) hx hb dL_law_1246 (by decide) ?_
    refine lv_iadd hx hb dL_law_1247 ?_
    refine va_sld hx hb hX hbl hbA hS (zl_in h3 hL (by decide)) dL_law_1248 ?_
    refine lv_aload_n hx hb dL_law_1249 rfl (lv_at hl 0 rfl) ?_
    refine lv_iload_n hx hb dL_law_1250 rfl (lv_at hl 3 rfl) ?_
    refine lv_iconst (v := (2 : Int32)) hx hb dL_law_1251 (by decide) ?_
    refine lv_iadd hx hb dL_law_1252 ?_
    refine va_sld hx hb hX hbl hbA hS (zl_in h3 hL (by decide)) dL_law_1253 ?_
    obtain ⟨R1, hf1, hI2, hM1⟩ := K_X11_keep_2 l D cs k H.size ad z hI (xs (x3 + (1 : Int32)).toNatClampNeg) (xs (x3 + (2 : Int32)).toNatClampNeg) hp0
    refine zk_LXi (As := [.int (xs (x3 + (1 : Int32)).toNatClampNeg), .int (xs (x3 + (2 : Int32)).toNatClampNeg)]) (rest := []) hE hO hM1 ⟨hx, hb, hml, hown, ht⟩ (cwV 2 ht gl_143 rfl rfl rfl (by decide +kernel) ⟨Nat.le_of_ble_eq_true rfl, Nat.le_of_ble_eq_true rfl⟩) (va_recv hK hP (ci := 11) (q0 := 44) rfl rfl) hP hD hS hK hA rfl hl.1 (Nat.le_of_ble_eq_true rfl) dL_law_1254 ⟨by show _ ≤ 600000; omega, by show _ ≤ 7302250; omega⟩ (fun H locs hP hD hS => ?_)
    refine lv_pop hx hb dL_law_1257 rfl ?_
    refine lv_aload_n hx hb dL_law_1258 rfl (lv_at hl 2 rfl) ?_
    refine lv_aload_n hx hb dL_law_1259 rfl (lv_at hl 0 rfl) ?_
    refine lv_iload_n hx hb dL_law_1260 rfl (lv_at hl 3 rfl) ?_
    refine lv_iconst (v := (1 : Int32)) hx hb dL_law_1261 (by decide) ?_
    refine lv_iadd hx hb dL_law_1262 ?_
    refine va_sld hx hb hX hbl hbA hS (zl_in h3 hL (by decide)) dL_law_1263 ?_
    refine lv_aload_n hx hb dL_law_1264 rfl (lv_at hl 0 rfl) ?_
    refine lv_iload_n hx hb dL_law_1265 rfl (lv_at hl 3 rfl) ?_
    refine lv_iconst (v := (2 : Int32)) hx hb dL_law_1266 (by decide) ?_
    refine lv_iadd hx hb dL_law_1267 ?_
    refine va_sld hx hb hX hbl hbA hS (zl_in h3 hL (by decide)) dL_law_1268 ?_
    obtain ⟨R2, hf2, hJ2, hM2⟩ := K_X12_keep l D cs k H.size am w hJ (xs (x3 + (1 : Int32)).toNatClampNeg) (xs (x3 + (2 : Int32)).toNatClampNeg)
    have hf3 := hf2
    rw [← (rl_0 hr :), ← (rl_5 hr :), ← (rl_6 hr :), ← (rl_7 hr :), ← (rl_12 hr :), ← (rl_15 hr :), ← (rl_17 hr :)] at hf3
    obtain ⟨EQ, E1, E2⟩ := pw_keep (ix_2 hI) hp0 (rl_25 hr :) hf1 hf3
    have EQ2 : RL ((fun n => zc n 42 R1.2.1 (zc n 43 R1.2.2 (z.1 n))), z.2.1, z.2.2.1, z.2.2.2.1, z.2.2.2.2.1, z.2.2.2.2.2.1, z.2.2.2.2.2.2.1, z.2.2.2.2.2.2.2) (w.1, (fun n => zc n 39 R2.2 (w.2.1 n)), w.2.2) := ⟨(rl_0 hr :), (rl_1 hr :), (rl_2 hr :), (rl_3 hr :), (rl_4 hr :), (rl_5 hr :), (rl_6 hr :), (rl_7 hr :), (rl_8 hr :), (rl_9 hr :), (rl_10 hr :), (rl_11 hr :), (rl_12 hr :), (rl_13 hr :), (rl_14 hr :), (rl_15 hr :), (rl_16 hr :), (rl_17 hr :), (rl_18 hr :), (rl_19 hr :), (rl_20 hr :), (rl_21 hr :), (rl_22 hr :), (PLR_fr (rl_23 hr :) (Int.le_refl _) (E2 0 (by decide)) rfl (fun _ _ _ => rfl)), (PLR_fr (rl_24 hr :) (Int.le_refl _) (E2 1 (by decide)) rfl (fun _ _ _ => rfl)), E1, (PLR_fr (rl_26 hr :) (Int.le_refl _) (E2 3 (by decide)) rfl (fun _ _ _ => rfl)), (PLR_fr (rl_27 hr :) (Int.le_refl _) (E2 4 (by decide)) rfl (fun _ _ _ => rfl)), (PLR_fr (rl_28 hr :) (Int.le_refl _) (E2 5 (by decide)) rfl (fun _ _ _ => rfl)), (rl_29 hr :), (rl_30 hr :), (rl_31 hr :), (rl_32 hr :), (rl_33 hr :)⟩
    refine zk_LMi (As := [.int (xs (x3 + (1 : Int32)).toNatClampNeg), .int (xs (x3 + (2 : Int32)).toNatClampNeg)]) (rest := []) hE hO hM2 ⟨hx, hb, hml, hown, ht⟩ (cwV 2 ht gl_146 rfl rfl rfl (by decide +kernel) ⟨Nat.le_of_ble_eq_true rfl, Nat.le_of_ble_eq_true rfl⟩) (va_recv hK hP (ci := 12) (q0 := 0) rfl rfl) hP hD hS hK hA rfl hl.1 (Nat.le_of_ble_eq_true rfl) dL_law_1269 ⟨by show _ ≤ 600000; omega, by show _ ≤ 7302250; omega⟩ (fun H locs hP hD hS => ?_)
    refine lv_pop hx hb dL_law_1272 rfl ?_
    refine lv_goto (tgt := 1544) hx hb dL_law_1273 (by decide) ?_
    exact kk _ _ H locs ls _ _ hI2 hJ2 EQ2 (by omega) (by omega) hP hD hS (lv_sub hl [0, 1, 2, 3] rfl)
  · refine lv_aload_n hx hb dL_law_1243 rfl (lv_at hl 1 rfl) ?_
    refine lv_aload_n hx hb dL_law_1244 rfl (lv_at hl 0 rfl) ?_
    refine lv_iload_n hx hb dL_law_1245 rfl (lv_at hl 3 rfl) ?_
    refine lv_iconst (v := (1 : Int32)) hx hb dL_law_1246 (by decide) ?_
    refine lv_iadd hx hb dL_law_1247 ?_
    refine va_sld hx hb hX hbl hbA hS (zl_in h3 hL (by decide)) dL_law_1248 ?_
    refine lv_aload_n hx hb dL_law_1249 rfl (lv_at hl 0 rfl) ?_
    refine lv_iload_n hx hb dL_law_1250 rfl (lv_at hl 3 rfl) ?_
    refine lv_iconst (v := (2 : Int32)) hx hb dL_law_1251 (by decide) ?_
    refine lv_iadd hx hb dL_law_1252 ?_
    refine va_sld hx hb hX hbl hbA hS (zl_in h3 hL (by decide)) dL_law_1253 ?_
    obtain ⟨R1, hf1, hI2, hM1⟩ := K_X11_keep_3 l D cs k H.size ad z hI (xs (x3 + (1 : Int32)).toNatClampNeg) (xs (x3 + (2 : Int32)).toNatClampNeg) hp0
    refine zk_LXi (As := [.int (xs (x3 + (1 : Int32)).toNatClampNeg), .int (xs (x3 + (2 : Int32)).toNatClampNeg)]) (rest := []) hE hO hM1 ⟨hx, hb, hml, hown, ht⟩ (cwV 2 ht gl_143 rfl rfl rfl (by decide +kernel) ⟨Nat.le_of_ble_eq_true rfl, Nat.le_of_ble_eq_true rfl⟩) (va_recv hK hP (ci := 11) (q0 := 44) rfl rfl) hP hD hS hK hA rfl hl.1 (Nat.le_of_ble_eq_true rfl) dL_law_1254 ⟨by show _ ≤ 600000; omega, by show _ ≤ 7302250; omega⟩ (fun H locs hP hD hS => ?_)
    refine lv_pop hx hb dL_law_1257 rfl ?_
    refine lv_aload_n hx hb dL_law_1258 rfl (lv_at hl 2 rfl) ?_
    refine lv_aload_n hx hb dL_law_1259 rfl (lv_at hl 0 rfl) ?_
    refine lv_iload_n hx hb dL_law_1260 rfl (lv_at hl 3 rfl) ?_
    refine lv_iconst (v := (1 : Int32)) hx hb dL_law_1261 (by decide) ?_
    refine lv_iadd hx hb dL_law_1262 ?_
    refine va_sld hx hb hX hbl hbA hS (zl_in h3 hL (by decide)) dL_law_1263 ?_
    refine lv_aload_n hx hb dL_law_1264 rfl (lv_at hl 0 rfl) ?_
    refine lv_iload_n hx hb dL_law_1265 rfl (lv_at hl 3 rfl) ?_
    refine lv_iconst (v := (2 : Int32)) hx hb dL_law_1266 (by decide) ?_
    refine lv_iadd hx hb dL_law_1267 ?_
    refine va_sld hx hb hX hbl hbA hS (zl_in h3 hL (by decide)) dL_law_1268 ?_
    obtain ⟨R2, hf2, hJ2, hM2⟩ := K_X12_keep l D cs k H.size am w hJ (xs (x3 + (1 : Int32)).toNatClampNeg) (xs (x3 + (2 : Int32)).toNatClampNeg)
    have hf3 := hf2
    rw [← (rl_0 hr :), ← (rl_5 hr :), ← (rl_6 hr :), ← (rl_7 hr :), ← (rl_12 hr :), ← (rl_15 hr :), ← (rl_17 hr :)] at hf3
    obtain ⟨EQ, E1, E2⟩ := pw_keep (ix_2 hI) hp0 (rl_26 hr :) hf1 hf3
    have EQ2 : RL ((fun n => zc n 45 R1.2.1 (zc n 46 R1.2.2 (z.1 n))), z.2.1, z.2.2.1, z.2.2.2.1, z.2.2.2.2.1, z.2.2.2.2.2.1, z.2.2.2.2.2.2.1, z.2.2.2.2.2.2.2) (w.1, (fun n => zc n 39 R2.2 (w.2.1 n)), w.2.2) := ⟨(rl_0 hr :), (rl_1 hr :), (rl_2 hr :), (rl_3 hr :), (rl_4 hr :), (rl_5 hr :), (rl_6 hr :), (rl_7 hr :), (rl_8 hr :), (rl_9 hr :), (rl_10 hr :), (rl_11 hr :), (rl_12 hr :), (rl_13 hr :), (rl_14 hr :), (rl_15 hr :), (rl_16 hr :), (rl_17 hr :), (rl_18 hr :), (rl_19 hr :), (rl_20 hr :), (rl_21 hr :), (rl_22 hr :), (PLR_fr (rl_23 hr :) (Int.le_refl _) (E2 0 (by decide)) rfl (fun _ _ _ => rfl)), (PLR_fr (rl_24 hr :) (Int.le_refl _) (E2 1 (by decide)) rfl (fun _ _ _ => rfl)), (PLR_fr (rl_25 hr :) (Int.le_refl _) (E2 2 (by decide)) rfl (fun _ _ _ => rfl)), E1, (PLR_fr (rl_27 hr :) (Int.le_refl _) (E2 4 (by decide)) rfl (fun _ _ _ => rfl)), (PLR_fr (rl_28 hr :) (Int.le_refl _) (E2 5 (by decide)) rfl (fun _ _ _ => rfl)), (rl_29 hr :), (rl_30 hr :), (rl_31 hr :), (rl_32 hr :), (rl_33 hr :)⟩
    refine zk_LMi (As := [.int (xs (x3 + (1 : Int32)).toNatClampNeg), .int (xs (x3 + (2 : Int32)).toNatClampNeg)]) (rest := []) hE hO hM2 ⟨hx, hb, hml, hown, ht⟩ (cwV 2 ht gl_146 rfl rfl rfl (by decide +kernel) ⟨Nat.le_of_ble_eq_true rfl, Nat.le_of_ble_eq_true rfl⟩) (va_recv hK hP (ci := 12) (q0 := 0) rfl rfl) hP hD hS hK hA rfl hl.1 (Nat.le_of_ble_eq_true rfl) dL_law_1269 ⟨by show _ ≤ 600000; omega, by show _ ≤ 7302250; omega⟩ (fun H locs hP hD hS => ?_)
    refine lv_pop hx hb dL_law_1272 rfl ?_
    refine lv_goto (tgt := 1544) hx hb dL_law_1273 (by decide) ?_
    exact kk _ _ H locs ls _ _ hI2 hJ2 EQ2 (by omega) (by omega) hP hD hS (lv_sub hl [0, 1, 2, 3] rfl)
  · refine lv_aload_n hx hb dL_law_1243 rfl (lv_at hl 1 rfl) ?_
    refine lv_aload_n hx hb dL_law_1244 rfl (lv_at hl 0 rfl) ?_
    refine lv_iload_n hx hb dL_law_1245 rfl (lv_at hl 3 rfl) ?_
    refine lv_iconst (v := (1 : Int32)) hx hb dL_law_1246 (by decide) ?_
    refine lv_iadd hx hb dL_law_1247 ?_
    refine va_sld hx hb hX hbl hbA hS (zl_in h3 hL (by decide)) dL_law_1248 ?_
    refine lv_aload_n hx hb dL_law_1249 rfl (lv_at hl 0 rfl) ?_
    refine lv_iload_n hx hb dL_law_1250 rfl (lv_at hl 3 rfl) ?_
    refine lv_iconst (v := (2 : Int32)) hx hb dL_law_1251 (by decide) ?_
    refine lv_iadd hx hb dL_law_1252 ?_
    refine va_sld hx hb hX hbl hbA hS (zl_in h3 hL (by decide)) dL_law_1253 ?_
    obtain ⟨R1, hf1, hI2, hM1⟩ := K_X11_keep_4 l D cs k H.size ad z hI (xs (x3 + (1 : Int32)).toNatClampNeg) (xs (x3 + (2 : Int32)).toNatClampNeg) hp0
    refine zk_LXi (As := [.int (xs (x3 + (1 : Int32)).toNatClampNeg), .int (xs (x3 + (2 : Int32)).toNatClampNeg)]) (rest := []) hE hO hM1 ⟨hx, hb, hml, hown, ht⟩ (cwV 2 ht gl_143 rfl rfl rfl (by decide +kernel) ⟨Nat.le_of_ble_eq_true rfl, Nat.le_of_ble_eq_true rfl⟩) (va_recv hK hP (ci := 11) (q0 := 44) rfl rfl) hP hD hS hK hA rfl hl.1 (Nat.le_of_ble_eq_true rfl) dL_law_1254 ⟨by show _ ≤ 600000; omega, by show _ ≤ 7302250; omega⟩ (fun H locs hP hD hS => ?_)
    refine lv_pop hx hb dL_law_1257 rfl ?_
    refine lv_aload_n hx hb dL_law_1258 rfl (lv_at hl 2 rfl) ?_
    refine lv_aload_n hx hb dL_law_1259 rfl (lv_at hl 0 rfl) ?_
    refine lv_iload_n hx hb dL_law_1260 rfl (lv_at hl 3 rfl) ?_
    refine lv_iconst (v := (1 : Int32)) hx hb dL_law_1261 (by decide) ?_
    refine lv_iadd hx hb dL_law_1262 ?_
    refine va_sld hx hb hX hbl hbA hS (zl_in h3 hL (by decide)) dL_law_1263 ?_
    refine lv_aload_n hx hb dL_law_1264 rfl (lv_at hl 0 rfl) ?_
    refine lv_iload_n hx hb dL_law_1265 rfl (lv_at hl 3 rfl) ?_
    refine lv_iconst (v := (2 : Int32)) hx hb dL_law_1266 (by decide) ?_
    refine lv_iadd hx hb dL_law_1267 ?_
    refine va_sld hx hb hX hbl hbA hS (zl_in h3 hL (by decide)) dL_law_1268 ?_
    obtain ⟨R2, hf2, hJ2, hM2⟩ := K_X12_keep l D cs k H.size am w hJ (xs (x3 + (1 : Int32)).toNatClampNeg) (xs (x3 + (2 : Int32)).toNatClampNeg)
    have hf3 := hf2
    rw [← (rl_0 hr :), ← (rl_5 hr :), ← (rl_6 hr :), ← (rl_7 hr :), ← (rl_12 hr :), ← (rl_15 hr :), ← (rl_17 hr :)] at hf3
    obtain ⟨EQ, E1, E2⟩ := pw_keep (ix_2 hI) hp0 (rl_27 hr :) hf1 hf3
    have EQ2 : RL ((fun n => zc n 48 R1.2.1 (zc n 49 R1.2.2 (z.1 n))), z.2.1, z.2.2.1, z.2.2.2.1, z.2.2.2.2.1, z.2.2.2.2.2.1, z.2.2.2.2.2.2.1, z.2.2.2.2.2.2.2) (w.1, (fun n => zc n 39 R2.2 (w.2.1 n)), w.2.2) := ⟨(rl_0 hr :), (rl_1 hr :), (rl_2 hr :), (rl_3 hr :), (rl_4 hr :), (rl_5 hr :), (rl_6 hr :), (rl_7 hr :), (rl_8 hr :), (rl_9 hr :), (rl_10 hr :), (rl_11 hr :), (rl_12 hr :), (rl_13 hr :), (rl_14 hr :), (rl_15 hr :), (rl_16 hr :), (rl_17 hr :), (rl_18 hr :), (rl_19 hr :), (rl_20 hr :), (rl_21 hr :), (rl_22 hr :), (PLR_fr (rl_23 hr :) (Int.le_refl _) (E2 0 (by decide)) rfl (fun _ _ _ => rfl)), (PLR_fr (rl_24 hr :) (Int.le_refl _) (E2 1 (by decide)) rfl (fun _ _ _ => rfl)), (PLR_fr (rl_25 hr :) (Int.le_refl _) (E2 2 (by decide)) rfl (fun _ _ _ => rfl)), (PLR_fr (rl_26 hr :) (Int.le_refl _) (E2 3 (by decide)) rfl (fun _ _ _ => rfl)), E1, (PLR_fr (rl_28 hr :) (Int.le_refl _) (E2 5 (by decide)) rfl (fun _ _ _ => rfl)), (rl_29 hr :), (rl_30 hr :), (rl_31 hr :), (rl_32 hr :), (rl_33 hr :)⟩
    refine zk_LMi (As := [.int (xs (x3 + (1 : Int32)).toNatClampNeg), .int (xs (x3 + (2 : Int32)).toNatClampNeg)]) (rest := []) hE hO hM2 ⟨hx, hb, hml, hown, ht⟩ (cwV 2 ht gl_146 rfl rfl rfl (by decide +kernel) ⟨Nat.le_of_ble_eq_true rfl, Nat.le_of_ble_eq_true rfl⟩) (va_recv hK hP (ci := 12) (q0 := 0) rfl rfl) hP hD hS hK hA rfl hl.1 (Nat.le_of_ble_eq_true rfl) dL_law_1269 ⟨by show _ ≤ 600000; omega, by show _ ≤ 7302250; omega⟩ (fun H locs hP hD hS => ?_)
    refine lv_pop hx hb dL_law_1272 rfl ?_
    refine lv_goto (tgt := 1544) hx hb dL_law_1273 (by decide) ?_
    exact kk _ _ H locs ls _ _ hI2 hJ2 EQ2 (by omega) (by omega) hP hD hS (lv_sub hl [0, 1, 2, 3] rfl)
  · refine lv_aload_n hx hb dL_law_1243 rfl (lv_at hl 1 rfl) ?_
    refine lv_aload_n hx hb dL_law_1244 rfl (lv_at hl 0 rfl) ?_
    refine lv_iload_n hx hb dL_law_1245 rfl (lv_at hl 3 rfl) ?_
    refine lv_iconst (v := (1 : Int32)) hx hb dL_law_1246 (by decide) ?_
    refine lv_iadd hx hb dL_law_1247 ?_
    refine va_sld hx hb hX hbl hbA hS (zl_in h3 hL (by decide)) dL_law_1248 ?_
    refine lv_aload_n hx hb dL_law_1249 rfl (lv_at hl 0 rfl) ?_
    refine lv_iload_n hx hb dL_law_1250 rfl (lv_at hl 3 rfl) ?_
    refine lv_iconst (v := (2 : Int32)) hx hb dL_law_1251 (by decide) ?_
    refine lv_iadd hx hb dL_law_1252 ?_
    refine va_sld hx hb hX hbl hbA hS (zl_in h3 hL (by decide)) dL_law_1253 ?_
    obtain ⟨R1, hf1, hI2, hM1⟩ := K_X11_keep_5 l D cs k H.size ad z hI (xs (x3 + (1 : Int32)).toNatClampNeg) (xs (x3 + (2 : Int32)).toNatClampNeg) hp0
    refine zk_LXi (As := [.int (xs (x3 + (1 : Int32)).toNatClampNeg), .int (xs (x3 + (2 : Int32)).toNatClampNeg)]) (rest := []) hE hO hM1 ⟨hx, hb, hml, hown, ht⟩ (cwV 2 ht gl_143 rfl rfl rfl (by decide +kernel) ⟨Nat.le_of_ble_eq_true rfl, Nat.le_of_ble_eq_true rfl⟩) (va_recv hK hP (ci := 11) (q0 := 44) rfl rfl) hP hD hS hK hA rfl hl.1 (Nat.le_of_ble_eq_true rfl) dL_law_1254 ⟨by show _ ≤ 600000; omega, by show _ ≤ 7302250; omega⟩ (fun H locs hP hD hS => ?_)
    refine lv_pop hx hb dL_law_1257 rfl ?_
    refine lv_aload_n hx hb dL_law_1258 rfl (lv_at hl 2 rfl) ?_
    refine lv_aload_n hx hb dL_law_1259 rfl (lv_at hl 0 rfl) ?_
    refine lv_iload_n hx hb dL_law_1260 rfl (lv_at hl 3 rfl) ?_
    refine lv_iconst (v := (1 : Int32)) hx hb dL_law_1261 (by decide) ?_
    refine lv_iadd hx hb dL_law_1262 ?_
    refine va_sld hx hb hX hbl hbA hS (zl_in h3 hL (by decide)) dL_law_1263 ?_
    refine lv_aload_n hx hb dL_law_1264 rfl (lv_at hl 0 rfl) ?_
    refine lv_iload_n hx hb dL_law_1265 rfl (lv_at hl 3 rfl) ?_
    refine lv_iconst (v := (2 : Int32)) hx hb dL_law_1266 (by decide) ?_
    refine lv_iadd hx hb dL_law_1267 ?_
    refine va_sld hx hb hX hbl hbA hS (zl_in h3 hL (by decide)) dL_law_1268 ?_
    obtain ⟨R2, hf2, hJ2, hM2⟩ := K_X12_keep l D cs k H.size am w hJ (xs (x3 + (1 : Int32)).toNatClampNeg) (xs (x3 + (2 : Int32)).toNatClampNeg)
    have hf3 := hf2
    rw [← (rl_0 hr :), ← (rl_5 hr :), ← (rl_6 hr :), ← (rl_7 hr :), ← (rl_12 hr :), ← (rl_15 hr :), ← (rl_17 hr :)] at hf3
    obtain ⟨EQ, E1, E2⟩ := pw_keep (ix_2 hI) hp0 (rl_28 hr :) hf1 hf3
    have EQ2 : RL ((fun n => zc n 51 R1.2.1 (zc n 52 R1.2.2 (z.1 n))), z.2.1, z.2.2.1, z.2.2.2.1, z.2.2.2.2.1, z.2.2.2.2.2.1, z.2.2.2.2.2.2.1, z.2.2.2.2.2.2.2) (w.1, (fun n => zc n 39 R2.2 (w.2.1 n)), w.2.2) := ⟨(rl_0 hr :), (rl_1 hr :), (rl_2 hr :), (rl_3 hr :), (rl_4 hr :), (rl_5 hr :), (rl_6 hr :), (rl_7 hr :), (rl_8 hr :), (rl_9 hr :), (rl_10 hr :), (rl_11 hr :), (rl_12 hr :), (rl_13 hr :), (rl_14 hr :), (rl_15 hr :), (rl_16 hr :), (rl_17 hr :), (rl_18 hr :), (rl_19 hr :), (rl_20 hr :), (rl_21 hr :), (rl_22 hr :), (PLR_fr (rl_23 hr :) (Int.le_refl _) (E2 0 (by decide)) rfl (fun _ _ _ => rfl)), (PLR_fr (rl_24 hr :) (Int.le_refl _) (E2 1 (by decide)) rfl (fun _ _ _ => rfl)), (PLR_fr (rl_25 hr :) (Int.le_refl _) (E2 2 (by decide)) rfl (fun _ _ _ => rfl)), (PLR_fr (rl_26 hr :) (Int.le_refl _) (E2 3 (by decide)) rfl (fun _ _ _ => rfl)), (PLR_fr (rl_27 hr :) (Int.le_refl _) (E2 4 (by decide)) rfl (fun _ _ _ => rfl)), E1, (rl_29 hr :), (rl_30 hr :), (rl_31 hr :), (rl_32 hr :), (rl_33 hr :)⟩
    refine zk_LMi (As := [.int (xs (x3 + (1 : Int32)).toNatClampNeg), .int (xs (x3 + (2 : Int32)).toNatClampNeg)]) (rest := []) hE hO hM2 ⟨hx, hb, hml, hown, ht⟩ (cwV 2 ht gl_146 rfl rfl rfl (by decide +kernel) ⟨Nat.le_of_ble_eq_true rfl, Nat.le_of_ble_eq_true rfl⟩) (va_recv hK hP (ci := 12) (q0 := 0) rfl rfl) hP hD hS hK hA rfl hl.1 (Nat.le_of_ble_eq_true rfl) dL_law_1269 ⟨by show _ ≤ 600000; omega, by show _ ≤ 7302250; omega⟩ (fun H locs hP hD hS => ?_)
    refine lv_pop hx hb dL_law_1272 rfl ?_
    refine lv_goto (tgt := 1544) hx hb dL_law_1273 (by decide) ?_
    exact kk _ _ H locs ls _ _ hI2 hJ2 EQ2 (by omega) (by omega) hP hD hS (lv_sub hl [0, 1, 2, 3] rfl)
theorem dL_law_1276 : decode cL_law 1276 = .ok (.aload_n 1, 1) := zo_43 zh_cL_law_63 16 rfl
theorem dL_law_1277 : decode cL_law 1277 = .ok (.aload_n 0, 1) := zo_42 zh_cL_law_63 17 rfl
theorem dL_law_1278 : decode cL_law 1278 = .ok (.iload_n 3, 1) := zo_29 zh_cL_law_63 18 rfl
theorem dL_law_1279 : decode cL_law 1279 = .ok (.iconst 1, 1) := zo_4 zh_cL_law_63 19 rfl
set_option maxRecDepth 100000 in
theorem zh_cL_law_64 : zck [96, 46, 42, 29, 5, 96, 46, 42, 29, 6, 96, 46, 182, 0, 147, 87, 44, 42, 29, 4, 96, 46] (zdu 1280 cL_law.data.toList) = true := by decide +kernel
theorem dL_law_1280 : decode cL_law 1280 = .ok (.iadd, 1) := zo_96 zh_cL_law_64 0 rfl
theorem dL_law_1281 : decode cL_law 1281 = .ok (.iaload, 1) := zo_46 zh_cL_law_64 1 rfl
theorem dL_law_1282 : decode cL_law 1282 = .ok (.aload_n 0, 1) := zo_42 zh_cL_law_64 2 rfl
theorem dL_law_1283 : decode cL_law 1283 = .ok (.iload_n 3, 1) := zo_29 zh_cL_law_64 3 rfl
theorem dL_law_1284 : decode cL_law 1284 = .ok (.iconst 2, 1) := zo_5 zh_cL_law_64 4 rfl
theorem dL_law_1285 : decode cL_law 1285 = .ok (.iadd, 1) := zo_96 zh_cL_law_64 5 rfl
theorem dL_law_1286 : decode cL_law 1286 = .ok (.iaload, 1) := zo_46 zh_cL_law_64 6 rfl
theorem dL_law_1287 : decode cL_law 1287 = .ok (.aload_n 0, 1) := zo_42 zh_cL_law_64 7 rfl
theorem dL_law_1288 : decode cL_law 1288 = .ok (.iload_n 3, 1) := zo_29 zh_cL_law_64 8 rfl
theorem dL_law_1289 : decode cL_law 1289 = .ok (.iconst 3, 1) := zo_6 zh_cL_law_64 9 rfl
theorem dL_law_1290 : decode cL_law 1290 = .ok (.iadd, 1) := zo_96 zh_cL_law_64 10 rfl
theorem dL_law_1291 : decode cL_law 1291 = .ok (.iaload, 1) := zo_46 zh_cL_law_64 11 rfl
theorem dL_law_1292 : decode cL_law 1292 = .ok (.invokevirtual 147, 3) := zo_182 zh_cL_law_64 12 rfl
theorem dL_law_1295 : decode cL_law 1295 = .ok (.pop, 1) := zo_87 zh_cL_law_64 15 rfl
theorem dL_law_1296 : decode cL_law 1296 = .ok (.aload_n 2, 1) := zo_44 zh_cL_law_64 16 rfl
theorem dL_law_1297 : decode cL_law 1297 = .ok (.aload_n 0, 1) := zo_42 zh_cL_law_64 17 rfl
theorem dL_law_1298 : decode cL_law 1298 = .ok (.iload_n 3, 1) := zo_29 zh_cL_law_64 18 rfl
theorem dL_law_1299 : decode cL_law 1299 = .ok (.iconst 1, 1) := zo_4 zh_cL_law_64 19 rfl
set_option maxRecDepth 100000 in
theorem zh_cL_law_65 : zck [96, 46, 42, 29, 5, 96, 46, 42, 29, 6, 96, 46, 182, 0, 150, 87, 167, 0, 228, 43, 42, 29] (zdu 1300 cL_law.data.toList) = true := by decide +kernel
theorem dL_law_1300 : decode cL_law 1300 = .ok (.iadd, 1) := zo_96 zh_cL_law_65 0 rfl
theorem dL_law_1301 : decode cL_law 1301 = .ok (.iaload, 1) := zo_46 zh_cL_law_65 1 rfl
theorem dL_law_1302 : decode cL_law 1302 = .ok (.aload_n 0, 1) := zo_42 zh_cL_law_65 2 rfl
theorem dL_law_1303 : decode cL_law 1303 = .ok (.iload_n 3, 1) := zo_29 zh_cL_law_65 3 rfl
theorem dL_law_1304 : decode cL_law 1304 = .ok (.iconst 2, 1) := zo_5 zh_cL_law_65 4 rfl
theorem dL_law_1305 : decode cL_law 1305 = .ok (.iadd, 1) := zo_96 zh_cL_law_65 5 rfl
theorem dL_law_1306 : decode cL_law 1306 = .ok (.iaload, 1) := zo_46 zh_cL_law_65 6 rfl
theorem dL_law_1307 : decode cL_law 1307 = .ok (.aload_n 0, 1) := zo_42 zh_cL_law_65 7 rfl
theorem dL_law_1308 : decode cL_law 1308 = .ok (.iload_n 3, 1) := zo_29 zh_cL_law_65 8 rfl
theorem dL_law_1309 : decode cL_law 1309 = .ok (.iconst 3, 1) := zo_6 zh_cL_law_65 9 rfl
theorem dL_law_1310 : decode cL_law 1310 = .ok (.iadd, 1) := zo_96 zh_cL_law_65 10 rfl
theorem dL_law_1311 : decode cL_law 1311 = .ok (.iaload, 1) := zo_46 zh_cL_law_65 11 rfl
theorem dL_law_1312 : decode cL_law 1312 = .ok (.invokevirtual 150, 3) := zo_182 zh_cL_law_65 12 rfl
theorem dL_law_1315 : decode cL_law 1315 = .ok (.pop, 1) := zo_87 zh_cL_law_65 15 rfl
theorem dL_law_1316 : decode cL_law 1316 = .ok (.goto 228, 3) := zo_p167 zh_cL_law_65 16 228 rfl rfl
set_option maxHeartbeats 8000000 in
set_option maxRecDepth 100000 in
theorem law_case_32 {p : Program} {l : Launch} {e : Env} {s : State} {m : MethodId} {below : List Frame} {meth : Method} {c : Code} {b L : Nat} {xs : Nat → Int32} {D : va_G} {cs : Nat → ClassId} {k : (Nat → Nat) × (Nat → Nat)} {ad am : Nat → Nat} (C0 : lw_At p s m meth c b L xs) (hK : va_K D classes (zT cs) s) (hO : zO s) (hE : zE k (fun q : Nat => s.heap.size ≤ q) s) (hL : L ≤ 3072) (x3 : Int32) (h3 : 0 ≤ x3.toInt ∧ x3.toInt + 6 ≤ (L : Int)) (z : ZT) (w : MT) (hI : IX ad cs z) (hJ : IM w) (hr : RL z w) (cells slots : Nat) (hc : cells + 2 ≤ 600000) (hs : slots + 122 ≤ 7302250) (H : Heap) (locs : List Loc) (ls : Array Slot) (hP : va_P D classes (WM am cs w ++ WX ad cs z) H) (hD : va_D (fun q : Nat => s.heap.size ≤ q) (WM am cs w ++ WX ad cs z)) (hS : va_S (fun q : Nat => s.heap.size ≤ q) s.heap H locs) (hl : lv_has ls 4 [(0, .ref b), (1, .ref (ad 0)), (2, .ref (am 41)), (3, .int x3)]) (kk : ∀ (z2 : ZT) (w2 : MT) (H : Heap) (locs : List Loc) (ls : Array Slot) (cells2 slots2 : Nat), IX ad cs z2 → IM w2 → RL z2 w2 → cells2 ≤ cells + 2 → slots2 ≤ slots + 122 → va_P D classes (WM am cs w2 ++ WX ad cs z2) H → va_D (fun q : Nat => s.heap.size ≤ q) (WM am cs w2 ++ WX ad cs z2) → va_S (fun q : Nat => s.heap.size ≤ q) s.heap H locs → lv_has ls 4 [(0, .ref b), (1, .ref (ad 0)), (2, .ref (am 41)), (3, .int x3)] → W p l e room_1 s m #[Value.ref b] below meth c H locs cells2 slots2 (lw_Z below #[Value.ref b] s) (F0 m 1544 ls [])) : W p l e room_1 s m #[Value.ref b] below meth c H locs cells slots (lw_Z below #[Value.ref b] s) (F0 m 1276 ls []) := by
  obtain ⟨hx, hb, hret, hml, hown, hts, hX, hbl, hlocks, hgv⟩ := id C0
  have hA : ∀ q : Nat, s.heap.size ≤ q → (fun q : Nat => s.heap.size ≤ q) q := fun _ h => h
  have hbA : ¬ (fun q : Nat => s.heap.size ≤ q) b := Nat.not_le.mpr hbl
  have ht : ∀ w ∈ zW, w.before #[Value.ref b] s = true := fun w hw => hts w (List.mem_filter.mp hw).1
  obtain ⟨j0, hj0, hp0⟩ := zk_pl (xs (x3 + (1 : Int32)).toNatClampNeg)
  rcases (show j0 = 0 ∨ j0 = 1 ∨ j0 = 2 ∨ j0 = 3 ∨ j0 = 4 ∨ j0 = 5 by omega) with rfl | rfl | rfl | rfl | rfl | rfl
  · refine lv_aload_n hx hb dL_law_1276 rfl (lv_at hl 1 rfl) ?_
    refine lv_aload_n hx hb dL_law_1277 rfl (lv_at hl 0 rfl) ?_
    refine lv_iload_n hx hb dL_law_1278 rfl (lv_at hl 3 rfl) ?_
    refine lv_iconst (v := (1 : Int32)) hx hb dL_law_1279 (by decide) ?_
    refine lv_iadd hx hb dL_law_1280 ?_
    refine va_sld hx hb hX hbl hbA hS (zl_in h3 hL (by decide)) dL_law_1281 ?_
    refine lv_aload_n hx hb dL_law_1282 rfl (lv_at hl 0 rfl) ?_
    refine lv_iload_n hx hb dL_law_1283 rfl (lv_at hl 3 rfl) ?_
    refine lv_iconst (v := (2 : Int32)) hx hb dL_law_1284 (by decide) ?_
    refine lv_iadd hx hb dL_law_1285 ?_
    refine va_sld hx hb hX hbl hbA hS (zl_in h3 hL (by decide)) dL_law_1286 ?_
    refine lv_aload_n hx hb dL_law_1287 rfl (lv_at hl 0 rfl) ?_
    refine lv_iload_n hx hb dL_law_1288 rfl (lv_at hl 3 rfl) ?_
    refine lv_iconst (v := (3 : Int32)) hx hb dL_law_1289 (by decide) ?_
    refine lv_iadd hx hb dL_law_1290 ?_
    refine va_sld hx hb hX hbl hbA hS (zl_in h3 hL (by decide)) dL_law_1291 ?_
    obtain ⟨R1, hf1, hI2, hM1⟩ := K_X11_row_0 l D cs k H.size ad z hI (xs (x3 + (1 : Int32)).toNatClampNeg) (xs (x3 + (2 : Int32)).toNatClampNeg) (xs (x3 + (3 : Int32)).toNatClampNeg) hp0
    refine zk_LXi (As := [.int (xs (x3 + (1 : Int32)).toNatClampNeg), .int (xs (x3 + (2 : Int32)).toNatClampNeg), .int (xs (x3 + (3 : Int32)).toNatClampNeg)]) (rest := []) hE hO hM1 ⟨hx, hb, hml, hown, ht⟩ (cwV 3 ht gl_147 rfl rfl rfl (by decide +kernel) ⟨Nat.le_of_ble_eq_true rfl, Nat.le_of_ble_eq_true rfl⟩) (va_recv hK hP (ci := 11) (q0 := 44) rfl rfl) hP hD hS hK hA rfl hl.1 (Nat.le_of_ble_eq_true rfl) dL_law_1292 ⟨by show _ ≤ 600000; omega, by show _ ≤ 7302250; omega⟩ (fun H locs hP hD hS => ?_)
    refine lv_pop hx hb dL_law_1295 rfl ?_
    refine lv_aload_n hx hb dL_law_1296 rfl (lv_at hl 2 rfl) ?_
    refine lv_aload_n hx hb dL_law_1297 rfl (lv_at hl 0 rfl) ?_
    refine lv_iload_n hx hb dL_law_1298 rfl (lv_at hl 3 rfl) ?_
    refine lv_iconst (v := (1 : Int32)) hx hb dL_law_1299 (by decide) ?_
    refine lv_iadd hx hb dL_law_1300 ?_
    refine va_sld hx hb hX hbl hbA hS (zl_in h3 hL (by decide)) dL_law_1301 ?_
    refine lv_aload_n hx hb dL_law_1302 rfl (lv_at hl 0 rfl) ?_
    refine lv_iload_n hx hb dL_law_1303 rfl (lv_at hl 3 rfl) ?_
    refine lv_iconst (v := (2 : Int32)) hx hb dL_law_1304 (by decide) ?_
    refine lv_iadd hx hb dL_law_1305 ?_
    refine va_sld hx hb hX hbl hbA hS (zl_in h3 hL (by decide)) dL_law_1306 ?_
    refine lv_aload_n hx hb dL_law_1307 rfl (lv_at hl 0 rfl) ?_
    refine lv_iload_n hx hb dL_law_1308 rfl (lv_at hl 3 rfl) ?_
    refine lv_iconst (v := (3 : Int32)) hx hb dL_law_1309 (by decide) ?_
    refine lv_iadd hx hb dL_law_1310 ?_
    refine va_sld hx hb hX hbl hbA hS (zl_in h3 hL (by decide)) dL_law_1311 ?_
    obtain ⟨R2, hf2, hJ2, hM2⟩ := K_X12_row l D cs k H.size am w hJ (xs (x3 + (1 : Int32)).toNatClampNeg) (xs (x3 + (2 : Int32)).toNatClampNeg) (xs (x3 + (3 : Int32)).toNatClampNeg)
    have hf3 := hf2
    rw [← (rl_0 hr :), ← (rl_5 hr :), ← (rl_6 hr :), ← (rl_7 hr :), ← (rl_12 hr :), ← (rl_15 hr :), ← (rl_17 hr :)] at hf3
    obtain ⟨EQ, E1, E2, E3⟩ := pw_row hp0 (rl_23 hr :) hf1 hf3
    have EQ2 : RL ((fun n => zc n 36 R1.2.1 (zc n 38 R1.2.2.1 (z.1 n))), z.2.1, (fun n => zc n 2 R1.2.2.2 (z.2.2.1 n)), z.2.2.2.1, z.2.2.2.2.1, z.2.2.2.2.2.1, z.2.2.2.2.2.2.1, z.2.2.2.2.2.2.2) (w.1, (fun n => zc n 39 R2.2.1 (zc n 40 R2.2.2.1 (w.2.1 n))), (fun n => zc n 0 R2.2.2.2 (w.2.2 n))) := ⟨(rl_0 hr :), (rl_1 hr :), (rl_2 hr :), (rl_3 hr :), (rl_4 hr :), (rl_5 hr :), (rl_6 hr :), (rl_7 hr :), (rl_8 hr :), (rl_9 hr :), (rl_10 hr :), (rl_11 hr :), (rl_12 hr :), (rl_13 hr :), (rl_14 hr :), (rl_15 hr :), (rl_16 hr :), (rl_17 hr :), (rl_18 hr :), (rl_19 hr :), (rl_20 hr :), (rl_21 hr :), (rl_22 hr :), E1, (PLR_fr (rl_24 hr :) (Int.le_refl _) (E2 1 (by decide)).1 (E2 1 (by decide)).2 (fun k k1 k2 => E3 k (by omega))), (PLR_fr (rl_25 hr :) (Int.le_refl _) (E2 2 (by decide)).1 (E2 2 (by decide)).2 (fun k k1 k2 => E3 k (by omega))), (PLR_fr (rl_26 hr :) (Int.le_refl _) (E2 3 (by decide)).1 (E2 3 (by decide)).2 (fun k k1 k2 => E3 k (by omega))), (PLR_fr (rl_27 hr :) (Int.le_refl _) (E2 4 (by decide)).1 (E2 4 (by decide)).2 (fun k k1 k2 => E3 k (by omega))), (PLR_fr (rl_28 hr :) (Int.le_refl _) (E2 5 (by decide)).1 (E2 5 (by decide)).2 (fun k k1 k2 => E3 k (by omega))), (rl_29 hr :), (rl_30 hr :), (rl_31 hr :), (rl_32 hr :), (rl_33 hr :)⟩
    refine zk_LMi (As := [.int (xs (x3 + (1 : Int32)).toNatClampNeg), .int (xs (x3 + (2 : Int32)).toNatClampNeg), .int (xs (x3 + (3 : Int32)).toNatClampNeg)]) (rest := []) hE hO hM2 ⟨hx, hb, hml, hown, ht⟩ (cwV 3 ht gl_150 rfl rfl rfl (by decide +kernel) ⟨Nat.le_of_ble_eq_true rfl, Nat.le_of_ble_eq_true rfl⟩) (va_recv hK hP (ci := 12) (q0 := 0) rfl rfl) hP hD hS hK hA rfl hl.1 (Nat.le_of_ble_eq_true rfl) dL_law_1312 ⟨by show _ ≤ 600000; omega, by show _ ≤ 7302250; omega⟩ (fun H locs hP hD hS => ?_)
    refine lv_pop hx hb dL_law_1315 rfl ?_
    refine lv_goto (tgt := 1544) hx hb dL_law_1316 (by decide) ?_
    exact kk _ _ H locs ls _ _ hI2 hJ2 EQ2 (by omega) (by omega) hP hD hS (lv_sub hl [0, 1, 2, 3] rfl)
  · refine lv_aload_n hx hb dL_law_1276 rfl (lv_at hl 1 rfl) ?_
    refine lv_aload_n hx hb dL_law_1277 rfl (lv_at hl 0 rfl) ?_
    refine lv_iload_n hx hb dL_law_1278 rfl (lv_at hl 3 rfl) ?_
    refine lv_iconst (v := (1 : Int32)) hx hb dL_law_1279 (by decide) ?_
    refine lv_iadd hx hb dL_law_1280 ?_
    refine va_sld hx hb hX hbl hbA hS (zl_in h3 hL (by decide)) dL_law_1281 ?_
    refine lv_aload_n hx hb dL_law_1282 rfl (lv_at hl 0 rfl) ?_
    refine lv_iload_n hx hb dL_law_1283 rfl (lv_at hl 3 rfl) ?_
    refine lv_iconst (v := (2 : Int32)) hx hb dL_law_1284 (by decide) ?_
    refine lv_iadd hx hb dL_law_1285 ?_
    refine va_sld hx hb hX hbl hbA hS (zl_in h3 hL (by decide)) dL_law_1286 ?_
    refine lv_aload_n hx hb dL_law_1287 rfl (lv_at hl 0 rfl) ?_
    refine lv_iload_n hx hb dL_law_1288 rfl (lv_at hl 3 rfl) ?_
    refine lv_iconst (v := (3 : Int32)) hx hb dL_law_1289 (by decide) ?_
    refine lv_iadd hx hb dL_law_1290 ?_
    refine va_sld hx hb hX hbl hbA hS (zl_in h3 hL (by decide)) dL_law_1291 ?_
    obtain ⟨R1, hf1, hI2, hM1⟩ := K_X11_row_1 l D cs k H.size ad z hI (xs (x3 + (1 : Int32)).toNatClampNeg) (xs (x3 + (2 : Int32)).toNatClampNeg) (xs (x3 + (3 : Int32)).toNatClampNeg) hp0
    refine zk_LXi (As := [.int (xs (x3 + (1 : Int32)).toNatClampNeg), .int (xs (x3 + (2 : Int32)).toNatClampNeg), .int (xs (x3 + (3 : Int32)).toNatClampNeg)]) (rest := []) hE hO hM1 ⟨hx, hb, hml, hown, ht⟩ (cwV 3 ht gl_147 rfl rfl rfl (by decide +kernel) ⟨Nat.le_of_ble_eq_true rfl, Nat.le_of_ble_eq_true rfl⟩) (va_recv hK hP (ci := 11) (q0 := 44) rfl rfl) hP hD hS hK hA rfl hl.1 (Nat.le_of_ble_eq_true rfl) dL_law_1292 ⟨by show _ ≤ 600000; omega, by show _ ≤ 7302250; omega⟩ (fun H locs hP hD hS => ?_)
    refine lv_pop hx hb dL_law_1295 rfl ?_
    refine lv_aload_n hx hb dL_law_1296 rfl (lv_at hl 2 rfl) ?_
    refine lv_aload_n hx hb dL_law_1297 rfl (lv_at hl 0 rfl) ?_
    refine lv_iload_n hx hb dL_law_1298 rfl (lv_at hl 3 rfl) ?_
    refine lv_iconst (v := (1 : Int32)) hx hb dL_law_1299 (by decide) ?_
    refine lv_iadd hx hb dL_law_1300 ?_
    refine va_sld hx hb hX hbl hbA hS (zl_in h3 hL (by decide)) dL_law_1301 ?_
    refine lv_aload_n hx hb dL_law_1302 rfl (lv_at hl 0 rfl) ?_
    refine lv_iload_n hx hb dL_law_1303 rfl (lv_at hl 3 rfl) ?_
    refine lv_iconst (v := (2 : Int32)) hx hb dL_law_1304 (by decide) ?_
    refine lv_iadd hx hb dL_law_1305 ?_
    refine va_sld hx hb hX hbl hbA hS (zl_in h3 hL (by decide)) dL_law_1306 ?_
    refine lv_aload_n hx hb dL_law_1307 rfl (lv_at hl 0 rfl) ?_
    refine lv_iload_n hx hb dL_law_1308 rfl (lv_at hl 3 rfl) ?_
    refine lv_iconst (v := (3 : Int32)) hx hb dL_law_1309 (by decide) ?_
    refine lv_iadd hx hb dL_law_1310 ?_
    refine va_sld hx hb hX hbl hbA hS (zl_in h3 hL (by decide)) dL_law_1311 ?_
    obtain ⟨R2, hf2, hJ2, hM2⟩ := K_X12_row l D cs k H.size am w hJ (xs (x3 + (1 : Int32)).toNatClampNeg) (xs (x3 + (2 : Int32)).toNatClampNeg) (xs (x3 + (3 : Int32)).toNatClampNeg)
    have hf3 := hf2
    rw [← (rl_0 hr :), ← (rl_5 hr :), ← (rl_6 hr :), ← (rl_7 hr :), ← (rl_12 hr :), ← (rl_15 hr :), ← (rl_17 hr :)] at hf3
    obtain ⟨EQ, E1, E2, E3⟩ := pw_row hp0 (rl_24 hr :) hf1 hf3
    have EQ2 : RL ((fun n => zc n 39 R1.2.1 (zc n 41 R1.2.2.1 (z.1 n))), z.2.1, (fun n => zc n 3 R1.2.2.2 (z.2.2.1 n)), z.2.2.2.1, z.2.2.2.2.1, z.2.2.2.2.2.1, z.2.2.2.2.2.2.1, z.2.2.2.2.2.2.2) (w.1, (fun n => zc n 39 R2.2.1 (zc n 40 R2.2.2.1 (w.2.1 n))), (fun n => zc n 0 R2.2.2.2 (w.2.2 n))) := ⟨(rl_0 hr :), (rl_1 hr :), (rl_2 hr :), (rl_3 hr :), (rl_4 hr :), (rl_5 hr :), (rl_6 hr :), (rl_7 hr :), (rl_8 hr :), (rl_9 hr :), (rl_10 hr :), (rl_11 hr :), (rl_12 hr :), (rl_13 hr :), (rl_14 hr :), (rl_15 hr :), (rl_16 hr :), (rl_17 hr :), (rl_18 hr :), (rl_19 hr :), (rl_20 hr :), (rl_21 hr :), (rl_22 hr :), (PLR_fr (rl_23 hr :) (Int.le_refl _) (E2 0 (by decide)).1 (E2 0 (by decide)).2 (fun k k1 k2 => E3 k (by omega))), E1, (PLR_fr (rl_25 hr :) (Int.le_refl _) (E2 2 (by decide)).1 (E2 2 (by decide)).2 (fun k k1 k2 => E3 k (by omega))), (PLR_fr (rl_26 hr :) (Int.le_refl _) (E2 3 (by decide)).1 (E2 3 (by decide)).2 (fun k k1 k2 => E3 k (by omega))), (PLR_fr (rl_27 hr :) (Int.le_refl _) (E2 4 (by decide)).1 (E2 4 (by decide)).2 (fun k k1 k2 => E3 k (by omega))), (PLR_fr (rl_28 hr :) (Int.le_refl _) (E2 5 (by decide)).1 (E2 5 (by decide)).2 (fun k k1 k2 => E3 k (by omega))), (rl_29 hr :), (rl_30 hr :), (rl_31 hr :), (rl_32 hr :), (rl_33 hr :)⟩
    refine zk_LMi (As := [.int (xs (x3 + (1 : Int32)).toNatClampNeg), .int (xs (x3 + (2 : Int32)).toNatClampNeg), .int (xs (x3 + (3 : Int32)).toNatClampNeg)]) (rest := []) hE hO hM2 ⟨hx, hb, hml, hown, ht⟩ (cwV 3 ht gl_150 rfl rfl rfl (by decide +kernel) ⟨Nat.le_of_ble_eq_true rfl, Nat.le_of_ble_eq_true rfl⟩) (va_recv hK hP (ci := 12) (q0 := 0) rfl rfl) hP hD hS hK hA rfl hl.1 (Nat.le_of_ble_eq_true rfl) dL_law_1312 ⟨by show _ ≤ 600000; omega, by show _ ≤ 7302250; omega⟩ (fun H locs hP hD hS => ?_)
    refine lv_pop hx hb dL_law_1315 rfl ?_
    refine lv_goto (tgt := 1544) hx hb dL_law_1316 (by decide) ?_
    exact kk _ _ H locs ls _ _ hI2 hJ2 EQ2 (by omega) (by omega) hP hD hS (lv_sub hl [0, 1, 2, 3] rfl)
  · refine lv_aload_n hx hb dL_law_1276 rfl (lv_at hl 1 rfl) ?_
    refine lv_aload_n hx hb dL_law_1277 rfl (lv_at hl 0 rfl) ?_
    refine lv_iload_n hx hb dL_law_1278 rfl (lv_at hl 3 rfl) ?_
    refine lv_iconst (v := (1 : Int32)) hx hb dL_law_1279 (by decide) ?_
    refine lv_iadd hx hb dL_law_1280 ?_
    refine va_sld hx hb hX hbl hbA hS (zl_in h3 hL (by decide)) dL_law_1281 ?_
    refine lv_aload_n hx hb dL_law_1282 rfl (lv_at hl 0 rfl) ?_
    refine lv_iload_n hx hb dL_law_1283 rfl (lv_at hl 3 rfl) ?_
    refine lv_iconst (v := (2 : Int32)) hx hb dL_law_1284 (by decide) ?_
    refine lv_iadd hx hb dL_law_1285 ?_
    refine va_sld hx hb hX hbl hbA hS (zl_in h3 hL (by decide)) dL_law_1286 ?_
    refine lv_aload_n hx hb dL_law_1287 rfl (lv_at hl 0 rfl) ?_
    refine lv_iload_n hx hb dL_law_1288 rfl (lv_at hl 3 rfl) ?_
    refine lv_iconst (v := (3 : Int32)) hx hb dL_law_1289 (by decide) ?_
    refine lv_iadd hx hb dL_law_1290 ?_
    refine va_sld hx hb hX hbl hbA hS (zl_in h3 hL (by decide)) dL_law_1291 ?_
    obtain ⟨R1, hf1, hI2, hM1⟩ := K_X11_row_2 l D cs k H.size ad z hI (xs (x3 + (1 : Int32)).toNatClampNeg) (xs (x3 + (2 : Int32)).toNatClampNeg) (xs (x3 + (3 : Int32)).toNatClampNeg) hp0
    refine zk_LXi (As := [.int (xs (x3 + (1 : Int32)).toNatClampNeg), .int (xs (x3 + (2 : Int32)).toNatClampNeg), .int (xs (x3 + (3 : Int32)).toNatClampNeg)]) (rest := []) hE hO hM1 ⟨hx, hb, hml, hown, ht⟩ (cwV 3 ht gl_147 rfl rfl rfl (by decide +kernel) ⟨Nat.le_of_ble_eq_true rfl, Nat.le_of_ble_eq_true rfl⟩) (va_recv hK hP (ci := 11) (q0 := 44) rfl rfl) hP hD hS hK hA rfl hl.1 (Nat.le_of_ble_eq_true rfl) dL_law_1292 ⟨by show _ ≤ 600000; omega, by show _ ≤ 7302250; omega⟩ (fun H locs hP hD hS => ?_)
    refine lv_pop hx hb dL_law_1295 rfl ?_
    refine lv_aload_n hx hb dL_law_1296 rfl (lv_at hl 2 rfl) ?_
    refine lv_aload_n hx hb dL_law_1297 rfl (lv_at hl 0 rfl) ?_
    refine lv_iload_n hx hb dL_law_1298 rfl (lv_at hl 3 rfl) ?_
    refine lv_iconst (v := (1 : Int32)) hx hb dL_law_1299 (by decide) ?_
    refine lv_iadd hx hb dL_law_1300 ?_
    refine va_sld hx hb hX hbl hbA hS (zl_in h3 hL (by decide)) dL_law_1301 ?_
    refine lv_aload_n hx hb dL_law_1302 rfl (lv_at hl 0 rfl) ?_
    refine lv_iload_n hx hb dL_law_1303 rfl (lv_at hl 3 rfl) ?_
    refine lv_iconst (v := (2 : Int32)) hx hb dL_law_1304 (by decide) ?_
    refine lv_iadd hx hb dL_law_1305 ?_
    refine va_sld hx hb hX hbl hbA hS (zl_in h3 hL (by decide)) dL_law_1306 ?_
    refine lv_aload_n hx hb dL_law_1307 rfl (lv_at hl 0 rfl) ?_
    refine lv_iload_n hx hb dL_law_1308 rfl (lv_at hl 3 rfl) ?_
    refine lv_iconst (v := (3 : Int32)) hx hb dL_law_1309 (by decide) ?_
    refine lv_iadd hx hb dL_law_1310 ?_
    refine va_sld hx hb hX hbl hbA hS (zl_in h3 hL (by decide)) dL_law_1311 ?_
    obtain ⟨R2, hf2, hJ2, hM2⟩ := K_X12_row l D cs k H.size am w hJ (xs (x3 + (1 : Int32)).toNatClampNeg) (xs (x3 + (2 : Int32)).toNatClampNeg) (xs (x3 + (3 : Int32)).toNatClampNeg)
    have hf3 := hf2
    rw [← (rl_0 hr :), ← (rl_5 hr :), ← (rl_6 hr :), ← (rl_7 hr :), ← (rl_12 hr :), ← (rl_15 hr :), ← (rl_17 hr :)] at hf3
    obtain ⟨EQ, E1, E2, E3⟩ := pw_row hp0 (rl_25 hr :) hf1 hf3
    have EQ2 : RL ((fun n => zc n 42 R1.2.1 (zc n 44 R1.2.2.1 (z.1 n))), z.2.1, (fun n => zc n 4 R1.2.2.2 (z.2.2.1 n)), z.2.2.2.1, z.2.2.2.2.1, z.2.2.2.2.2.1, z.2.2.2.2.2.2.1, z.2.2.2.2.2.2.2) (w.1, (fun n => zc n 39 R2.2.1 (zc n 40 R2.2.2.1 (w.2.1 n))), (fun n => zc n 0 R2.2.2.2 (w.2.2 n))) := ⟨(rl_0 hr :), (rl_1 hr :), (rl_2 hr :), (rl_3 hr :), (rl_4 hr :), (rl_5 hr :), (rl_6 hr :), (rl_7 hr :), (rl_8 hr :), (rl_9 hr :), (rl_10 hr :), (rl_11 hr :), (rl_12 hr :), (rl_13 hr :), (rl_14 hr :), (rl_15 hr :), (rl_16 hr :), (rl_17 hr :), (rl_18 hr :), (rl_19 hr :), (rl_20 hr :), (rl_21 hr :), (rl_22 hr :), (PLR_fr (rl_23 hr :) (Int.le_refl _) (E2 0 (by decide)).1 (E2 0 (by decide)).2 (fun k k1 k2 => E3 k (by omega))), (PLR_fr (rl_24 hr :) (Int.le_refl _) (E2 1 (by decide)).1 (E2 1 (by decide)).2 (fun k k1 k2 => E3 k (by omega))), E1, (PLR_fr (rl_26 hr :) (Int.le_refl _) (E2 3 (by decide)).1 (E2 3 (by decide)).2 (fun k k1 k2 => E3 k (by omega))), (PLR_fr (rl_27 hr :) (Int.le_refl _) (E2 4 (by decide)).1 (E2 4 (by decide)).2 (fun k k1 k2 => E3 k (by omega))), (PLR_fr (rl_28 hr :) (Int.le_refl _) (E2 5 (by decide)).1 (E2 5 (by decide)).2 (fun k k1 k2 => E3 k (by omega))), (rl_29 hr :), (rl_30 hr :), (rl_31 hr :), (rl_32 hr :), (rl_33 hr :)⟩
    refine zk_LMi (As := [.int (xs (x3 + (1 : Int32)).toNatClampNeg), .int (xs (x3 + (2 : Int32)).toNatClampNeg), .int (xs (x3 + (3 : Int32)).toNatClampNeg)]) (rest := []) hE hO hM2 ⟨hx, hb, hml, hown, ht⟩ (cwV 3 ht gl_150 rfl rfl rfl (by decide +kernel) ⟨Nat.le_of_ble_eq_true rfl, Nat.le_of_ble_eq_true rfl⟩) (va_recv hK hP (ci := 12) (q0 := 0) rfl rfl) hP hD hS hK hA rfl hl.1 (Nat.le_of_ble_eq_true rfl) dL_law_1312 ⟨by show _ ≤ 600000; omega, by show _ ≤ 7302250; omega⟩ (fun H locs hP hD hS => ?_)
    refine lv_pop hx hb dL_law_1315 rfl ?_
    refine lv_goto (tgt := 1544) hx hb dL_law_1316 (by decide) ?_
    exact kk _ _ H locs ls _ _ hI2 hJ2 EQ2 (by omega) (by omega) hP hD hS (lv_sub hl [0, 1, 2, 3] rfl)
  · refine lv_aload_n hx hb dL_law_1276 rfl (lv_at hl 1 rfl) ?_
    refine lv_aload_n hx hb dL_law_1277 rfl (lv_at hl 0 rfl) ?_
    refine lv_iload_n hx hb dL_law_1278 rfl (lv_at hl 3 rfl) ?_
    refine lv_iconst (v := (1 : Int32)) hx hb dL_law_1279 (by decide) ?_
    refine lv_iadd hx hb dL_law_1280 ?_
    refine va_sld hx hb hX hbl hbA hS (zl_in h3 hL (by decide)) dL_law_1281 ?_
    refine lv_aload_n hx hb dL_law_1282 rfl (lv_at hl 0 rfl) ?_
    refine lv_iload_n hx hb dL_law_1283 rfl (lv_at hl 3 rfl) ?_
    refine lv_iconst (v := (2 : Int32)) hx hb dL_law_1284 (by decide) ?_
    refine lv_iadd hx hb dL_law_1285 ?_
    refine va_sld hx hb hX hbl hbA hS (zl_in h3 hL (by decide)) dL_law_1286 ?_
    refine lv_aload_n hx hb dL_law_1287 rfl (lv_at hl 0 rfl) ?_
    refine lv_iload_n hx hb dL_law_1288 rfl (lv_at hl 3 rfl) ?_
    refine lv_iconst (v := (3 : Int32)) hx hb dL_law_1289 (by decide) ?_
    refine lv_iadd hx hb dL_law_1290 ?_
    refine va_sld hx hb hX hbl hbA hS (zl_in h3 hL (by decide)) dL_law_1291 ?_
    obtain ⟨R1, hf1, hI2, hM1⟩ := K_X11_row_3 l D cs k H.size ad z hI (xs (x3 + (1 : Int32)).toNatClampNeg) (xs (x3 + (2 : Int32)).toNatClampNeg) (xs (x3 + (3 : Int32)).toNatClampNeg) hp0
    refine zk_LXi (As := [.int (xs (x3 + (1 : Int32)).toNatClampNeg), .int (xs (x3 + (2 : Int32)).toNatClampNeg), .int (xs (x3 + (3 : Int32)).toNatClampNeg)]) (rest := []) hE hO hM1 ⟨hx, hb, hml, hown, ht⟩ (cwV 3 ht gl_147 rfl rfl rfl (by decide +kernel) ⟨Nat.le_of_ble_eq_true rfl, Nat.le_of_ble_eq_true rfl⟩) (va_recv hK hP (ci := 11) (q0 := 44) rfl rfl) hP hD hS hK hA rfl hl.1 (Nat.le_of_ble_eq_true rfl) dL_law_1292 ⟨by show _ ≤ 600000; omega, by show _ ≤ 7302250; omega⟩ (fun H locs hP hD hS => ?_)
    refine lv_pop hx hb dL_law_1295 rfl ?_
    refine lv_aload_n hx hb dL_law_1296 rfl (lv_at hl 2 rfl) ?_
    refine lv_aload_n hx hb dL_law_1297 rfl (lv_at hl 0 rfl) ?_
    refine lv_iload_n hx hb dL_law_1298 rfl (lv_at hl 3 rfl) ?_
    refine lv_iconst (v := (1 : Int32)) hx hb dL_law_1299 (by decide) ?_
    refine lv_iadd hx hb dL_law_1300 ?_
    refine va_sld hx hb hX hbl hbA hS (zl_in h3 hL (by decide)) dL_law_1301 ?_
    refine lv_aload_n hx hb dL_law_1302 rfl (lv_at hl 0 rfl) ?_
    refine lv_iload_n hx hb dL_law_1303 rfl (lv_at hl 3 rfl) ?_
    refine lv_iconst (v := (2 : Int32)) hx hb dL_law_1304 (by decide) ?_
    refine lv_iadd hx hb dL_law_1305 ?_
    refine va_sld hx hb hX hbl hbA hS (zl_in h3 hL (by decide)) dL_law_1306 ?_
    refine lv_aload_n hx hb dL_law_1307 rfl (lv_at hl 0 rfl) ?_
    refine lv_iload_n hx hb dL_law_1308 rfl (lv_at hl 3 rfl) ?_
    refine lv_iconst (v := (3 : Int32)) hx hb dL_law_1309 (by decide) ?_
    refine lv_iadd hx hb dL_law_1310 ?_
    refine va_sld hx hb hX hbl hbA hS (zl_in h3 hL (by decide)) dL_law_1311 ?_
    obtain ⟨R2, hf2, hJ2, hM2⟩ := K_X12_row l D cs k H.size am w hJ (xs (x3 + (1 : Int32)).toNatClampNeg) (xs (x3 + (2 : Int32)).toNatClampNeg) (xs (x3 + (3 : Int32)).toNatClampNeg)
    have hf3 := hf2
    rw [← (rl_0 hr :), ← (rl_5 hr :), ← (rl_6 hr :), ← (rl_7 hr :), ← (rl_12 hr :), ← (rl_15 hr :), ← (rl_17 hr :)] at hf3
    obtain ⟨EQ, E1, E2, E3⟩ := pw_row hp0 (rl_26 hr :) hf1 hf3
    have EQ2 : RL ((fun n => zc n 45 R1.2.1 (zc n 47 R1.2.2.1 (z.1 n))), z.2.1, (fun n => zc n 5 R1.2.2.2 (z.2.2.1 n)), z.2.2.2.1, z.2.2.2.2.1, z.2.2.2.2.2.1, z.2.2.2.2.2.2.1, z.2.2.2.2.2.2.2) (w.1, (fun n => zc n 39 R2.2.1 (zc n 40 R2.2.2.1 (w.2.1 n))), (fun n => zc n 0 R2.2.2.2 (w.2.2 n))) := ⟨(rl_0 hr :), (rl_1 hr :), (rl_2 hr :), (rl_3 hr :), (rl_4 hr :), (rl_5 hr :), (rl_6 hr :), (rl_7 hr :), (rl_8 hr :), (rl_9 hr :), (rl_10 hr :), (rl_11 hr :), (rl_12 hr :), (rl_13 hr :), (rl_14 hr :), (rl_15 hr :), (rl_16 hr :), (rl_17 hr :), (rl_18 hr :), (rl_19 hr :), (rl_20 hr :), (rl_21 hr :), (rl_22 hr :), (PLR_fr (rl_23 hr :) (Int.le_refl _) (E2 0 (by decide)).1 (E2 0 (by decide)).2 (fun k k1 k2 => E3 k (by omega))), (PLR_fr (rl_24 hr :) (Int.le_refl _) (E2 1 (by decide)).1 (E2 1 (by decide)).2 (fun k k1 k2 => E3 k (by omega))), (PLR_fr (rl_25 hr :) (Int.le_refl _) (E2 2 (by decide)).1 (E2 2 (by decide)).2 (fun k k1 k2 => E3 k (by omega))), E1, (PLR_fr (rl_27 hr :) (Int.le_refl _) (E2 4 (by decide)).1 (E2 4 (by decide)).2 (fun k k1 k2 => E3 k (by omega))), (PLR_fr (rl_28 hr :) (Int.le_refl _) (E2 5 (by decide)).1 (E2 5 (by decide)).2 (fun k k1 k2 => E3 k (by omega))), (rl_29 hr :), (rl_30 hr :), (rl_31 hr :), (rl_32 hr :), (rl_33 hr :)⟩
    refine zk_LMi (As := [.int (xs (x3 + (1 : Int32)).toNatClampNeg), .int (xs (x3 + (2 : Int32)).toNatClampNeg), .int (xs (x3 + (3 : Int32)).toNatClampNeg)]) (rest := []) hE hO hM2 ⟨hx, hb, hml, hown, ht⟩ (cwV 3 ht gl_150 rfl rfl rfl (by decide +kernel) ⟨Nat.le_of_ble_eq_true rfl, Nat.le_of_ble_eq_true rfl⟩) (va_recv hK hP (ci := 12) (q0 := 0) rfl rfl) hP hD hS hK hA rfl hl.1 (Nat.le_of_ble_eq_true rfl) dL_law_1312 ⟨by show _ ≤ 600000; omega, by show _ ≤ 7302250; omega⟩ (fun H locs hP hD hS => ?_)
    refine lv_pop hx hb dL_law_1315 rfl ?_
    refine lv_goto (tgt := 1544) hx hb dL_law_1316 (by decide) ?_
    exact kk _ _ H locs ls _ _ hI2 hJ2 EQ2 (by omega) (by omega) hP hD hS (lv_sub hl [0, 1, 2, 3] rfl)
  · refine lv_aload_n hx hb dL_law_1276 rfl (lv_at hl 1 rfl) ?_
    refine lv_aload_n hx hb dL_law_1277 rfl (lv_at hl 0 rfl) ?_
    refine lv_iload_n hx hb dL_law_1278 rfl (lv_at hl 3 rfl) ?_
    refine lv_iconst (v := (1 : Int32)) hx hb dL_law_1279 (by decide) ?_
    refine lv_iadd hx hb dL_law_1280 ?_
    refine va_sld hx hb hX hbl hbA hS (zl_in h3 hL (by decide)) dL_law_1281 ?_
    refine lv_aload_n hx hb dL_law_1282 rfl (lv_at hl 0 rfl) ?_
    refine lv_iload_n hx hb dL_law_1283 rfl (lv_at hl 3 rfl) ?_
    refine lv_iconst (v := (2 : Int32)) hx hb dL_law_1284 (by decide) ?_
    refine lv_iadd hx hb dL_law_1285 ?_
    refine va_sld hx hb hX hbl hbA hS (zl_in h3 hL (by decide)) dL_law_1286 ?_
    refine lv_aload_n hx hb dL_law_1287 rfl (lv_at hl 0 rfl) ?_
    refine lv_iload_n hx hb dL_law_1288 rfl (lv_at hl 3 rfl) ?_
    refine lv_iconst (v := (3 : Int32)) hx hb dL_law_1289 (by decide) ?_
    refine lv_iadd hx hb dL_law_1290 ?_
    refine va_sld hx hb hX hbl hbA hS (zl_in h3 hL (by decide)) dL_law_1291 ?_
    obtain ⟨R1, hf1, hI2, hM1⟩ := K_X11_row_4 l D cs k H.size ad z hI (xs (x3 + (1 : Int32)).toNatClampNeg) (xs (x3 + (2 : Int32)).toNatClampNeg) (xs (x3 + (3 : Int32)).toNatClampNeg) hp0
    refine zk_LXi (As := [.int (xs (x3 + (1 : Int32)).toNatClampNeg), .int (xs (x3 + (2 : Int32)).toNatClampNeg), .int (xs (x3 + (3 : Int32)).toNatClampNeg)]) (rest := []) hE hO hM1 ⟨hx, hb, hml, hown, ht⟩ (cwV 3 ht gl_147 rfl rfl rfl (by decide +kernel) ⟨Nat.le_of_ble_eq_true rfl, Nat.le_of_ble_eq_true rfl⟩) (va_recv hK hP (ci := 11) (q0 := 44) rfl rfl) hP hD hS hK hA rfl hl.1 (Nat.le_of_ble_eq_true rfl) dL_law_1292 ⟨by show _ ≤ 600000; omega, by show _ ≤ 7302250; omega⟩ (fun H locs hP hD hS => ?_)
    refine lv_pop hx hb dL_law_1295 rfl ?_
    refine lv_aload_n hx hb dL_law_1296 rfl (lv_at hl 2 rfl) ?_
    refine lv_aload_n hx hb dL_law_1297 rfl (lv_at hl 0 rfl) ?_
    refine lv_iload_n hx hb dL_law_1298 rfl (lv_at hl 3 rfl) ?_
    refine lv_iconst (v := (1 : Int32)) hx hb dL_law_1299 (by decide) ?_
    refine lv_iadd hx hb dL_law_1300 ?_
    refine va_sld hx hb hX hbl hbA hS (zl_in h3 hL (by decide)) dL_law_1301 ?_
    refine lv_aload_n hx hb dL_law_1302 rfl (lv_at hl 0 rfl) ?_
    refine lv_iload_n hx hb dL_law_1303 rfl (lv_at hl 3 rfl) ?_
    refine lv_iconst (v := (2 : Int32)) hx hb dL_law_1304 (by decide) ?_
    refine lv_iadd hx hb dL_law_1305 ?_
    refine va_sld hx hb hX hbl hbA hS (zl_in h3 hL (by decide)) dL_law_1306 ?_
    refine lv_aload_n hx hb dL_law_1307 rfl (lv_at hl 0 rfl) ?_
    refine lv_iload_n hx hb dL_law_1308 rfl (lv_at hl 3 rfl) ?_
    refine lv_iconst (v := (3 : Int32)) hx hb dL_law_1309 (by decide) ?_
    refine lv_iadd hx hb dL_law_1310 ?_
    refine va_sld hx hb hX hbl hbA hS (zl_in h3 hL (by decide)) dL_law_1311 ?_
    obtain ⟨R2, hf2, hJ2, hM2⟩ := K_X12_row l D cs k H.size am w hJ (xs (x3 + (1 : Int32)).toNatClampNeg) (xs (x3 + (2 : Int32)).toNatClampNeg) (xs (x3 + (3 : Int32)).toNatClampNeg)
    have hf3 := hf2
    rw [← (rl_0 hr :), ← (rl_5 hr :), ← (rl_6 hr :), ← (rl_7 hr :), ← (rl_12 hr :), ← (rl_15 hr :), ← (rl_17 hr :)] at hf3
    obtain ⟨EQ, E1, E2, E3⟩ := pw_row hp0 (rl_27 hr :) hf1 hf3
    have EQ2 : RL ((fun n => zc n 48 R1.2.1 (zc n 50 R1.2.2.1 (z.1 n))), z.2.1, (fun n => zc n 6 R1.2.2.2 (z.2.2.1 n)), z.2.2.2.1, z.2.2.2.2.1, z.2.2.2.2.2.1, z.2.2.2.2.2.2.1, z.2.2.2.2.2.2.2) (w.1, (fun n => zc n 39 R2.2.1 (zc n 40 R2.2.2.1 (w.2.1 n))), (fun n => zc n 0 R2.2.2.2 (w.2.2 n))) := ⟨(rl_0 hr :), (rl_1 hr :), (rl_2 hr :), (rl_3 hr :), (rl_4 hr :), (rl_5 hr :), (rl_6 hr :), (rl_7 hr :), (rl_8 hr :), (rl_9 hr :), (rl_10 hr :), (rl_11 hr :), (rl_12 hr :), (rl_13 hr :), (rl_14 hr :), (rl_15 hr :), (rl_16 hr :), (rl_17 hr :), (rl_18 hr :), (rl_19 hr :), (rl_20 hr :), (rl_21 hr :), (rl_22 hr :), (PLR_fr (rl_23 hr :) (Int.le_refl _) (E2 0 (by decide)).1 (E2 0 (by decide)).2 (fun k k1 k2 => E3 k (by omega))), (PLR_fr (rl_24 hr :) (Int.le_refl _) (E2 1 (by decide)).1 (E2 1 (by decide)).2 (fun k k1 k2 => E3 k (by omega))), (PLR_fr (rl_25 hr :) (Int.le_refl _) (E2 2 (by decide)).1 (E2 2 (by decide)).2 (fun k k1 k2 => E3 k (by omega))), (PLR_fr (rl_26 hr :) (Int.le_refl _) (E2 3 (by decide)).1 (E2 3 (by decide)).2 (fun k k1 k2 => E3 k (by omega))), E1, (PLR_fr (rl_28 hr :) (Int.le_refl _) (E2 5 (by decide)).1 (E2 5 (by decide)).2 (fun k k1 k2 => E3 k (by omega))), (rl_29 hr :), (rl_30 hr :), (rl_31 hr :), (rl_32 hr :), (rl_33 hr :)⟩
    refine zk_LMi (As := [.int (xs (x3 + (1 : Int32)).toNatClampNeg), .int (xs (x3 + (2 : Int32)).toNatClampNeg), .int (xs (x3 + (3 : Int32)).toNatClampNeg)]) (rest := []) hE hO hM2 ⟨hx, hb, hml, hown, ht⟩ (cwV 3 ht gl_150 rfl rfl rfl (by decide +kernel) ⟨Nat.le_of_ble_eq_true rfl, Nat.le_of_ble_eq_true rfl⟩) (va_recv hK hP (ci := 12) (q0 := 0) rfl rfl) hP hD hS hK hA rfl hl.1 (Nat.le_of_ble_eq_true rfl) dL_law_1312 ⟨by show _ ≤ 600000; omega, by show _ ≤ 7302250; omega⟩ (fun H locs hP hD hS => ?_)
    refine lv_pop hx hb dL_law_1315 rfl ?_
    refine lv_goto (tgt := 1544) hx hb dL_law_1316 (by decide) ?_
    exact kk _ _ H locs ls _ _ hI2 hJ2 EQ2 (by omega) (by omega) hP hD hS (lv_sub hl [0, 1, 2, 3] rfl)
  · refine lv_aload_n hx hb dL_law_1276 rfl (lv_at hl 1 rfl) ?_
    refine lv_aload_n hx hb dL_law_1277 rfl (lv_at hl 0 rfl) ?_
    refine lv_iload_n hx hb dL_law_1278 rfl (lv_at hl 3 rfl) ?_
    refine lv_iconst (v := (1 : Int32)) hx hb dL_law_1279 (by decide) ?_
    refine lv_iadd hx hb dL_law_1280 ?_
    refine va_sld hx hb hX hbl hbA hS (zl_in h3 hL (by decide)) dL_law_1281 ?_
    refine lv_aload_n hx hb dL_law_1282 rfl (lv_at hl 0 rfl) ?_
    refine lv_iload_n hx hb dL_law_1283 rfl (lv_at hl 3 rfl) ?_
    refine lv_iconst (v := (2 : Int32)) hx hb dL_law_1284 (by decide) ?_
    refine lv_iadd hx hb dL_law_1285 ?_
    refine va_sld hx hb hX hbl hbA hS (zl_in h3 hL (by decide)) dL_law_1286 ?_
    refine lv_aload_n hx hb dL_law_1287 rfl (lv_at hl 0 rfl) ?_
    refine lv_iload_n hx hb dL_law_1288 rfl (lv_at hl 3 rfl) ?_
    refine lv_iconst (v := (3 : Int32)) hx hb dL_law_1289 (by decide) ?_
    refine lv_iadd hx hb dL_law_1290 ?_
    refine va_sld hx hb hX hbl hbA hS (zl_in h3 hL (by decide)) dL_law_1291 ?_
    obtain ⟨R1, hf1, hI2, hM1⟩ := K_X11_row_5 l D cs k H.size ad z hI (xs (x3 + (1 : Int32)).toNatClampNeg) (xs (x3 + (2 : Int32)).toNatClampNeg) (xs (x3 + (3 : Int32)).toNatClampNeg) hp0
    refine zk_LXi (As := [.int (xs (x3 + (1 : Int32)).toNatClampNeg), .int (xs (x3 + (2 : Int32)).toNatClampNeg), .int (xs (x3 + (3 : Int32)).toNatClampNeg)]) (rest := []) hE hO hM1 ⟨hx, hb, hml, hown, ht⟩ (cwV 3 ht gl_147 rfl rfl rfl (by decide +kernel) ⟨Nat.le_of_ble_eq_true rfl, Nat.le_of_ble_eq_true rfl⟩) (va_recv hK hP (ci := 11) (q0 := 44) rfl rfl) hP hD hS hK hA rfl hl.1 (Nat.le_of_ble_eq_true rfl) dL_law_1292 ⟨by show _ ≤ 600000; omega, by show _ ≤ 7302250; omega⟩ (fun H locs hP hD hS => ?_)
    refine lv_pop hx hb dL_law_1295 rfl ?_
    refine lv_aload_n hx hb dL_law_1296 rfl (lv_at hl 2 rfl) ?_
    refine lv_aload_n hx hb dL_law_1297 rfl (lv_at hl 0 rfl) ?_
    refine lv_iload_n hx hb dL_law_1298 rfl (lv_at hl 3 rfl) ?_
    refine lv_iconst (v := (1 : Int32)) hx hb dL_law_1299 (by decide) ?_
    refine lv_iadd hx hb dL_law_1300 ?_
    refine va_sld hx hb hX hbl hbA hS (zl_in h3 hL (by decide)) dL_law_1301 ?_
    refine lv_aload_n hx hb dL_law_1302 rfl (lv_at hl 0 rfl) ?_
    refine lv_iload_n hx hb dL_law_1303 rfl (lv_at hl 3 rfl) ?_
    refine lv_iconst (v := (2 : Int32)) hx hb dL_law_1304 (by decide) ?_
    refine lv_iadd hx hb dL_law_1305 ?_
    refine va_sld hx hb hX hbl hbA hS (zl_in h3 hL (by decide)) dL_law_1306 ?_
    refine lv_aload_n hx hb dL_law_1307 rfl (lv_at hl 0 rfl) ?_
    refine lv_iload_n hx hb dL_law_1308 rfl (lv_at hl 3 rfl) ?_
    refine lv_iconst (v := (3 : Int32)) hx hb dL_law_1309 (by decide) ?_
    refine lv_iadd hx hb dL_law_1310 ?_
    refine va_sld hx hb hX hbl hbA hS (zl_in h3 hL (by decide)) dL_law_1311 ?_
    obtain ⟨R2, hf2, hJ2, hM2⟩ := K_X12_row l D cs k H.size am w hJ (xs (x3 + (1 : Int32)).toNatClampNeg) (xs (x3 + (2 : Int32)).toNatClampNeg) (xs (x3 + (3 : Int32)).toNatClampNeg)
    have hf3 := hf2
    rw [← (rl_0 hr :), ← (rl_5 hr :), ← (rl_6 hr :), ← (rl_7 hr :), ← (rl_12 hr :), ← (rl_15 hr :), ← (rl_17 hr :)] at hf3
    obtain ⟨EQ, E1, E2, E3⟩ := pw_row hp0 (rl_28 hr :) hf1 hf3
    have EQ2 : RL ((fun n => zc n 51 R1.2.1 (zc n 53 R1.2.2.1 (z.1 n))), z.2.1, (fun n => zc n 7 R1.2.2.2 (z.2.2.1 n)), z.2.2.2.1, z.2.2.2.2.1, z.2.2.2.2.2.1, z.2.2.2.2.2.2.1, z.2.2.2.2.2.2.2) (w.1, (fun n => zc n 39 R2.2.1 (zc n 40 R2.2.2.1 (w.2.1 n))), (fun n => zc n 0 R2.2.2.2 (w.2.2 n))) := ⟨(rl_0 hr :), (rl_1 hr :), (rl_2 hr :), (rl_3 hr :), (rl_4 hr :), (rl_5 hr :), (rl_6 hr :), (rl_7 hr :), (rl_8 hr :), (rl_9 hr :), (rl_10 hr :), (rl_11 hr :), (rl_12 hr :), (rl_13 hr :), (rl_14 hr :), (rl_15 hr :), (rl_16 hr :), (rl_17 hr :), (rl_18 hr :), (rl_19 hr :), (rl_20 hr :), (rl_21 hr :), (rl_22 hr :), (PLR_fr (rl_23 hr :) (Int.le_refl _) (E2 0 (by decide)).1 (E2 0 (by decide)).2 (fun k k1 k2 => E3 k (by omega))), (PLR_fr (rl_24 hr :) (Int.le_refl _) (E2 1 (by decide)).1 (E2 1 (by decide)).2 (fun k k1 k2 => E3 k (by omega))), (PLR_fr (rl_25 hr :) (Int.le_refl _) (E2 2 (by decide)).1 (E2 2 (by decide)).2 (fun k k1 k2 => E3 k (by omega))), (PLR_fr (rl_26 hr :) (Int.le_refl _) (E2 3 (by decide)).1 (E2 3 (by decide)).2 (fun k k1 k2 => E3 k (by omega))), (PLR_fr (rl_27 hr :) (Int.le_refl _) (E2 4 (by decide)).1 (E2 4 (by decide)).2 (fun k k1 k2 => E3 k (by omega))), E1, (rl_29 hr :), (rl_30 hr :), (rl_31 hr :), (rl_32 hr :), (rl_33 hr :)⟩
    refine zk_LMi (As := [.int (xs (x3 + (1 : Int32)).toNatClampNeg), .int (xs (x3 + (2 : Int32)).toNatClampNeg), .int (xs (x3 + (3 : Int32)).toNatClampNeg)]) (rest := []) hE hO hM2 ⟨hx, hb, hml, hown, ht⟩ (cwV 3 ht gl_150 rfl rfl rfl (by decide +kernel) ⟨Nat.le_of_ble_eq_true rfl, Nat.le_of_ble_eq_true rfl⟩) (va_recv hK hP (ci := 12) (q0 := 0) rfl rfl) hP hD hS hK hA rfl hl.1 (Nat.le_of_ble_eq_true rfl) dL_law_1312 ⟨by show _ ≤ 600000; omega, by show _ ≤ 7302250; omega⟩ (fun H locs hP hD hS => ?_)
    refine lv_pop hx hb dL_law_1315 rfl ?_
    refine lv_goto (tgt := 1544) hx hb dL_law_1316 (by decide) ?_
    exact kk _ _ H locs ls _ _ hI2 hJ2 EQ2 (by omega) (by omega) hP hD hS (lv_sub hl [0, 1, 2, 3] rfl)
theorem kw_1902 : Cond.constantLong R_law 151 (4294967295 : Int64) ∈ zW := zwC (i := 148) zc_8 rfl rfl
theorem dL_law_1319 : decode cL_law 1319 = .ok (.aload_n 1, 1) := zo_43 zh_cL_law_65 19 rfl
set_option maxRecDepth 100000 in
theorem zh_cL_law_66 : zck [42, 29, 4, 96, 46, 42, 29, 5, 96, 46, 42, 29, 6, 96, 46, 133, 16, 32, 121, 42, 29, 7] (zdu 1320 cL_law.data.toList) = true := by decide +kernel
theorem dL_law_1320 : decode cL_law 1320 = .ok (.aload_n 0, 1) := zo_42 zh_cL_law_66 0 rfl
theorem dL_law_1321 : decode cL_law 1321 = .ok (.iload_n 3, 1) := zo_29 zh_cL_law_66 1 rfl
theorem dL_law_1322 : decode cL_law 1322 = .ok (.iconst 1, 1) := zo_4 zh_cL_law_66 2 rfl
theorem dL_law_1323 : decode cL_law 1323 = .ok (.iadd, 1) := zo_96 zh_cL_law_66 3 rfl
theorem dL_law_1324 : decode cL_law 1324 = .ok (.iaload, 1) := zo_46 zh_cL_law_66 4 rfl
theorem dL_law_1325 : decode cL_law 1325 = .ok (.aload_n 0, 1) := zo_42 zh_cL_law_66 5 rfl
theorem dL_law_1326 : decode cL_law 1326 = .ok (.iload_n 3, 1) := zo_29 zh_cL_law_66 6 rfl
theorem dL_law_1327 : decode cL_law 1327 = .ok (.iconst 2, 1) := zo_5 zh_cL_law_66 7 rfl
theorem dL_law_1328 : decode cL_law 1328 = .ok (.iadd, 1) := zo_96 zh_cL_law_66 8 rfl
theorem dL_law_1329 : decode cL_law 1329 = .ok (.iaload, 1) := zo_46 zh_cL_law_66 9 rfl
theorem dL_law_1330 : decode cL_law 1330 = .ok (.aload_n 0, 1) := zo_42 zh_cL_law_66 10 rfl
theorem dL_law_1331 : decode cL_law 1331 = .ok (.iload_n 3, 1) := zo_29 zh_cL_law_66 11 rfl
theorem dL_law_1332 : decode cL_law 1332 = .ok (.iconst 3, 1) := zo_6 zh_cL_law_66 12 rfl
theorem dL_law_1333 : decode cL_law 1333 = .ok (.iadd, 1) := zo_96 zh_cL_law_66 13 rfl
theorem dL_law_1334 : decode cL_law 1334 = .ok (.iaload, 1) := zo_46 zh_cL_law_66 14 rfl
theorem dL_law_1335 : decode cL_law 1335 = .ok (.i2l, 1) := zo_133 zh_cL_law_66 15 rfl
theorem dL_law_1336 : decode cL_law 1336 = .ok (.bipush 32, 2) := zo_p16 zh_cL_law_66 16 32 rfl rfl
theorem dL_law_1338 : decode cL_law 1338 = .ok (.lshl, 1) := zo_121 zh_cL_law_66 18 rfl
theorem dL_law_1339 : decode cL_law 1339 = .ok (.aload_n 0, 1) := zo_42 zh_cL_law_66 19 rfl
set_option maxRecDepth 100000 in
theorem zh_cL_law_67 : zck [29, 7, 96, 46, 133, 20, 0, 151, 127, 129, 182, 0, 153, 87, 44, 42, 29, 4, 96, 46, 42, 29] (zdu 1340 cL_law.data.toList) = true := by decide +kernel
theorem dL_law_1340 : decode cL_law 1340 = .ok (.iload_n 3, 1) := zo_29 zh_cL_law_67 0 rfl
theorem dL_law_1341 : decode cL_law 1341 = .ok (.iconst 4, 1) := zo_7 zh_cL_law_67 1 rfl
theorem dL_law_1342 : decode cL_law 1342 = .ok (.iadd, 1) := zo_96 zh_cL_law_67 2 rfl
theorem dL_law_1343 : decode cL_law 1343 = .ok (.iaload, 1) := zo_46 zh_cL_law_67 3 rfl
theorem dL_law_1344 : decode cL_law 1344 = .ok (.i2l, 1) := zo_133 zh_cL_law_67 4 rfl
theorem dL_law_1345 : decode cL_law 1345 = .ok (.ldc2_w 151, 3) := zo_20 zh_cL_law_67 5 rfl
theorem dL_law_1348 : decode cL_law 1348 = .ok (.land, 1) := zo_127 zh_cL_law_67 8 rfl
theorem dL_law_1349 : decode cL_law 1349 = .ok (.lor, 1) := zo_129 zh_cL_law_67 9 rfl
theorem dL_law_1350 : decode cL_law 1350 = .ok (.invokevirtual 153, 3) := zo_182 zh_cL_law_67 10 rfl
theorem dL_law_1353 : decode cL_law 1353 = .ok (.pop, 1) := zo_87 zh_cL_law_67 13 rfl
theorem dL_law_1354 : decode cL_law 1354 = .ok (.aload_n 2, 1) := zo_44 zh_cL_law_67 14 rfl
theorem dL_law_1355 : decode cL_law 1355 = .ok (.aload_n 0, 1) := zo_42 zh_cL_law_67 15 rfl
theorem dL_law_1356 : decode cL_law 1356 = .ok (.iload_n 3, 1) := zo_29 zh_cL_law_67 16 rfl
theorem dL_law_1357 : decode cL_law 1357 = .ok (.iconst 1, 1) := zo_4 zh_cL_law_67 17 rfl
theorem dL_law_1358 : decode cL_law 1358 = .ok (.iadd, 1) := zo_96 zh_cL_law_67 18 rfl
theorem dL_law_1359 : decode cL_law 1359 = .ok (.iaload, 1) := zo_46 zh_cL_law_67 19 rfl
set_option maxRecDepth 100000 in
theorem zh_cL_law_68 : zck [42, 29, 5, 96, 46, 42, 29, 6, 96, 46, 133, 16, 32, 121, 42, 29, 7, 96, 46, 133, 20, 0] (zdu 1360 cL_law.data.toList) = true := by decide +kernel
theorem dL_law_1360 : decode cL_law 1360 = .ok (.aload_n 0, 1) := zo_42 zh_cL_law_68 0 rfl
theorem dL_law_1361 : decode cL_law 1361 = .ok (.iload_n 3, 1) := zo_29 zh_cL_law_68 1 rfl
theorem dL_law_1362 : decode cL_law 1362 = .ok (.iconst 2, 1) := zo_5 zh_cL_law_68 2 rfl
theorem dL_law_1363 : decode cL_law 1363 = .ok (.iadd, 1) := zo_96 zh_cL_law_68 3 rfl
theorem dL_law_1364 : decode cL_law 1364 = .ok (.iaload, 1) := zo_46 zh_cL_law_68 4 rfl
theorem dL_law_1365 : decode cL_law 1365 = .ok (.aload_n 0, 1) := zo_42 zh_cL_law_68 5 rfl
theorem dL_law_1366 : decode cL_law 1366 = .ok (.iload_n 3, 1) := zo_29 zh_cL_law_68 6 rfl
theorem dL_law_1367 : decode cL_law 1367 = .ok (.iconst 3, 1) := zo_6 zh_cL_law_68 7 rfl
theorem dL_law_1368 : decode cL_law 1368 = .ok (.iadd, 1) := zo_96 zh_cL_law_68 8 rfl
theorem dL_law_1369 : decode cL_law 1369 = .ok (.iaload, 1) := zo_46 zh_cL_law_68 9 rfl
theorem dL_law_1370 : decode cL_law 1370 = .ok (.i2l, 1) := zo_133 zh_cL_law_68 10 rfl
theorem dL_law_1371 : decode cL_law 1371 = .ok (.bipush 32, 2) := zo_p16 zh_cL_law_68 11 32 rfl rfl
theorem dL_law_1373 : decode cL_law 1373 = .ok (.lshl, 1) := zo_121 zh_cL_law_68 13 rfl
theorem dL_law_1374 : decode cL_law 1374 = .ok (.aload_n 0, 1) := zo_42 zh_cL_law_68 14 rfl
theorem dL_law_1375 : decode cL_law 1375 = .ok (.iload_n 3, 1) := zo_29 zh_cL_law_68 15 rfl
theorem dL_law_1376 : decode cL_law 1376 = .ok (.iconst 4, 1) := zo_7 zh_cL_law_68 16 rfl
theorem dL_law_1377 : decode cL_law 1377 = .ok (.iadd, 1) := zo_96 zh_cL_law_68 17 rfl
theorem dL_law_1378 : decode cL_law 1378 = .ok (.iaload, 1) := zo_46 zh_cL_law_68 18 rfl
theorem dL_law_1379 : decode cL_law 1379 = .ok (.i2l, 1) := zo_133 zh_cL_law_68 19 rfl
set_option maxRecDepth 100000 in
theorem zh_cL_law_69 : zck [20, 0, 151, 127, 129, 182, 0, 157, 87, 167, 0, 155, 43, 42, 29, 4, 96, 46, 42, 29, 5, 96] (zdu 1380 cL_law.data.toList) = true := by decide +kernel
theorem dL_law_1380 : decode cL_law 1380 = .ok (.ldc2_w 151, 3) := zo_20 zh_cL_law_69 0 rfl
theorem dL_law_1383 : decode cL_law 1383 = .ok (.land, 1) := zo_127 zh_cL_law_69 3 rfl
theorem dL_law_1384 : decode cL_law 1384 = .ok (.lor, 1) := zo_129 zh_cL_law_69 4 rfl
theorem dL_law_1385 : decode cL_law 1385 = .ok (.invokevirtual 157, 3) := zo_182 zh_cL_law_69 5 rfl
theorem dL_law_1388 : decode cL_law 1388 = .ok (.pop, 1) := zo_87 zh_cL_law_69 8 rfl
theorem dL_law_1389 : decode cL_law 1389 = .ok (.goto 155, 3) := zo_p167 zh_cL_law_69 9 155 rfl rfl
set_option maxHeartbeats 8000000 in
set_option maxRecDepth 100000 in
theorem law_case_33 {p : Program} {l : Launch} {e : Env} {s : State} {m : MethodId} {below : List Frame} {meth : Method} {c : Code} {b L : Nat} {xs : Nat → Int32} {D : va_G} {cs : Nat → ClassId} {k : (Nat → Nat) × (Nat → Nat)} {ad am : Nat → Nat} (C0 : lw_At p s m meth c b L xs) (hK : va_K D classes (zT cs) s) (hO : zO s) (hE : zE k (fun q : Nat => s.heap.size ≤ q) s) (hL : L ≤ 3072) (x3 : Int32) (h3 : 0 ≤ x3.toInt ∧ x3.toInt + 6 ≤ (L : Int)) (z : ZT) (w : MT) (hI : IX ad cs z) (hJ : IM w) (hr : RL z w) (cells slots : Nat) (hc : cells + 2 ≤ 600000) (hs : slots + 122 ≤ 7302250) (H : Heap) (locs : List Loc) (ls : Array Slot) (hP : va_P D classes (WM am cs w ++ WX ad cs z) H) (hD : va_D (fun q : Nat => s.heap.size ≤ q) (WM am cs w ++ WX ad cs z)) (hS : va_S (fun q : Nat => s.heap.size ≤ q) s.heap H locs) (hl : lv_has ls 4 [(0, .ref b), (1, .ref (ad 0)), (2, .ref (am 41)), (3, .int x3)]) (kk : ∀ (z2 : ZT) (w2 : MT) (H : Heap) (locs : List Loc) (ls : Array Slot) (cells2 slots2 : Nat), IX ad cs z2 → IM w2 → RL z2 w2 → cells2 ≤ cells + 2 → slots2 ≤ slots + 122 → va_P D classes (WM am cs w2 ++ WX ad cs z2) H → va_D (fun q : Nat => s.heap.size ≤ q) (WM am cs w2 ++ WX ad cs z2) → va_S (fun q : Nat => s.heap.size ≤ q) s.heap H locs → lv_has ls 4 [(0, .ref b), (1, .ref (ad 0)), (2, .ref (am 41)), (3, .int x3)] → W p l e room_1 s m #[Value.ref b] below meth c H locs cells2 slots2 (lw_Z below #[Value.ref b] s) (F0 m 1544 ls [])) : W p l e room_1 s m #[Value.ref b] below meth c H locs cells slots (lw_Z below #[Value.ref b] s) (F0 m 1319 ls []) := by
  obtain ⟨hx, hb, hret, hml, hown, hts, hX, hbl, hlocks, hgv⟩ := id C0
  have hA : ∀ q : Nat, s.heap.size ≤ q → (fun q : Nat => s.heap.size ≤ q) q := fun _ h => h
  have hbA : ¬ (fun q : Nat => s.heap.size ≤ q) b := Nat.not_le.mpr hbl
  have ht : ∀ w ∈ zW, w.before #[Value.ref b] s = true := fun w hw => hts w (List.mem_filter.mp hw).1
  obtain ⟨j0, hj0, hp0⟩ := zk_pl (xs (x3 + (1 : Int32)).toNatClampNeg)
  rcases (show j0 = 0 ∨ j0 = 1 ∨ j0 = 2 ∨ j0 = 3 ∨ j0 = 4 ∨ j0 = 5 by omega) with rfl | rfl | rfl | rfl | rfl | rfl
  · refine lv_aload_n hx hb dL_law_1319 rfl (lv_at hl 1 rfl) ?_
    refine lv_aload_n hx hb dL_law_1320 rfl (lv_at hl 0 rfl) ?_
    refine lv_iload_n hx hb dL_law_1321 rfl (lv_at hl 3 rfl) ?_
    refine lv_iconst (v := (1 : Int32)) hx hb dL_law_1322 (by decide) ?_
    refine lv_iadd hx hb dL_law_1323 ?_
    refine va_sld hx hb hX hbl hbA hS (zl_in h3 hL (by decide)) dL_law_1324 ?_
    refine lv_aload_n hx hb dL_law_1325 rfl (lv_at hl 0 rfl) ?_
    refine lv_iload_n hx hb dL_law_1326 rfl (lv_at hl 3 rfl) ?_
    refine lv_iconst (v := (2 : Int32)) hx hb dL_law_1327 (by decide) ?_
    refine lv_iadd hx hb dL_law_1328 ?_
    refine va_sld hx hb hX hbl hbA hS (zl_in h3 hL (by decide)) dL_law_1329 ?_
    refine lv_aload_n hx hb dL_law_1330 rfl (lv_at hl 0 rfl) ?_
    refine lv_iload_n hx hb dL_law_1331 rfl (lv_at hl 3 rfl) ?_
    refine lv_iconst (v := (3 : Int32)) hx hb dL_law_1332 (by decide) ?_
    refine lv_iadd hx hb dL_law_1333 ?_
    refine va_sld hx hb hX hbl hbA hS (zl_in h3 hL (by decide)) dL_law_1334 ?_
    refine lv_i2l (v := (xs (x3 + (3 : Int32)).toNatClampNeg).toInt64) hx hb dL_law_1335 rfl ?_
    refine lv_bipush (v := (32 : Int32)) hx hb dL_law_1336 (by decide) ?_
    refine lv_lshl (v := ((xs (x3 + (3 : Int32)).toNatClampNeg).toInt64) <<< ((32 : Int32).toInt64 &&& 63)) hx hb dL_law_1338 rfl ?_
    refine lv_aload_n hx hb dL_law_1339 rfl (lv_at hl 0 rfl) ?_
    refine lv_iload_n hx hb dL_law_1340 rfl (lv_at hl 3 rfl) ?_
    refine lv_iconst (v := (4 : Int32)) hx hb dL_law_1341 (by decide) ?_
    refine lv_iadd hx hb dL_law_1342 ?_
    refine va_sld hx hb hX hbl hbA hS (zl_in h3 hL (by decide)) dL_law_1343 ?_
    refine lv_i2l (v := (xs (x3 + (4 : Int32)).toNatClampNeg).toInt64) hx hb dL_law_1344 rfl ?_
    refine lv_ldc2 (v := (4294967295 : Int64)) hx hb hown (ht _ kw_1902) dL_law_1345 ?_
    refine lv_land hx hb dL_law_1348 ?_
    refine lv_lor hx hb dL_law_1349 ?_
    obtain ⟨R1, hf1, hI2, hM1⟩ := K_X11_put_0 l D cs k H.size ad z hI (xs (x3 + (1 : Int32)).toNatClampNeg) (xs (x3 + (2 : Int32)).toNatClampNeg) ((((xs (x3 + (3 : Int32)).toNatClampNeg).toInt64) <<< ((32 : Int32).toInt64 &&& 63)) ||| (((xs (x3 + (4 : Int32)).toNatClampNeg).toInt64) &&& (4294967295 : Int64))) hp0
    refine zk_LXi (As := [.int (xs (x3 + (1 : Int32)).toNatClampNeg), .int (xs (x3 + (2 : Int32)).toNatClampNeg), .long ((((xs (x3 + (3 : Int32)).toNatClampNeg).toInt64) <<< ((32 : Int32).toInt64 &&& 63)) ||| (((xs (x3 + (4 : Int32)).toNatClampNeg).toInt64) &&& (4294967295 : Int64)))]) (rest := []) hE hO hM1 ⟨hx, hb, hml, hown, ht⟩ (cwV 3 ht gl_153 rfl rfl rfl (by decide +kernel) ⟨Nat.le_of_ble_eq_true rfl, Nat.le_of_ble_eq_true rfl⟩) (va_recv hK hP (ci := 11) (q0 := 44) rfl rfl) hP hD hS hK hA rfl hl.1 (Nat.le_of_ble_eq_true rfl) dL_law_1350 ⟨by show _ ≤ 600000; omega, by show _ ≤ 7302250; omega⟩ (fun H locs hP hD hS => ?_)
    refine lv_pop hx hb dL_law_1353 rfl ?_
    refine lv_aload_n hx hb dL_law_1354 rfl (lv_at hl 2 rfl) ?_
    refine lv_aload_n hx hb dL_law_1355 rfl (lv_at hl 0 rfl) ?_
    refine lv_iload_n hx hb dL_law_1356 rfl (lv_at hl 3 rfl) ?_
    refine lv_iconst (v := (1 : Int32)) hx hb dL_law_1357 (by decide) ?_
    refine lv_iadd hx hb dL_law_1358 ?_
    refine va_sld hx hb hX hbl hbA hS (zl_in h3 hL (by decide)) dL_law_1359 ?_
    refine lv_aload_n hx hb dL_law_1360 rfl (lv_at hl 0 rfl) ?_
    refine lv_iload_n hx hb dL_law_1361 rfl (lv_at hl 3 rfl) ?_
    refine lv_iconst (v := (2 : Int32)) hx hb dL_law_1362 (by decide) ?_
    refine lv_iadd hx hb dL_law_1363 ?_
    refine va_sld hx hb hX hbl hbA hS (zl_in h3 hL (by decide)) dL_law_1364 ?_
    refine lv_aload_n hx hb dL_law_1365 rfl (lv_at hl 0 rfl) ?_
    refine lv_iload_n hx hb dL_law_1366 rfl (lv_at hl 3 rfl) ?_
    refine lv_iconst (v := (3 : Int32)) hx hb dL_law_1367 (by decide) ?_
    refine lv_iadd hx hb dL_law_1368 ?_
    refine va_sld hx hb hX hbl hbA hS (zl_in h3 hL (by decide)) dL_law_1369 ?_
    refine lv_i2l (v := (xs (x3 + (3 : Int32)).toNatClampNeg).toInt64) hx hb dL_law_1370 rfl ?_
    refine lv_bipush (v := (32 : Int32)) hx hb dL_law_1371 (by decide) ?_
    refine lv_lshl (v := ((xs (x3 + (3 : Int32)).toNatClampNeg).toInt64) <<< ((32 : Int32).toInt64 &&& 63)) hx hb dL_law_1373 rfl ?_
    refine lv_aload_n hx hb dL_law_1374 rfl (lv_at hl 0 rfl) ?_
    refine lv_iload_n hx hb dL_law_1375 rfl (lv_at hl 3 rfl) ?_
    refine lv_iconst (v := (4 : Int32)) hx hb dL_law_1376 (by decide) ?_
    refine lv_iadd hx hb dL_law_1377 ?_
    refine va_sld hx hb hX hbl hbA hS (zl_in h3 hL (by decide)) dL_law_1378 ?_
    refine lv_i2l (v := (xs (x3 + (4 : Int32)).toNatClampNeg).toInt64) hx hb dL_law_1379 rfl ?_
    refine lv_ldc2 (v := (4294967295 : Int64)) hx hb hown (ht _ kw_1902) dL_law_1380 ?_
    refine lv_land hx hb dL_law_1383 ?_
    refine lv_lor hx hb dL_law_1384 ?_
    obtain ⟨R2, hf2, hJ2, hM2⟩ := K_X12_put l D cs k H.size am w hJ (xs (x3 + (1 : Int32)).toNatClampNeg) (xs (x3 + (2 : Int32)).toNatClampNeg) ((((xs (x3 + (3 : Int32)).toNatClampNeg).toInt64) <<< ((32 : Int32).toInt64 &&& 63)) ||| (((xs (x3 + (4 : Int32)).toNatClampNeg).toInt64) &&& (4294967295 : Int64)))
    have hf3 := hf2
    rw [← (rl_0 hr :), ← (rl_5 hr :), ← (rl_6 hr :), ← (rl_7 hr :), ← (rl_12 hr :), ← (rl_15 hr :), ← (rl_17 hr :)] at hf3
    obtain ⟨EQ, E1, E2⟩ := pw_put hp0 (rl_23 hr :) hf1 hf3
    have EQ2 : RL (z.1, z.2.1, (fun n => zc n 2 R1.2 (z.2.2.1 n)), z.2.2.2.1, z.2.2.2.2.1, z.2.2.2.2.2.1, z.2.2.2.2.2.2.1, z.2.2.2.2.2.2.2) (w.1, w.2.1, (fun n => zc n 0 R2.2 (w.2.2 n))) := ⟨(rl_0 hr :), (rl_1 hr :), (rl_2 hr :), (rl_3 hr :), (rl_4 hr :), (rl_5 hr :), (rl_6 hr :), (rl_7 hr :), (rl_8 hr :), (rl_9 hr :), (rl_10 hr :), (rl_11 hr :), (rl_12 hr :), (rl_13 hr :), (rl_14 hr :), (rl_15 hr :), (rl_16 hr :), (rl_17 hr :), (rl_18 hr :), (rl_19 hr :), (rl_20 hr :), (rl_21 hr :), (rl_22 hr :), E1, (PLR_fr (rl_24 hr :) (Int.le_refl _) rfl rfl (fun k k1 k2 => E2 k (by omega))), (PLR_fr (rl_25 hr :) (Int.le_refl _) rfl rfl (fun k k1 k2 => E2 k (by omega))), (PLR_fr (rl_26 hr :) (Int.le_refl _) rfl rfl (fun k k1 k2 => E2 k (by omega))), (PLR_fr (rl_27 hr :) (Int.le_refl _) rfl rfl (fun k k1 k2 => E2 k (by omega))), (PLR_fr (rl_28 hr :) (Int.le_refl _) rfl rfl (fun k k1 k2 => E2 k (by omega))), (rl_29 hr :), (rl_30 hr :), (rl_31 hr :), (rl_32 hr :), (rl_33 hr :)⟩
    refine zk_LMi (As := [.int (xs (x3 + (1 : Int32)).toNatClampNeg), .int (xs (x3 + (2 : Int32)).toNatClampNeg), .long ((((xs (x3 + (3 : Int32)).toNatClampNeg).toInt64) <<< ((32 : Int32).toInt64 &&& 63)) ||| (((xs (x3 + (4 : Int32)).toNatClampNeg).toInt64) &&& (4294967295 : Int64)))]) (rest := []) hE hO hM2 ⟨hx, hb, hml, hown, ht⟩ (cwV 3 ht gl_157 rfl rfl rfl (by decide +kernel) ⟨Nat.le_of_ble_eq_true rfl, Nat.le_of_ble_eq_true rfl⟩) (va_recv hK hP (ci := 12) (q0 := 0) rfl rfl) hP hD hS hK hA rfl hl.1 (Nat.le_of_ble_eq_true rfl) dL_law_1385 ⟨by show _ ≤ 600000; omega, by show _ ≤ 7302250; omega⟩ (fun H locs hP hD hS => ?_)
    refine lv_pop hx hb dL_law_1388 rfl ?_
    refine lv_goto (tgt := 1544) hx hb dL_law_1389 (by decide) ?_
    exact kk _ _ H locs ls _ _ hI2 hJ2 EQ2 (by omega) (by omega) hP hD hS (lv_sub hl [0, 1, 2, 3] rfl)
  · refine lv_aload_n hx hb dL_law_1319 rfl (lv_at hl 1 rfl) ?_
    refine lv_aload_n hx hb dL_law_1320 rfl (lv_at hl 0 rfl) ?_
    refine lv_iload_n hx hb dL_law_1321 rfl (lv_at hl 3 rfl) ?_
    refine lv_iconst (v := (1 : Int32)) hx hb dL_law_1322 (by decide) ?_
    refine lv_iadd hx hb dL_law_1323 ?_
    refine va_sld hx hb hX hbl hbA hS (zl_in h3 hL (by decide)) dL_law_1324 ?_
    refine lv_aload_n hx hb dL_law_1325 rfl (lv_at hl 0 rfl) ?_
    refine lv_iload_n hx hb dL_law_1326 rfl (lv_at hl 3 rfl) ?_
    refine lv_iconst (v := (2 : Int32)) hx hb dL_law_1327 (by decide) ?_
    refine lv_iadd hx hb dL_law_1328 ?_
    refine va_sld hx hb hX hbl hbA hS (zl_in h3 hL (by decide)) dL_law_1329 ?_
    refine lv_aload_n hx hb dL_law_1330 rfl (lv_at hl 0 rfl) ?_
    refine lv_iload_n hx hb dL_law_1331 rfl (lv_at hl 3 rfl) ?_
    refine lv_iconst (v := (3 : Int32)) hx hb dL_law_1332 (by decide) ?_
    refine lv_iadd hx hb dL_law_1333 ?_
    refine va_sld hx hb hX hbl hbA hS (zl_in h3 hL (by decide)) dL_law_1334 ?_
    refine lv_i2l (v := (xs (x3 + (3 : Int32)).toNatClampNeg).toInt64) hx hb dL_law_1335 rfl ?_
    refine lv_bipush (v := (32 : Int32)) hx hb dL_law_1336 (by decide) ?_
    refine lv_lshl (v := ((xs (x3 + (3 : Int32)).toNatClampNeg).toInt64) <<< ((32 : Int32).toInt64 &&& 63)) hx hb dL_law_1338 rfl ?_
    refine lv_aload_n hx hb dL_law_1339 rfl (lv_at hl 0 rfl) ?_
    refine lv_iload_n hx hb dL_law_1340 rfl (lv_at hl 3 rfl) ?_
    refine lv_iconst (v := (4 : Int32)) hx hb dL_law_1341 (by decide) ?_
    refine lv_iadd hx hb dL_law_1342 ?_
    refine va_sld hx hb hX hbl hbA hS (zl_in h3 hL (by decide)) dL_law_1343 ?_
    refine lv_i2l (v := (xs (x3 + (4 : Int32)).toNatClampNeg).toInt64) hx hb dL_law_1344 rfl ?_
    refine lv_ldc2 (v := (4294967295 : Int64)) hx hb hown (ht _ kw_1902) dL_law_1345 ?_
    refine lv_land hx hb dL_law_1348 ?_
    refine lv_lor hx hb dL_law_1349 ?_
    obtain ⟨R1, hf1, hI2, hM1⟩ := K_X11_put_1 l D cs k H.size ad z hI (xs (x3 + (1 : Int32)).toNatClampNeg) (xs (x3 + (2 : Int32)).toNatClampNeg) ((((xs (x3 + (3 : Int32)).toNatClampNeg).toInt64) <<< ((32 : Int32).toInt64 &&& 63)) ||| (((xs (x3 + (4 : Int32)).toNatClampNeg).toInt64) &&& (4294967295 : Int64))) hp0
    refine zk_LXi (As := [.int (xs (x3 + (1 : Int32)).toNatClampNeg), .int (xs (x3 + (2 : Int32)).toNatClampNeg), .long ((((xs (x3 + (3 : Int32)).toNatClampNeg).toInt64) <<< ((32 : Int32).toInt64 &&& 63)) ||| (((xs (x3 + (4 : Int32)).toNatClampNeg).toInt64) &&& (4294967295 : Int64)))]) (rest := []) hE hO hM1 ⟨hx, hb, hml, hown, ht⟩ (cwV 3 ht gl_153 rfl rfl rfl (by decide +kernel) ⟨Nat.le_of_ble_eq_true rfl, Nat.le_of_ble_eq_true rfl⟩) (va_recv hK hP (ci := 11) (q0 := 44) rfl rfl) hP hD hS hK hA rfl hl.1 (Nat.le_of_ble_eq_true rfl) dL_law_1350 ⟨by show _ ≤ 600000; omega, by show _ ≤ 7302250; omega⟩ (fun H locs hP hD hS => ?_)
    refine lv_pop hx hb dL_law_1353 rfl ?_
    refine lv_aload_n hx hb dL_law_1354 rfl (lv_at hl 2 rfl) ?_
    refine lv_aload_n hx hb dL_law_1355 rfl (lv_at hl 0 rfl) ?_
    refine lv_iload_n hx hb dL_law_1356 rfl (lv_at hl 3 rfl) ?_
    refine lv_iconst (v := (1 : Int32)) hx hb dL_law_1357 (by decide) ?_
    refine lv_iadd hx hb dL_law_1358 ?_
    refine va_sld hx hb hX hbl hbA hS (zl_in h3 hL (by decide)) dL_law_1359 ?_
    refine lv_aload_n hx hb dL_law_1360 rfl (lv_at hl 0 rfl) ?_
    refine lv_iload_n hx hb dL_law_1361 rfl (lv_at hl 3 rfl) ?_
    refine lv_iconst (v := (2 : Int32)) hx hb dL_law_1362 (by decide) ?_
    refine lv_iadd hx hb dL_law_1363 ?_
    refine va_sld hx hb hX hbl hbA hS (zl_in h3 hL (by decide)) dL_law_1364 ?_
    refine lv_aload_n hx hb dL_law_1365 rfl (lv_at hl 0 rfl) ?_
    refine lv_iload_n hx hb dL_law_1366 rfl (lv_at hl 3 rfl) ?_
    refine lv_iconst (v := (3 : Int32)) hx hb dL_law_1367 (by decide) ?_
    refine lv_iadd hx hb dL_law_1368 ?_
    refine va_sld hx hb hX hbl hbA hS (zl_in h3 hL (by decide)) dL_law_1369 ?_
    refine lv_i2l (v := (xs (x3 + (3 : Int32)).toNatClampNeg).toInt64) hx hb dL_law_1370 rfl ?_
    refine lv_bipush (v := (32 : Int32)) hx hb dL_law_1371 (by decide) ?_
    refine lv_lshl (v := ((xs (x3 + (3 : Int32)).toNatClampNeg).toInt64) <<< ((32 : Int32).toInt64 &&& 63)) hx hb dL_law_1373 rfl ?_
    refine lv_aload_n hx hb dL_law_1374 rfl (lv_at hl 0 rfl) ?_
    refine lv_iload_n hx hb dL_law_1375 rfl (lv_at hl 3 rfl) ?_
    refine lv_iconst (v := (4 : Int32)) hx hb dL_law_1376 (by decide) ?_
    refine lv_iadd hx hb dL_law_1377 ?_
    refine va_sld hx hb hX hbl hbA hS (zl_in h3 hL (by decide)) dL_law_1378 ?_
    refine lv_i2l (v := (xs (x3 + (4 : Int32)).toNatClampNeg).toInt64) hx hb dL_law_1379 rfl ?_
    refine lv_ldc2 (v := (4294967295 : Int64)) hx hb hown (ht _ kw_1902) dL_law_1380 ?_
    refine lv_land hx hb dL_law_1383 ?_
    refine lv_lor hx hb dL_law_1384 ?_
    obtain ⟨R2, hf2, hJ2, hM2⟩ := K_X12_put l D cs k H.size am w hJ (xs (x3 + (1 : Int32)).toNatClampNeg) (xs (x3 + (2 : Int32)).toNatClampNeg) ((((xs (x3 + (3 : Int32)).toNatClampNeg).toInt64) <<< ((32 : Int32).toInt64 &&& 63)) ||| (((xs (x3 + (4 : Int32)).toNatClampNeg).toInt64) &&& (4294967295 : Int64)))
    have hf3 := hf2
    rw [← (rl_0 hr :), ← (rl_5 hr :), ← (rl_6 hr :), ← (rl_7 hr :), ← (rl_12 hr :), ← (rl_15 hr :), ← (rl_17 hr :)] at hf3
    obtain ⟨EQ, E1, E2⟩ := pw_put hp0 (rl_24 hr :) hf1 hf3
    have EQ2 : RL (z.1, z.2.1, (fun n => zc n 3 R1.2 (z.2.2.1 n)), z.2.2.2.1, z.2.2.2.2.1, z.2.2.2.2.2.1, z.2.2.2.2.2.2.1, z.2.2.2.2.2.2.2) (w.1, w.2.1, (fun n => zc n 0 R2.2 (w.2.2 n))) := ⟨(rl_0 hr :), (rl_1 hr :), (rl_2 hr :), (rl_3 hr :), (rl_4 hr :), (rl_5 hr :), (rl_6 hr :), (rl_7 hr :), (rl_8 hr :), (rl_9 hr :), (rl_10 hr :), (rl_11 hr :), (rl_12 hr :), (rl_13 hr :), (rl_14 hr :), (rl_15 hr :), (rl_16 hr :), (rl_17 hr :), (rl_18 hr :), (rl_19 hr :), (rl_20 hr :), (rl_21 hr :), (rl_22 hr :), (PLR_fr (rl_23 hr :) (Int.le_refl _) rfl rfl (fun k k1 k2 => E2 k (by omega))), E1, (PLR_fr (rl_25 hr :) (Int.le_refl _) rfl rfl (fun k k1 k2 => E2 k (by omega))), (PLR_fr (rl_26 hr :) (Int.le_refl _) rfl rfl (fun k k1 k2 => E2 k (by omega))), (PLR_fr (rl_27 hr :) (Int.le_refl _) rfl rfl (fun k k1 k2 => E2 k (by omega))), (PLR_fr (rl_28 hr :) (Int.le_refl _) rfl rfl (fun k k1 k2 => E2 k (by omega))), (rl_29 hr :), (rl_30 hr :), (rl_31 hr :), (rl_32 hr :), (rl_33 hr :)⟩
    refine zk_LMi (As := [.int (xs (x3 + (1 : Int32)).toNatClampNeg), .int (xs (x3 + (2 : Int32)).toNatClampNeg), .long ((((xs (x3 + (3 : Int32)).toNatClampNeg).toInt64) <<< ((32 : Int32).toInt64 &&& 63)) ||| (((xs (x3 + (4 : Int32)).toNatClampNeg).toInt64) &&& (4294967295 : Int64)))]) (rest := []) hE hO hM2 ⟨hx, hb, hml, hown, ht⟩ (cwV 3 ht gl_157 rfl rfl rfl (by decide +kernel) ⟨Nat.le_of_ble_eq_true rfl, Nat.le_of_ble_eq_true rfl⟩) (va_recv hK hP (ci := 12) (q0 := 0) rfl rfl) hP hD hS hK hA rfl hl.1 (Nat.le_of_ble_eq_true rfl) dL_law_1385 ⟨by show _ ≤ 600000; omega, by show _ ≤ 7302250; omega⟩ (fun H locs hP hD hS => ?_)
    refine lv_pop hx hb dL_law_1388 rfl ?_
    refine lv_goto (tgt := 1544) hx hb dL_law_1389 (by decide) ?_
    exact kk _ _ H locs ls _ _ hI2 hJ2 EQ2 (by omega) (by omega) hP hD hS (lv_sub hl [0, 1, 2, 3] rfl)
  · refine lv_aload_n hx hb dL_law_1319 rfl (lv_at hl 1 rfl) ?_
    refine lv_aload_n hx hb dL_law_1320 rfl (lv_at hl 0 rfl) ?_
    refine lv_iload_n hx hb dL_law_1321 rfl (lv_at hl 3 rfl) ?_
    refine lv_iconst (v := (1 : Int32)) hx hb dL_law_1322 (by decide) ?_
    refine lv_iadd hx hb dL_law_1323 ?_
    refine va_sld hx hb hX hbl hbA hS (zl_in h3 hL (by decide)) dL_law_1324 ?_
    refine lv_aload_n hx hb dL_law_1325 rfl (lv_at hl 0 rfl) ?_
    refine lv_iload_n hx hb dL_law_1326 rfl (lv_at hl 3 rfl) ?_
    refine lv_iconst (v := (2 : Int32)) hx hb dL_law_1327 (by decide) ?_
    refine lv_iadd hx hb dL_law_1328 ?_
    refine va_sld hx hb hX hbl hbA hS (zl_in h3 hL (by decide)) dL_law_1329 ?_
    refine lv_aload_n hx hb dL_law_1330 rfl (lv_at hl 0 rfl) ?_
    refine lv_iload_n hx hb dL_law_1331 rfl (lv_at hl 3 rfl) ?_
    refine lv_iconst (v := (3 : Int32)) hx hb dL_law_1332 (by decide) ?_
    refine lv_iadd hx hb dL_law_1333 ?_
    refine va_sld hx hb hX hbl hbA hS (zl_in h3 hL (by decide)) dL_law_1334 ?_
    refine lv_i2l (v := (xs (x3 + (3 : Int32)).toNatClampNeg).toInt64) hx hb dL_law_1335 rfl ?_
    refine lv_bipush (v := (32 : Int32)) hx hb dL_law_1336 (by decide) ?_
    refine lv_lshl (v := ((xs (x3 + (3 : Int32)).toNatClampNeg).toInt64) <<< ((32 : Int32).toInt64 &&& 63)) hx hb dL_law_1338 rfl ?_
    refine lv_aload_n hx hb dL_law_1339 rfl (lv_at hl 0 rfl) ?_
    refine lv_iload_n hx hb dL_law_1340 rfl (lv_at hl 3 rfl) ?_
    refine lv_iconst (v := (4 : Int32)) hx hb dL_law_1341 (by decide) ?_
    refine lv_iadd hx hb dL_law_1342 ?_
    refine va_sld hx hb hX hbl hbA hS (zl_in h3 hL (by decide)) dL_law_1343 ?_
    refine lv_i2l (v := (xs (x3 + (4 : Int32)).toNatClampNeg).toInt64) hx hb dL_law_1344 rfl ?_
    refine lv_ldc2 (v := (4294967295 : Int64)) hx hb hown (ht _ kw_1902) dL_law_1345 ?_
    refine lv_land hx hb dL_law_1348 ?_
    refine lv_lor hx hb dL_law_1349 ?_
    obtain ⟨R1, hf1, hI2, hM1⟩ := K_X11_put_2 l D cs k H.size ad z hI (xs (x3 + (1 : Int32)).toNatClampNeg) (xs (x3 + (2 : Int32)).toNatClampNeg) ((((xs (x3 + (3 : Int32)).toNatClampNeg).toInt64) <<< ((32 : Int32).toInt64 &&& 63)) ||| (((xs (x3 + (4 : Int32)).toNatClampNeg).toInt64) &&& (4294967295 : Int64))) hp0
    refine zk_LXi (As := [.int (xs (x3 + (1 : Int32)).toNatClampNeg), .int (xs (x3 + (2 : Int32)).toNatClampNeg), .long ((((xs (x3 + (3 : Int32)).toNatClampNeg).toInt64) <<< ((32 : Int32).toInt64 &&& 63)) ||| (((xs (x3 + (4 : Int32)).toNatClampNeg).toInt64) &&& (4294967295 : Int64)))]) (rest := []) hE hO hM1 ⟨hx, hb, hml, hown, ht⟩ (cwV 3 ht gl_153 rfl rfl rfl (by decide +kernel) ⟨Nat.le_of_ble_eq_true rfl, Nat.le_of_ble_eq_true rfl⟩) (va_recv hK hP (ci := 11) (q0 := 44) rfl rfl) hP hD hS hK hA rfl hl.1 (Nat.le_of_ble_eq_true rfl) dL_law_1350 ⟨by show _ ≤ 600000; omega, by show _ ≤ 7302250; omega⟩ (fun H locs hP hD hS => ?_)
    refine lv_pop hx hb dL_law_1353 rfl ?_
    refine lv_aload_n hx hb dL_law_1354 rfl (lv_at hl 2 rfl) ?_
    refine lv_aload_n hx hb dL_law_1355 rfl (lv_at hl 0 rfl) ?_
    refine lv_iload_n hx hb dL_law_1356 rfl (lv_at hl 3 rfl) ?_
    refine lv_iconst (v := (1 : Int32)) hx hb dL_law_1357 (by decide) ?_
    refine lv_iadd hx hb dL_law_1358 ?_
    refine va_sld hx hb hX hbl hbA hS (zl_in h3 hL (by decide)) dL_law_1359 ?_
    refine lv_aload_n hx hb dL_law_1360 rfl (lv_at hl 0 rfl) ?_
    refine lv_iload_n hx hb dL_law_1361 rfl (lv_at hl 3 rfl) ?_
    refine lv_iconst (v := (2 : Int32)) hx hb dL_law_1362 (by decide) ?_
    refine lv_iadd hx hb dL_law_1363 ?_
    refine va_sld hx hb hX hbl hbA hS (zl_in h3 hL (by decide)) dL_law_1364 ?_
    refine lv_aload_n hx hb dL_law_1365 rfl (lv_at hl 0 rfl) ?_
    refine lv_iload_n hx hb dL_law_1366 rfl (lv_at hl 3 rfl) ?_
    refine lv_iconst (v := (3 : Int32)) hx hb dL_law_1367 (by decide) ?_
    refine lv_iadd hx hb dL_law_1368 ?_
    refine va_sld hx hb hX hbl hbA hS (zl_in h3 hL (by decide)) dL_law_1369 ?_
    refine lv_i2l (v := (xs (x3 + (3 : Int32)).toNatClampNeg).toInt64) hx hb dL_law_1370 rfl ?_
    refine lv_bipush (v := (32 : Int32)) hx hb dL_law_1371 (by decide) ?_
    refine lv_lshl (v := ((xs (x3 + (3 : Int32)).toNatClampNeg).toInt64) <<< ((32 : Int32).toInt64 &&& 63)) hx hb dL_law_1373 rfl ?_
    refine lv_aload_n hx hb dL_law_1374 rfl (lv_at hl 0 rfl) ?_
    refine lv_iload_n hx hb dL_law_1375 rfl (lv_at hl 3 rfl) ?_
    refine lv_iconst (v := (4 : Int32)) hx hb dL_law_1376 (by decide) ?_
    refine lv_iadd hx hb dL_law_1377 ?_
    refine va_sld hx hb hX hbl hbA hS (zl_in h3 hL (by decide)) dL_law_1378 ?_
    refine lv_i2l (v := (xs (x3 + (4 : Int32)).toNatClampNeg).toInt64) hx hb dL_law_1379 rfl ?_
    refine lv_ldc2 (v := (4294967295 : Int64)) hx hb hown (ht _ kw_1902) dL_law_1380 ?_
    refine lv_land hx hb dL_law_1383 ?_
    refine lv_lor hx hb dL_law_1384 ?_
    obtain ⟨R2, hf2, hJ2, hM2⟩ := K_X12_put l D cs k H.size am w hJ (xs (x3 + (1 : Int32)).toNatClampNeg) (xs (x3 + (2 : Int32)).toNatClampNeg) ((((xs (x3 + (3 : Int32)).toNatClampNeg).toInt64) <<< ((32 : Int32).toInt64 &&& 63)) ||| (((xs (x3 + (4 : Int32)).toNatClampNeg).toInt64) &&& (4294967295 : Int64)))
    have hf3 := hf2
    rw [← (rl_0 hr :), ← (rl_5 hr :), ← (rl_6 hr :), ← (rl_7 hr :), ← (rl_12 hr :), ← (rl_15 hr :), ← (rl_17 hr :)] at hf3
    obtain ⟨EQ, E1, E2⟩ := pw_put hp0 (rl_25 hr :) hf1 hf3
    have EQ2 : RL (z.1, z.2.1, (fun n => zc n 4 R1.2 (z.2.2.1 n)), z.2.2.2.1, z.2.2.2.2.1, z.2.2.2.2.2.1, z.2.2.2.2.2.2.1, z.2.2.2.2.2.2.2) (w.1, w.2.1, (fun n => zc n 0 R2.2 (w.2.2 n))) := ⟨(rl_0 hr :), (rl_1 hr :), (rl_2 hr :), (rl_3 hr :), (rl_4 hr :), (rl_5 hr :), (rl_6 hr :), (rl_7 hr :), (rl_8 hr :), (rl_9 hr :), (rl_10 hr :), (rl_11 hr :), (rl_12 hr :), (rl_13 hr :), (rl_14 hr :), (rl_15 hr :), (rl_16 hr :), (rl_17 hr :), (rl_18 hr :), (rl_19 hr :), (rl_20 hr :), (rl_21 hr :), (rl_22 hr :), (PLR_fr (rl_23 hr :) (Int.le_refl _) rfl rfl (fun k k1 k2 => E2 k (by omega))), (PLR_fr (rl_24 hr :) (Int.le_refl _) rfl rfl (fun k k1 k2 => E2 k (by omega))), E1, (PLR_fr (rl_26 hr :) (Int.le_refl _) rfl rfl (fun k k1 k2 => E2 k (by omega))), (PLR_fr (rl_27 hr :) (Int.le_refl _) rfl rfl (fun k k1 k2 => E2 k (by omega))), (PLR_fr (rl_28 hr :) (Int.le_refl _) rfl rfl (fun k k1 k2 => E2 k (by omega))), (rl_29 hr :), (rl_30 hr :), (rl_31 hr :), (rl_32 hr :), (rl_33 hr :)⟩
    refine zk_LMi (As := [.int (xs (x3 + (1 : Int32)).toNatClampNeg), .int (xs (x3 + (2 : Int32)).toNatClampNeg), .long ((((xs (x3 + (3 : Int32)).toNatClampNeg).toInt64) <<< ((32 : Int32).toInt64 &&& 63)) ||| (((xs (x3 + (4 : Int32)).toNatClampNeg).toInt64) &&& (4294967295 : Int64)))]) (rest := []) hE hO hM2 ⟨hx, hb, hml, hown, ht⟩ (cwV 3 ht gl_157 rfl rfl rfl (by decide +kernel) ⟨Nat.le_of_ble_eq_true rfl, Nat.le_of_ble_eq_true rfl⟩) (va_recv hK hP (ci := 12) (q0 := 0) rfl rfl) hP hD hS hK hA rfl hl.1 (Nat.le_of_ble_eq_true rfl) dL_law_1385 ⟨by show _ ≤ 600000; omega, by show _ ≤ 7302250; omega⟩ (fun H locs hP hD hS => ?_)
    refine lv_pop hx hb dL_law_1388 rfl ?_
    refine lv_goto (tgt := 1544) hx hb dL_law_1389 (by decide) ?_
    exact kk _ _ H locs ls _ _ hI2 hJ2 EQ2 (by omega) (by omega) hP hD hS (lv_sub hl [0, 1, 2, 3] rfl)
  · refine lv_aload_n hx hb dL_law_1319 rfl (lv_at hl 1 rfl) ?_
    refine lv_aload_n hx hb dL_law_1320 rfl (lv_at hl 0 rfl) ?_
    refine lv_iload_n hx hb dL_law_1321 rfl (lv_at hl 3 rfl) ?_
    refine lv_iconst (v := (1 : Int32)) hx hb dL_law_1322 (by decide) ?_
    refine lv_iadd hx hb dL_law_1323 ?_
    refine va_sld hx hb hX hbl hbA hS (zl_in h3 hL (by decide)) dL_law_1324 ?_
    refine lv_aload_n hx hb dL_law_1325 rfl (lv_at hl 0 rfl) ?_
    refine lv_iload_n hx hb dL_law_1326 rfl (lv_at hl 3 rfl) ?_
    refine lv_iconst (v := (2 : Int32)) hx hb dL_law_1327 (by decide) ?_
    refine lv_iadd hx hb dL_law_1328 ?_
    refine va_sld hx hb hX hbl hbA hS (zl_in h3 hL (by decide)) dL_law_1329 ?_
    refine lv_aload_n hx hb dL_law_1330 rfl (lv_at hl 0 rfl) ?_
    refine lv_iload_n hx hb dL_law_1331 rfl (lv_at hl 3 rfl) ?_
    refine lv_iconst (v := (3 : Int32)) hx hb dL_law_1332 (by decide) ?_
    refine lv_iadd hx hb dL_law_1333 ?_
    refine va_sld hx hb hX hbl hbA hS (zl_in h3 hL (by decide)) dL_law_1334 ?_
    refine lv_i2l (v := (xs (x3 + (3 : Int32)).toNatClampNeg).toInt64) hx hb dL_law_1335 rfl ?_
    refine lv_bipush (v := (32 : Int32)) hx hb dL_law_1336 (by decide) ?_
    refine lv_lshl (v := ((xs (x3 + (3 : Int32)).toNatClampNeg).toInt64) <<< ((32 : Int32).toInt64 &&& 63)) hx hb dL_law_1338 rfl ?_
    refine lv_aload_n hx hb dL_law_1339 rfl (lv_at hl 0 rfl) ?_
    refine lv_iload_n hx hb dL_law_1340 rfl (lv_at hl 3 rfl) ?_
    refine lv_iconst (v := (4 : Int32)) hx hb dL_law_1341 (by decide) ?_
    refine lv_iadd hx hb dL_law_1342 ?_
    refine va_sld hx hb hX hbl hbA hS (zl_in h3 hL (by decide)) dL_law_1343 ?_
    refine lv_i2l (v := (xs (x3 + (4 : Int32)).toNatClampNeg).toInt64) hx hb dL_law_1344 rfl ?_
    refine lv_ldc2 (v := (4294967295 : Int64)) hx hb hown (ht _ kw_1902) dL_law_1345 ?_
    refine lv_land hx hb dL_law_1348 ?_
    refine lv_lor hx hb dL_law_1349 ?_
    obtain ⟨R1, hf1, hI2, hM1⟩ := K_X11_put_3 l D cs k H.size ad z hI (xs (x3 + (1 : Int32)).toNatClampNeg) (xs (x3 + (2 : Int32)).toNatClampNeg) ((((xs (x3 + (3 : Int32)).toNatClampNeg).toInt64) <<< ((32 : Int32).toInt64 &&& 63)) ||| (((xs (x3 + (4 : Int32)).toNatClampNeg).toInt64) &&& (4294967295 : Int64))) hp0
    refine zk_LXi (As := [.int (xs (x3 + (1 : Int32)).toNatClampNeg), .int (xs (x3 + (2 : Int32)).toNatClampNeg), .long ((((xs (x3 + (3 : Int32)).toNatClampNeg).toInt64) <<< ((32 : Int32).toInt64 &&& 63)) ||| (((xs (x3 + (4 : Int32)).toNatClampNeg).toInt64) &&& (4294967295 : Int64)))]) (rest := []) hE hO hM1 ⟨hx, hb, hml, hown, ht⟩ (cwV 3 ht gl_153 rfl rfl rfl (by decide +kernel) ⟨Nat.le_of_ble_eq_true rfl, Nat.le_of_ble_eq_true rfl⟩) (va_recv hK hP (ci := 11) (q0 := 44) rfl rfl) hP hD hS hK hA rfl hl.1 (Nat.le_of_ble_eq_true rfl) dL_law_1350 ⟨by show _ ≤ 600000; omega, by show _ ≤ 7302250; omega⟩ (fun H locs hP hD hS => ?_)
    refine lv_pop hx hb dL_law_1353 rfl ?_
    refine lv_aload_n hx hb dL_law_1354 rfl (lv_at hl 2 rfl) ?_
    refine lv_aload_n hx hb dL_law_1355 rfl (lv_at hl 0 rfl) ?_
    refine lv_iload_n hx hb dL_law_1356 rfl (lv_at hl 3 rfl) ?_
    refine lv_iconst (v := (1 : Int32)) hx hb dL_law_1357 (by decide) ?_
    refine lv_iadd hx hb dL_law_1358 ?_
    refine va_sld hx hb hX hbl hbA hS (zl_in h3 hL (by decide)) dL_law_1359 ?_
    refine lv_aload_n hx hb dL_law_1360 rfl (lv_at hl 0 rfl) ?_
    refine lv_iload_n hx hb dL_law_1361 rfl (lv_at hl 3 rfl) ?_
    refine lv_iconst (v := (2 : Int32)) hx hb dL_law_1362 (by decide) ?_
    refine lv_iadd hx hb dL_law_1363 ?_
    refine va_sld hx hb hX hbl hbA hS (zl_in h3 hL (by decide)) dL_law_1364 ?_
    refine lv_aload_n hx hb dL_law_1365 rfl (lv_at hl 0 rfl) ?_
    refine lv_iload_n hx hb dL_law_1366 rfl (lv_at hl 3 rfl) ?_
    refine lv_iconst (v := (3 : Int32)) hx hb dL_law_1367 (by decide) ?_
    refine lv_iadd hx hb dL_law_1368 ?_
    refine va_sld hx hb hX hbl hbA hS (zl_in h3 hL (by decide)) dL_law_1369 ?_
    refine lv_i2l (v := (xs (x3 + (3 : Int32)).toNatClampNeg).toInt64) hx hb dL_law_1370 rfl ?_
    refine lv_bipush (v := (32 : Int32)) hx hb dL_law_1371 (by decide) ?_
    refine lv_lshl (v := ((xs (x3 + (3 : Int32)).toNatClampNeg).toInt64) <<< ((32 : Int32).toInt64 &&& 63)) hx hb dL_law_1373 rfl ?_
    refine lv_aload_n hx hb dL_law_1374 rfl (lv_at hl 0 rfl) ?_
    refine lv_iload_n hx hb dL_law_1375 rfl (lv_at hl 3 rfl) ?_
    refine lv_iconst (v := (4 : Int32)) hx hb dL_law_1376 (by decide) ?_
    refine lv_iadd hx hb dL_law_1377 ?_
    refine va_sld hx hb hX hbl hbA hS (zl_in h3 hL (by decide)) dL_law_1378 ?_
    refine lv_i2l (v := (xs (x3 + (4 : Int32)).toNatClampNeg).toInt64) hx hb dL_law_1379 rfl ?_
    refine lv_ldc2 (v := (4294967295 : Int64)) hx hb hown (ht _ kw_1902) dL_law_1380 ?_
    refine lv_land hx hb dL_law_1383 ?_
    refine lv_lor hx hb dL_law_1384 ?_
    obtain ⟨R2, hf2, hJ2, hM2⟩ := K_X12_put l D cs k H.size am w hJ (xs (x3 + (1 : Int32)).toNatClampNeg) (xs (x3 + (2 : Int32)).toNatClampNeg) ((((xs (x3 + (3 : Int32)).toNatClampNeg).toInt64) <<< ((32 : Int32).toInt64 &&& 63)) ||| (((xs (x3 + (4 : Int32)).toNatClampNeg).toInt64) &&& (4294967295 : Int64)))
    have hf3 := hf2
    rw [← (rl_0 hr :), ← (rl_5 hr :), ← (rl_6 hr :), ← (rl_7 hr :), ← (rl_12 hr :), ← (rl_15 hr :), ← (rl_17 hr :)] at hf3
    obtain ⟨EQ, E1, E2⟩ := pw_put hp0 (rl_26 hr :) hf1 hf3
    have EQ2 : RL (z.1, z.2.1, (fun n => zc n 5 R1.2 (z.2.2.1 n)), z.2.2.2.1, z.2.2.2.2.1, z.2.2.2.2.2.1, z.2.2.2.2.2.2.1, z.2.2.2.2.2.2.2) (w.1, w.2.1, (fun n => zc n 0 R2.2 (w.2.2 n))) := ⟨(rl_0 hr :), (rl_1 hr :), (rl_2 hr :), (rl_3 hr :), (rl_4 hr :), (rl_5 hr :), (rl_6 hr :), (rl_7 hr :), (rl_8 hr :), (rl_9 hr :), (rl_10 hr :), (rl_11 hr :), (rl_12 hr :), (rl_13 hr :), (rl_14 hr :), (rl_15 hr :), (rl_16 hr :), (rl_17 hr :), (rl_18 hr :), (rl_19 hr :), (rl_20 hr :), (rl_21 hr :), (rl_22 hr :), (PLR_fr (rl_23 hr :) (Int.le_refl _) rfl rfl (fun k k1 k2 => E2 k (by omega))), (PLR_fr (rl_24 hr :) (Int.le_refl _) rfl rfl (fun k k1 k2 => E2 k (by omega))), (PLR_fr (rl_25 hr :) (Int.le_refl _) rfl rfl (fun k k1 k2 => E2 k (by omega))), E1, (PLR_fr (rl_27 hr :) (Int.le_refl _) rfl rfl (fun k k1 k2 => E2 k (by omega))), (PLR_fr (rl_28 hr :) (Int.le_refl _) rfl rfl (fun k k1 k2 => E2 k (by omega))), (rl_29 hr :), (rl_30 hr :), (rl_31 hr :), (rl_32 hr :), (rl_33 hr :)⟩
    refine zk_LMi (As := [.int (xs (x3 + (1 : Int32)).toNatClampNeg), .int (xs (x3 + (2 : Int32)).toNatClampNeg), .long ((((xs (x3 + (3 : Int32)).toNatClampNeg).toInt64) <<< ((32 : Int32).toInt64 &&& 63)) ||| (((xs (x3 + (4 : Int32)).toNatClampNeg).toInt64) &&& (4294967295 : Int64)))]) (rest := []) hE hO hM2 ⟨hx, hb, hml, hown, ht⟩ (cwV 3 ht gl_157 rfl rfl rfl (by decide +kernel) ⟨Nat.le_of_ble_eq_true rfl, Nat.le_of_ble_eq_true rfl⟩) (va_recv hK hP (ci := 12) (q0 := 0) rfl rfl) hP hD hS hK hA rfl hl.1 (Nat.le_of_ble_eq_true rfl) dL_law_1385 ⟨by show _ ≤ 600000; omega, by show _ ≤ 7302250; omega⟩ (fun H locs hP hD hS => ?_)
    refine lv_pop hx hb dL_law_1388 rfl ?_
    refine lv_goto (tgt := 1544) hx hb dL_law_1389 (by decide) ?_
    exact kk _ _ H locs ls _ _ hI2 hJ2 EQ2 (by omega) (by omega) hP hD hS (lv_sub hl [0, 1, 2, 3] rfl)
  · refine lv_aload_n hx hb dL_law_1319 rfl (lv_at hl 1 rfl) ?_
    refine lv_aload_n hx hb dL_law_1320 rfl (lv_at hl 0 rfl) ?_
    refine lv_iload_n hx hb dL_law_1321 rfl (lv_at hl 3 rfl) ?_
    refine lv_iconst (v := (1 : Int32)) hx hb dL_law_1322 (by decide) ?_
    refine lv_iadd hx hb dL_law_1323 ?_
    refine va_sld hx hb hX hbl hbA hS (zl_in h3 hL (by decide)) dL_law_1324 ?_
    refine lv_aload_n hx hb dL_law_1325 rfl (lv_at hl 0 rfl) ?_
    refine lv_iload_n hx hb dL_law_1326 rfl (lv_at hl 3 rfl) ?_
    refine lv_iconst (v := (2 : Int32)) hx hb dL_law_1327 (by decide) ?_
    refine lv_iadd hx hb dL_law_1328 ?_
    refine va_sld hx hb hX hbl hbA hS (zl_in h3 hL (by decide)) dL_law_1329 ?_
    refine lv_aload_n hx hb dL_law_1330 rfl (lv_at hl 0 rfl) ?_
    refine lv_iload_n hx hb dL_law_1331 rfl (lv_at hl 3 rfl) ?_
    refine lv_iconst (v := (3 : Int32)) hx hb dL_law_1332 (by decide) ?_
    refine lv_iadd hx hb dL_law_1333 ?_
    refine va_sld hx hb hX hbl hbA hS (zl_in h3 hL (by decide)) dL_law_1334 ?_
    refine lv_i2l (v := (xs (x3 + (3 : Int32)).toNatClampNeg).toInt64) hx hb dL_law_1335 rfl ?_
    refine lv_bipush (v := (32 : Int32)) hx hb dL_law_1336 (by decide) ?_
    refine lv_lshl (v := ((xs (x3 + (3 : Int32)).toNatClampNeg).toInt64) <<< ((32 : Int32).toInt64 &&& 63)) hx hb dL_law_1338 rfl ?_
    refine lv_aload_n hx hb dL_law_1339 rfl (lv_at hl 0 rfl) ?_
    refine lv_iload_n hx hb dL_law_1340 rfl (lv_at hl 3 rfl) ?_
    refine lv_iconst (v := (4 : Int32)) hx hb dL_law_1341 (by decide) ?_
    refine lv_iadd hx hb dL_law_1342 ?_
    refine va_sld hx hb hX hbl hbA hS (zl_in h3 hL (by decide)) dL_law_1343 ?_
    refine lv_i2l (v := (xs (x3 + (4 : Int32)).toNatClampNeg).toInt64) hx hb dL_law_1344 rfl ?_
    refine lv_ldc2 (v := (4294967295 : Int64)) hx hb hown (ht _ kw_1902) dL_law_1345 ?_
    refine lv_land hx hb dL_law_1348 ?_
    refine lv_lor hx hb dL_law_1349 ?_
    obtain ⟨R1, hf1, hI2, hM1⟩ := K_X11_put_4 l D cs k H.size ad z hI (xs (x3 + (1 : Int32)).toNatClampNeg) (xs (x3 + (2 : Int32)).toNatClampNeg) ((((xs (x3 + (3 : Int32)).toNatClampNeg).toInt64) <<< ((32 : Int32).toInt64 &&& 63)) ||| (((xs (x3 + (4 : Int32)).toNatClampNeg).toInt64) &&& (4294967295 : Int64))) hp0
    refine zk_LXi (As := [.int (xs (x3 + (1 : Int32)).toNatClampNeg), .int (xs (x3 + (2 : Int32)).toNatClampNeg), .long ((((xs (x3 + (3 : Int32)).toNatClampNeg).toInt64) <<< ((32 : Int32).toInt64 &&& 63)) ||| (((xs (x3 + (4 : Int32)).toNatClampNeg).toInt64) &&& (4294967295 : Int64)))]) (rest := []) hE hO hM1 ⟨hx, hb, hml, hown, ht⟩ (cwV 3 ht gl_153 rfl rfl rfl (by decide +kernel) ⟨Nat.le_of_ble_eq_true rfl, Nat.le_of_ble_eq_true rfl⟩) (va_recv hK hP (ci := 11) (q0 := 44) rfl rfl) hP hD hS hK hA rfl hl.1 (Nat.le_of_ble_eq_true rfl) dL_law_1350 ⟨by show _ ≤ 600000; omega, by show _ ≤ 7302250; omega⟩ (fun H locs hP hD hS => ?_)
    refine lv_pop hx hb dL_law_1353 rfl ?_
    refine lv_aload_n hx hb dL_law_1354 rfl (lv_at hl 2 rfl) ?_
    refine lv_aload_n hx hb dL_law_1355 rfl (lv_at hl 0 rfl) ?_
    refine lv_iload_n hx hb dL_law_1356 rfl (lv_at hl 3 rfl) ?_
    refine lv_iconst (v := (1 : Int32)) hx hb dL_law_1357 (by decide) ?_
    refine lv_iadd hx hb dL_law_1358 ?_
    refine va_sld hx hb hX hbl hbA hS (zl_in h3 hL (by decide)) dL_law_1359 ?_
    refine lv_aload_n hx hb dL_law_1360 rfl (lv_at hl 0 rfl) ?_
    refine lv_iload_n hx hb dL_law_1361 rfl (lv_at hl 3 rfl) ?_
    refine lv_iconst (v := (2 : Int32)) hx hb dL_law_1362 (by decide) ?_
    refine lv_iadd hx hb dL_law_1363 ?_
    refine va_sld hx hb hX hbl hbA hS (zl_in h3 hL (by decide)) dL_law_1364 ?_
    refine lv_aload_n hx hb dL_law_1365 rfl (lv_at hl 0 rfl) ?_
    refine lv_iload_n hx hb dL_law_1366 rfl (lv_at hl 3 rfl) ?_
    refine lv_iconst (v := (3 : Int32)) hx hb dL_law_1367 (by decide) ?_
    refine lv_iadd hx hb dL_law_1368 ?_
    refine va_sld hx hb hX hbl hbA hS (zl_in h3 hL (by decide)) dL_law_1369 ?_
    refine lv_i2l (v := (xs (x3 + (3 : Int32)).toNatClampNeg).toInt64) hx hb dL_law_1370 rfl ?_
    refine lv_bipush (v := (32 : Int32)) hx hb dL_law_1371 (by decide) ?_
    refine lv_lshl (v := ((xs (x3 + (3 : Int32)).toNatClampNeg).toInt64) <<< ((32 : Int32).toInt64 &&& 63)) hx hb dL_law_1373 rfl ?_
    refine lv_aload_n hx hb dL_law_1374 rfl (lv_at hl 0 rfl) ?_
    refine lv_iload_n hx hb dL_law_1375 rfl (lv_at hl 3 rfl) ?_
    refine lv_iconst (v := (4 : Int32)) hx hb dL_law_1376 (by decide) ?_
    refine lv_iadd hx hb dL_law_1377 ?_
    refine va_sld hx hb hX hbl hbA hS (zl_in h3 hL (by decide)) dL_law_1378 ?_
    refine lv_i2l (v := (xs (x3 + (4 : Int32)).toNatClampNeg).toInt64) hx hb dL_law_1379 rfl ?_
    refine lv_ldc2 (v := (4294967295 : Int64)) hx hb hown (ht _ kw_1902) dL_law_1380 ?_
    refine lv_land hx hb dL_law_1383 ?_
    refine lv_lor hx hb dL_law_1384 ?_
    obtain ⟨R2, hf2, hJ2, hM2⟩ := K_X12_put l D cs k H.size am w hJ (xs (x3 + (1 : Int32)).toNatClampNeg) (xs (x3 + (2 : Int32)).toNatClampNeg) ((((xs (x3 + (3 : Int32)).toNatClampNeg).toInt64) <<< ((32 : Int32).toInt64 &&& 63)) ||| (((xs (x3 + (4 : Int32)).toNatClampNeg).toInt64) &&& (4294967295 : Int64)))
    have hf3 := hf2
    rw [← (rl_0 hr :), ← (rl_5 hr :), ← (rl_6 hr :), ← (rl_7 hr :), ← (rl_12 hr :), ← (rl_15 hr :), ← (rl_17 hr :)] at hf3
    obtain ⟨EQ, E1, E2⟩ := pw_put hp0 (rl_27 hr :) hf1 hf3
    have EQ2 : RL (z.1, z.2.1, (fun n => zc n 6 R1.2 (z.2.2.1 n)), z.2.2.2.1, z.2.2.2.2.1, z.2.2.2.2.2.1, z.2.2.2.2.2.2.1, z.2.2.2.2.2.2.2) (w.1, w.2.1, (fun n => zc n 0 R2.2 (w.2.2 n))) := ⟨(rl_0 hr :), (rl_1 hr :), (rl_2 hr :), (rl_3 hr :), (rl_4 hr :), (rl_5 hr :), (rl_6 hr :), (rl_7 hr :), (rl_8 hr :), (rl_9 hr :), (rl_10 hr :), (rl_11 hr :), (rl_12 hr :), (rl_13 hr :), (rl_14 hr :), (rl_15 hr :), (rl_16 hr :), (rl_17 hr :), (rl_18 hr :), (rl_19 hr :), (rl_20 hr :), (rl_21 hr :), (rl_22 hr :), (PLR_fr (rl_23 hr :) (Int.le_refl _) rfl rfl (fun k k1 k2 => E2 k (by omega))), (PLR_fr (rl_24 hr :) (Int.le_refl _) rfl rfl (fun k k1 k2 => E2 k (by omega))), (PLR_fr (rl_25 hr :) (Int.le_refl _) rfl rfl (fun k k1 k2 => E2 k (by omega))), (PLR_fr (rl_26 hr :) (Int.le_refl _) rfl rfl (fun k k1 k2 => E2 k (by omega))), E1, (PLR_fr (rl_28 hr :) (Int.le_refl _) rfl rfl (fun k k1 k2 => E2 k (by omega))), (rl_29 hr :), (rl_30 hr :), (rl_31 hr :), (rl_32 hr :), (rl_33 hr :)⟩
    refine zk_LMi (As := [.int (xs (x3 + (1 : Int32)).toNatClampNeg), .int (xs (x3 + (2 : Int32)).toNatClampNeg), .long ((((xs (x3 + (3 : Int32)).toNatClampNeg).toInt64) <<< ((32 : Int32).toInt64 &&& 63)) ||| (((xs (x3 + (4 : Int32)).toNatClampNeg).toInt64) &&& (4294967295 : Int64)))]) (rest := []) hE hO hM2 ⟨hx, hb, hml, hown, ht⟩ (cwV 3 ht gl_157 rfl rfl rfl (by decide +kernel) ⟨Nat.le_of_ble_eq_true rfl, Nat.le_of_ble_eq_true rfl⟩) (va_recv hK hP (ci := 12) (q0 := 0) rfl rfl) hP hD hS hK hA rfl hl.1 (Nat.le_of_ble_eq_true rfl) dL_law_1385 ⟨by show _ ≤ 600000; omega, by show _ ≤ 7302250; omega⟩ (fun H locs hP hD hS => ?_)
    refine lv_pop hx hb dL_law_1388 rfl ?_
    refine lv_goto (tgt := 1544) hx hb dL_law_1389 (by decide) ?_
    exact kk _ _ H locs ls _ _ hI2 hJ2 EQ2 (by omega) (by omega) hP hD hS (lv_sub hl [0, 1, 2, 3] rfl)
  · refine lv_aload_n hx hb dL_law_1319 rfl (lv_at hl 1 rfl) ?_
    refine lv_aload_n hx hb dL_law_1320 rfl (lv_at hl 0 rfl) ?_
    refine lv_iload_n hx hb dL_law_1321 rfl (lv_at hl 3 rfl) ?_
    refine lv_iconst (v := (1 : Int32)) hx hb dL_law_1322 (by decide) ?_
    refine lv_iadd hx hb dL_law_1323 ?_
    refine va_sld hx hb hX hbl hbA hS (zl_in h3 hL (by decide)) dL_law_1324 ?_
    refine lv_aload_n hx hb dL_law_1325 rfl (lv_at hl 0 rfl) ?_
    refine lv_iload_n hx hb dL_law_1326 rfl (lv_at hl 3 rfl) ?_
    refine lv_iconst (v := (2 : Int32)) hx hb dL_law_1327 (by decide) ?_
    refine lv_iadd hx hb dL_law_1328 ?_
    refine va_sld hx hb hX hbl hbA hS (zl_in h3 hL (by decide)) dL_law_1329 ?_
    refine lv_aload_n hx hb dL_law_1330 rfl (lv_at hl 0 rfl) ?_
    refine lv_iload_n hx hb dL_law_1331 rfl (lv_at hl 3 rfl) ?_
    refine lv_iconst (v := (3 : Int32)) hx hb dL_law_1332 (by decide) ?_
    refine lv_iadd hx hb dL_law_1333 ?_
    refine va_sld hx hb hX hbl hbA hS (zl_in h3 hL (by decide)) dL_law_1334 ?_
    refine lv_i2l (v := (xs (x3 + (3 : Int32)).toNatClampNeg).toInt64) hx hb dL_law_1335 rfl ?_
    refine lv_bipush (v := (32 : Int32)) hx hb dL_law_1336 (by decide) ?_
    refine lv_lshl (v := ((xs (x3 + (3 : Int32)).toNatClampNeg).toInt64) <<< ((32 : Int32).toInt64 &&& 63)) hx hb dL_law_1338 rfl ?_
    refine lv_aload_n hx hb dL_law_1339 rfl (lv_at hl 0 rfl) ?_
    refine lv_iload_n hx hb dL_law_1340 rfl (lv_at hl 3 rfl) ?_
    refine lv_iconst (v := (4 : Int32)) hx hb dL_law_1341 (by decide) ?_
    refine lv_iadd hx hb dL_law_1342 ?_
    refine va_sld hx hb hX hbl hbA hS (zl_in h3 hL (by decide)) dL_law_1343 ?_
    refine lv_i2l (v := (xs (x3 + (4 : Int32)).toNatClampNeg).toInt64) hx hb dL_law_1344 rfl ?_
    refine lv_ldc2 (v := (4294967295 : Int64)) hx hb hown (ht _ kw_1902) dL_law_1345 ?_
    refine lv_land hx hb dL_law_1348 ?_
    refine lv_lor hx hb dL_law_1349 ?_
    obtain ⟨R1, hf1, hI2, hM1⟩ := K_X11_put_5 l D cs k H.size ad z hI (xs (x3 + (1 : Int32)).toNatClampNeg) (xs (x3 + (2 : Int32)).toNatClampNeg) ((((xs (x3 + (3 : Int32)).toNatClampNeg).toInt64) <<< ((32 : Int32).toInt64 &&& 63)) ||| (((xs (x3 + (4 : Int32)).toNatClampNeg).toInt64) &&& (4294967295 : Int64))) hp0
    refine zk_LXi (As := [.int (xs (x3 + (1 : Int32)).toNatClampNeg), .int (xs (x3 + (2 : Int32)).toNatClampNeg), .long ((((xs (x3 + (3 : Int32)).toNatClampNeg).toInt64) <<< ((32 : Int32).toInt64 &&& 63)) ||| (((xs (x3 + (4 : Int32)).toNatClampNeg).toInt64) &&& (4294967295 : Int64)))]) (rest := []) hE hO hM1 ⟨hx, hb, hml, hown, ht⟩ (cwV 3 ht gl_153 rfl rfl rfl (by decide +kernel) ⟨Nat.le_of_ble_eq_true rfl, Nat.le_of_ble_eq_true rfl⟩) (va_recv hK hP (ci := 11) (q0 := 44) rfl rfl) hP hD hS hK hA rfl hl.1 (Nat.le_of_ble_eq_true rfl) dL_law_1350 ⟨by show _ ≤ 600000; omega, by show _ ≤ 7302250; omega⟩ (fun H locs hP hD hS => ?_)
    refine lv_pop hx hb dL_law_1353 rfl ?_
    refine lv_aload_n hx hb dL_law_1354 rfl (lv_at hl 2 rfl) ?_
    refine lv_aload_n hx hb dL_law_1355 rfl (lv_at hl 0 rfl) ?_
    refine lv_iload_n hx hb dL_law_1356 rfl (lv_at hl 3 rfl) ?_
    refine lv_iconst (v := (1 : Int32)) hx hb dL_law_1357 (by decide) ?_
    refine lv_iadd hx hb dL_law_1358 ?_
    refine va_sld hx hb hX hbl hbA hS (zl_in h3 hL (by decide)) dL_law_1359 ?_
    refine lv_aload_n hx hb dL_law_1360 rfl (lv_at hl 0 rfl) ?_
    refine lv_iload_n hx hb dL_law_1361 rfl (lv_at hl 3 rfl) ?_
    refine lv_iconst (v := (2 : Int32)) hx hb dL_law_1362 (by decide) ?_
    refine lv_iadd hx hb dL_law_1363 ?_
    refine va_sld hx hb hX hbl hbA hS (zl_in h3 hL (by decide)) dL_law_1364 ?_
    refine lv_aload_n hx hb dL_law_1365 rfl (lv_at hl 0 rfl) ?_
    refine lv_iload_n hx hb dL_law_1366 rfl (lv_at hl 3 rfl) ?_
    refine lv_iconst (v := (3 : Int32)) hx hb dL_law_1367 (by decide) ?_
    refine lv_iadd hx hb dL_law_1368 ?_
    refine va_sld hx hb hX hbl hbA hS (zl_in h3 hL (by decide)) dL_law_1369 ?_
    refine lv_i2l (v := (xs (x3 + (3 : Int32)).toNatClampNeg).toInt64) hx hb dL_law_1370 rfl ?_
    refine lv_bipush (v := (32 : Int32)) hx hb dL_law_1371 (by decide) ?_
    refine lv_lshl (v := ((xs (x3 + (3 : Int32)).toNatClampNeg).toInt64) <<< ((32 : Int32).toInt64 &&& 63)) hx hb dL_law_1373 rfl ?_
    refine lv_aload_n hx hb dL_law_1374 rfl (lv_at hl 0 rfl) ?_
    refine lv_iload_n hx hb dL_law_1375 rfl (lv_at hl 3 rfl) ?_
    refine lv_iconst (v := (4 : Int32)) hx hb dL_law_1376 (by decide) ?_
    refine lv_iadd hx hb dL_law_1377 ?_
    refine va_sld hx hb hX hbl hbA hS (zl_in h3 hL (by decide)) dL_law_1378 ?_
    refine lv_i2l (v := (xs (x3 + (4 : Int32)).toNatClampNeg).toInt64) hx hb dL_law_1379 rfl ?_
    refine lv_ldc2 (v := (4294967295 : Int64)) hx hb hown (ht _ kw_1902) dL_law_1380 ?_
    refine lv_land hx hb dL_law_1383 ?_
    refine lv_lor hx hb dL_law_1384 ?_
    obtain ⟨R2, hf2, hJ2, hM2⟩ := K_X12_put l D cs k H.size am w hJ (xs (x3 + (1 : Int32)).toNatClampNeg) (xs (x3 + (2 : Int32)).toNatClampNeg) ((((xs (x3 + (3 : Int32)).toNatClampNeg).toInt64) <<< ((32 : Int32).toInt64 &&& 63)) ||| (((xs (x3 + (4 : Int32)).toNatClampNeg).toInt64) &&& (4294967295 : Int64)))
    have hf3 := hf2
    rw [← (rl_0 hr :), ← (rl_5 hr :), ← (rl_6 hr :), ← (rl_7 hr :), ← (rl_12 hr :), ← (rl_15 hr :), ← (rl_17 hr :)] at hf3
    obtain ⟨EQ, E1, E2⟩ := pw_put hp0 (rl_28 hr :) hf1 hf3
    have EQ2 : RL (z.1, z.2.1, (fun n => zc n 7 R1.2 (z.2.2.1 n)), z.2.2.2.1, z.2.2.2.2.1, z.2.2.2.2.2.1, z.2.2.2.2.2.2.1, z.2.2.2.2.2.2.2) (w.1, w.2.1, (fun n => zc n 0 R2.2 (w.2.2 n))) := ⟨(rl_0 hr :), (rl_1 hr :), (rl_2 hr :), (rl_3 hr :), (rl_4 hr :), (rl_5 hr :), (rl_6 hr :), (rl_7 hr :), (rl_8 hr :), (rl_9 hr :), (rl_10 hr :), (rl_11 hr :), (rl_12 hr :), (rl_13 hr :), (rl_14 hr :), (rl_15 hr :), (rl_16 hr :), (rl_17 hr :), (rl_18 hr :), (rl_19 hr :), (rl_20 hr :), (rl_21 hr :), (rl_22 hr :), (PLR_fr (rl_23 hr :) (Int.le_refl _) rfl rfl (fun k k1 k2 => E2 k (by omega))), (PLR_fr (rl_24 hr :) (Int.le_refl _) rfl rfl (fun k k1 k2 => E2 k (by omega))), (PLR_fr (rl_25 hr :) (Int.le_refl _) rfl rfl (fun k k1 k2 => E2 k (by omega))), (PLR_fr (rl_26 hr :) (Int.le_refl _) rfl rfl (fun k k1 k2 => E2 k (by omega))), (PLR_fr (rl_27 hr :) (Int.le_refl _) rfl rfl (fun k k1 k2 => E2 k (by omega))), E1, (rl_29 hr :), (rl_30 hr :), (rl_31 hr :), (rl_32 hr :), (rl_33 hr :)⟩
    refine zk_LMi (As := [.int (xs (x3 + (1 : Int32)).toNatClampNeg), .int (xs (x3 + (2 : Int32)).toNatClampNeg), .long ((((xs (x3 + (3 : Int32)).toNatClampNeg).toInt64) <<< ((32 : Int32).toInt64 &&& 63)) ||| (((xs (x3 + (4 : Int32)).toNatClampNeg).toInt64) &&& (4294967295 : Int64)))]) (rest := []) hE hO hM2 ⟨hx, hb, hml, hown, ht⟩ (cwV 3 ht gl_157 rfl rfl rfl (by decide +kernel) ⟨Nat.le_of_ble_eq_true rfl, Nat.le_of_ble_eq_true rfl⟩) (va_recv hK hP (ci := 12) (q0 := 0) rfl rfl) hP hD hS hK hA rfl hl.1 (Nat.le_of_ble_eq_true rfl) dL_law_1385 ⟨by show _ ≤ 600000; omega, by show _ ≤ 7302250; omega⟩ (fun H locs hP hD hS => ?_)
    refine lv_pop hx hb dL_law_1388 rfl ?_
    refine lv_goto (tgt := 1544) hx hb dL_law_1389 (by decide) ?_
    exact kk _ _ H locs ls _ _ hI2 hJ2 EQ2 (by omega) (by omega) hP hD hS (lv_sub hl [0, 1, 2, 3] rfl)
theorem dL_law_1392 : decode cL_law 1392 = .ok (.aload_n 1, 1) := zo_43 zh_cL_law_69 12 rfl
theorem dL_law_1393 : decode cL_law 1393 = .ok (.aload_n 0, 1) := zo_42 zh_cL_law_69 13 rfl
theorem dL_law_1394 : decode cL_law 1394 = .ok (.iload_n 3, 1) := zo_29 zh_cL_law_69 14 rfl
theorem dL_law_1395 : decode cL_law 1395 = .ok (.iconst 1, 1) := zo_4 zh_cL_law_69 15 rfl
theorem dL_law_1396 : decode cL_law 1396 = .ok (.iadd, 1) := zo_96 zh_cL_law_69 16 rfl
theorem dL_law_1397 : decode cL_law 1397 = .ok (.iaload, 1) := zo_46 zh_cL_law_69 17 rfl
theorem dL_law_1398 : decode cL_law 1398 = .ok (.aload_n 0, 1) := zo_42 zh_cL_law_69 18 rfl
theorem dL_law_1399 : decode cL_law 1399 = .ok (.iload_n 3, 1) := zo_29 zh_cL_law_69 19 rfl
set_option maxRecDepth 100000 in
theorem zh_cL_law_70 : zck [5, 96, 46, 182, 0, 158, 88, 44, 42, 29, 4, 96, 46, 42, 29, 5, 96, 46, 182, 0, 161, 88] (zdu 1400 cL_law.data.toList) = true := by decide +kernel
theorem dL_law_1400 : decode cL_law 1400 = .ok (.iconst 2, 1) := zo_5 zh_cL_law_70 0 rfl
theorem dL_law_1401 : decode cL_law 1401 = .ok (.iadd, 1) := zo_96 zh_cL_law_70 1 rfl
theorem dL_law_1402 : decode cL_law 1402 = .ok (.iaload, 1) := zo_46 zh_cL_law_70 2 rfl
theorem dL_law_1403 : decode cL_law 1403 = .ok (.invokevirtual 158, 3) := zo_182 zh_cL_law_70 3 rfl
theorem dL_law_1406 : decode cL_law 1406 = .ok (.pop2, 1) := zo_88 zh_cL_law_70 6 rfl
theorem dL_law_1407 : decode cL_law 1407 = .ok (.aload_n 2, 1) := zo_44 zh_cL_law_70 7 rfl
theorem dL_law_1408 : decode cL_law 1408 = .ok (.aload_n 0, 1) := zo_42 zh_cL_law_70 8 rfl
theorem dL_law_1409 : decode cL_law 1409 = .ok (.iload_n 3, 1) := zo_29 zh_cL_law_70 9 rfl
theorem dL_law_1410 : decode cL_law 1410 = .ok (.iconst 1, 1) := zo_4 zh_cL_law_70 10 rfl
theorem dL_law_1411 : decode cL_law 1411 = .ok (.iadd, 1) := zo_96 zh_cL_law_70 11 rfl
theorem dL_law_1412 : decode cL_law 1412 = .ok (.iaload, 1) := zo_46 zh_cL_law_70 12 rfl
theorem dL_law_1413 : decode cL_law 1413 = .ok (.aload_n 0, 1) := zo_42 zh_cL_law_70 13 rfl
theorem dL_law_1414 : decode cL_law 1414 = .ok (.iload_n 3, 1) := zo_29 zh_cL_law_70 14 rfl
theorem dL_law_1415 : decode cL_law 1415 = .ok (.iconst 2, 1) := zo_5 zh_cL_law_70 15 rfl
theorem dL_law_1416 : decode cL_law 1416 = .ok (.iadd, 1) := zo_96 zh_cL_law_70 16 rfl
theorem dL_law_1417 : decode cL_law 1417 = .ok (.iaload, 1) := zo_46 zh_cL_law_70 17 rfl
theorem dL_law_1418 : decode cL_law 1418 = .ok (.invokevirtual 161, 3) := zo_182 zh_cL_law_70 18 rfl
set_option maxRecDepth 100000 in
theorem zh_cL_law_71 : zck [161, 88, 167, 0, 122, 43, 42, 29, 4, 96, 46, 42, 29, 5, 96, 46, 42, 29, 6, 96, 46, 42] (zdu 1420 cL_law.data.toList) = true := by decide +kernel
theorem dL_law_1421 : decode cL_law 1421 = .ok (.pop2, 1) := zo_88 zh_cL_law_71 1 rfl
theorem dL_law_1422 : decode cL_law 1422 = .ok (.goto 122, 3) := zo_p167 zh_cL_law_71 2 122 rfl rfl
set_option maxHeartbeats 8000000 in
set_option maxRecDepth 100000 in
theorem law_case_34 {p : Program} {l : Launch} {e : Env} {s : State} {m : MethodId} {below : List Frame} {meth : Method} {c : Code} {b L : Nat} {xs : Nat → Int32} {D : va_G} {cs : Nat → ClassId} {k : (Nat → Nat) × (Nat → Nat)} {ad am : Nat → Nat} (C0 : lw_At p s m meth c b L xs) (hK : va_K D classes (zT cs) s) (hO : zO s) (hE : zE k (fun q : Nat => s.heap.size ≤ q) s) (hL : L ≤ 3072) (x3 : Int32) (h3 : 0 ≤ x3.toInt ∧ x3.toInt + 6 ≤ (L : Int)) (z : ZT) (w : MT) (hI : IX ad cs z) (hJ : IM w) (hr : RL z w) (cells slots : Nat) (hc : cells + 2 ≤ 600000) (hs : slots + 122 ≤ 7302250) (H : Heap) (locs : List Loc) (ls : Array Slot) (hP : va_P D classes (WM am cs w ++ WX ad cs z) H) (hD : va_D (fun q : Nat => s.heap.size ≤ q) (WM am cs w ++ WX ad cs z)) (hS : va_S (fun q : Nat => s.heap.size ≤ q) s.heap H locs) (hl : lv_has ls 4 [(0, .ref b), (1, .ref (ad 0)), (2, .ref (am 41)), (3, .int x3)]) (kk : ∀ (z2 : ZT) (w2 : MT) (H : Heap) (locs : List Loc) (ls : Array Slot) (cells2 slots2 : Nat), IX ad cs z2 → IM w2 → RL z2 w2 → cells2 ≤ cells + 2 → slots2 ≤ slots + 122 → va_P D classes (WM am cs w2 ++ WX ad cs z2) H → va_D (fun q : Nat => s.heap.size ≤ q) (WM am cs w2 ++ WX ad cs z2) → va_S (fun q : Nat => s.heap.size ≤ q) s.heap H locs → lv_has ls 4 [(0, .ref b), (1, .ref (ad 0)), (2, .ref (am 41)), (3, .int x3)] → W p l e room_1 s m #[Value.ref b] below meth c H locs cells2 slots2 (lw_Z below #[Value.ref b] s) (F0 m 1544 ls [])) : W p l e room_1 s m #[Value.ref b] below meth c H locs cells slots (lw_Z below #[Value.ref b] s) (F0 m 1392 ls []) := by
  obtain ⟨hx, hb, hret, hml, hown, hts, hX, hbl, hlocks, hgv⟩ := id C0
  have hA : ∀ q : Nat, s.heap.size ≤ q → (fun q : Nat => s.heap.size ≤ q) q := fun _ h => h
  have hbA : ¬ (fun q : Nat => s.heap.size ≤ q) b := Nat.not_le.mpr hbl
  have ht : ∀ w ∈ zW, w.before #[Value.ref b] s = true := fun w hw => hts w (List.mem_filter.mp hw).1
  obtain ⟨j0, hj0, hp0⟩ := zk_pl (xs (x3 + (1 : Int32)).toNatClampNeg)
  rcases (show j0 = 0 ∨ j0 = 1 ∨ j0 = 2 ∨ j0 = 3 ∨ j0 = 4 ∨ j0 = 5 by omega) with rfl | rfl | rfl | rfl | rfl | rfl
  · refine lv_aload_n hx hb dL_law_1392 rfl (lv_at hl 1 rfl) ?_
    refine lv_aload_n hx hb dL_law_1393 rfl (lv_at hl 0 rfl) ?_
    refine lv_iload_n hx hb dL_law_1394 rfl (lv_at hl 3 rfl) ?_
    refine lv_iconst (v := (1 : Int32)) hx hb dL_law_1395 (by decide) ?_
    refine lv_iadd hx hb dL_law_1396 ?_
    refine va_sld hx hb hX hbl hbA hS (zl_in h3 hL (by decide)) dL_law_1397 ?_
    refine lv_aload_n hx hb dL_law_1398 rfl (lv_at hl 0 rfl) ?_
    refine lv_iload_n hx hb dL_law_1399 rfl (lv_at hl 3 rfl) ?_
    refine lv_iconst (v := (2 : Int32)) hx hb dL_law_1400 (by decide) ?_
    refine lv_iadd hx hb dL_law_1401 ?_
    refine va_sld hx hb hX hbl hbA hS (zl_in h3 hL (by decide)) dL_law_1402 ?_
    obtain ⟨R1, hf1, hI2, hM1⟩ := K_X11_element_0 l D cs k H.size ad z hI (xs (x3 + (1 : Int32)).toNatClampNeg) (xs (x3 + (2 : Int32)).toNatClampNeg) hp0
    refine zk_LXl (As := [.int (xs (x3 + (1 : Int32)).toNatClampNeg), .int (xs (x3 + (2 : Int32)).toNatClampNeg)]) (rest := []) hE hO hM1 ⟨hx, hb, hml, hown, ht⟩ (cwV 2 ht gl_158 rfl rfl rfl (by decide +kernel) ⟨Nat.le_of_ble_eq_true rfl, Nat.le_of_ble_eq_true rfl⟩) (va_recv hK hP (ci := 11) (q0 := 44) rfl rfl) hP hD hS hK hA rfl hl.1 (Nat.le_of_ble_eq_true rfl) dL_law_1403 ⟨by show _ ≤ 600000; omega, by show _ ≤ 7302250; omega⟩ (fun H locs hP hD hS => ?_)
    refine lv_pop2_2 hx hb dL_law_1406 rfl ?_
    refine lv_aload_n hx hb dL_law_1407 rfl (lv_at hl 2 rfl) ?_
    refine lv_aload_n hx hb dL_law_1408 rfl (lv_at hl 0 rfl) ?_
    refine lv_iload_n hx hb dL_law_1409 rfl (lv_at hl 3 rfl) ?_
    refine lv_iconst (v := (1 : Int32)) hx hb dL_law_1410 (by decide) ?_
    refine lv_iadd hx hb dL_law_1411 ?_
    refine va_sld hx hb hX hbl hbA hS (zl_in h3 hL (by decide)) dL_law_1412 ?_
    refine lv_aload_n hx hb dL_law_1413 rfl (lv_at hl 0 rfl) ?_
    refine lv_iload_n hx hb dL_law_1414 rfl (lv_at hl 3 rfl) ?_
    refine lv_iconst (v := (2 : Int32)) hx hb dL_law_1415 (by decide) ?_
    refine lv_iadd hx hb dL_law_1416 ?_
    refine va_sld hx hb hX hbl hbA hS (zl_in h3 hL (by decide)) dL_law_1417 ?_
    obtain ⟨R2, hf2, hJ2, hM2⟩ := K_X12_element l D cs k H.size am w hJ (xs (x3 + (1 : Int32)).toNatClampNeg) (xs (x3 + (2 : Int32)).toNatClampNeg)
    refine zk_LMl (As := [.int (xs (x3 + (1 : Int32)).toNatClampNeg), .int (xs (x3 + (2 : Int32)).toNatClampNeg)]) (rest := []) hE hO hM2 ⟨hx, hb, hml, hown, ht⟩ (cwV 2 ht gl_161 rfl rfl rfl (by decide +kernel) ⟨Nat.le_of_ble_eq_true rfl, Nat.le_of_ble_eq_true rfl⟩) (va_recv hK hP (ci := 12) (q0 := 0) rfl rfl) hP hD hS hK hA rfl hl.1 (Nat.le_of_ble_eq_true rfl) dL_law_1418 ⟨by show _ ≤ 600000; omega, by show _ ≤ 7302250; omega⟩ (fun H locs hP hD hS => ?_)
    refine lv_pop2_2 hx hb dL_law_1421 rfl ?_
    refine lv_goto (tgt := 1544) hx hb dL_law_1422 (by decide) ?_
    exact kk _ _ H locs ls _ _ hI2 hJ2 ⟨(rl_0 hr :), (rl_1 hr :), (rl_2 hr :), (rl_3 hr :), (rl_4 hr :), (rl_5 hr :), (rl_6 hr :), (rl_7 hr :), (rl_8 hr :), (rl_9 hr :), (rl_10 hr :), (rl_11 hr :), (rl_12 hr :), (rl_13 hr :), (rl_14 hr :), (rl_15 hr :), (rl_16 hr :), (rl_17 hr :), (rl_18 hr :), (rl_19 hr :), (rl_20 hr :), (rl_21 hr :), (rl_22 hr :), (rl_23 hr :), (rl_24 hr :), (rl_25 hr :), (rl_26 hr :), (rl_27 hr :), (rl_28 hr :), (rl_29 hr :), (rl_30 hr :), (rl_31 hr :), (rl_32 hr :), (rl_33 hr :)⟩ (by omega) (by omega) hP hD hS (lv_sub hl [0, 1, 2, 3] rfl)
  · refine lv_aload_n hx hb dL_law_1392 rfl (lv_at hl 1 rfl) ?_
    refine lv_aload_n hx hb dL_law_1393 rfl (lv_at hl 0 rfl) ?_
    refine lv_iload_n hx hb dL_law_1394 rfl (lv_at hl 3 rfl) ?_
    refine lv_iconst (v := (1 : Int32)) hx hb dL_law_1395 (by decide) ?_
    refine lv_iadd hx hb dL_law_1396 ?_
    refine va_sld hx hb hX hbl hbA hS (zl_in h3 hL (by decide)) dL_law_1397 ?_
    refine lv_aload_n hx hb dL_law_1398 rfl (lv_at hl 0 rfl) ?_
    refine lv_iload_n hx hb dL_law_1399 rfl (lv_at hl 3 rfl) ?_
    refine lv_iconst (v := (2 : Int32)) hx hb dL_law_1400 (by decide) ?_
    refine lv_iadd hx hb dL_law_1401 ?_
    refine va_sld hx hb hX hbl hbA hS (zl_in h3 hL (by decide)) dL_law_1402 ?_
    obtain ⟨R1, hf1, hI2, hM1⟩ := K_X11_element_1 l D cs k H.size ad z hI (xs (x3 + (1 : Int32)).toNatClampNeg) (xs (x3 + (2 : Int32)).toNatClampNeg) hp0
    refine zk_LXl (As := [.int (xs (x3 + (1 : Int32)).toNatClampNeg), .int (xs (x3 + (2 : Int32)).toNatClampNeg)]) (rest := []) hE hO hM1 ⟨hx, hb, hml, hown, ht⟩ (cwV 2 ht gl_158 rfl rfl rfl (by decide +kernel) ⟨Nat.le_of_ble_eq_true rfl, Nat.le_of_ble_eq_true rfl⟩) (va_recv hK hP (ci := 11) (q0 := 44) rfl rfl) hP hD hS hK hA rfl hl.1 (Nat.le_of_ble_eq_true rfl) dL_law_1403 ⟨by show _ ≤ 600000; omega, by show _ ≤ 7302250; omega⟩ (fun H locs hP hD hS => ?_)
    refine lv_pop2_2 hx hb dL_law_1406 rfl ?_
    refine lv_aload_n hx hb dL_law_1407 rfl (lv_at hl 2 rfl) ?_
    refine lv_aload_n hx hb dL_law_1408 rfl (lv_at hl 0 rfl) ?_
    refine lv_iload_n hx hb dL_law_1409 rfl (lv_at hl 3 rfl) ?_
    refine lv_iconst (v := (1 : Int32)) hx hb dL_law_1410 (by decide) ?_
    refine lv_iadd hx hb dL_law_1411 ?_
    refine va_sld hx hb hX hbl hbA hS (zl_in h3 hL (by decide)) dL_law_1412 ?_
    refine lv_aload_n hx hb dL_law_1413 rfl (lv_at hl 0 rfl) ?_
    refine lv_iload_n hx hb dL_law_1414 rfl (lv_at hl 3 rfl) ?_
    refine lv_iconst (v := (2 : Int32)) hx hb dL_law_1415 (by decide) ?_
    refine lv_iadd hx hb dL_law_1416 ?_
    refine va_sld hx hb hX hbl hbA hS (zl_in h3 hL (by decide)) dL_law_1417 ?_
    obtain ⟨R2, hf2, hJ2, hM2⟩ := K_X12_element l D cs k H.size am w hJ (xs (x3 + (1 : Int32)).toNatClampNeg) (xs (x3 + (2 : Int32)).toNatClampNeg)
    refine zk_LMl (As := [.int (xs (x3 + (1 : Int32)).toNatClampNeg), .int (xs (x3 + (2 : Int32)).toNatClampNeg)]) (rest := []) hE hO hM2 ⟨hx, hb, hml, hown, ht⟩ (cwV 2 ht gl_161 rfl rfl rfl (by decide +kernel) ⟨Nat.le_of_ble_eq_true rfl, Nat.le_of_ble_eq_true rfl⟩) (va_recv hK hP (ci := 12) (q0 := 0) rfl rfl) hP hD hS hK hA rfl hl.1 (Nat.le_of_ble_eq_true rfl) dL_law_1418 ⟨by show _ ≤ 600000; omega, by show _ ≤ 7302250; omega⟩ (fun H locs hP hD hS => ?_)
    refine lv_pop2_2 hx hb dL_law_1421 rfl ?_
    refine lv_goto (tgt := 1544) hx hb dL_law_1422 (by decide) ?_
    exact kk _ _ H locs ls _ _ hI2 hJ2 ⟨(rl_0 hr :), (rl_1 hr :), (rl_2 hr :), (rl_3 hr :), (rl_4 hr :), (rl_5 hr :), (rl_6 hr :), (rl_7 hr :), (rl_8 hr :), (rl_9 hr :), (rl_10 hr :), (rl_11 hr :), (rl_12 hr :), (rl_13 hr :), (rl_14 hr :), (rl_15 hr :), (rl_16 hr :), (rl_17 hr :), (rl_18 hr :), (rl_19 hr :), (rl_20 hr :), (rl_21 hr :), (rl_22 hr :), (rl_23 hr :), (rl_24 hr :), (rl_25 hr :), (rl_26 hr :), (rl_27 hr :), (rl_28 hr :), (rl_29 hr :), (rl_30 hr :), (rl_31 hr :), (rl_32 hr :), (rl_33 hr :)⟩ (by omega) (by omega) hP hD hS (lv_sub hl [0, 1, 2, 3] rfl)
  · refine lv_aload_n hx hb dL_law_1392 rfl (lv_at hl 1 rfl) ?_
    refine lv_aload_n hx hb dL_law_1393 rfl (lv_at hl 0 rfl) ?_
    refine lv_iload_n hx hb dL_law_1394 rfl (lv_at hl 3 rfl) ?_
    refine lv_iconst (v := (1 : Int32)) hx hb dL_law_1395 (by decide) ?_
    refine lv_iadd hx hb dL_law_1396 ?_
    refine va_sld hx hb hX hbl hbA hS (zl_in h3 hL (by decide)) dL_law_1397 ?_
    refine lv_aload_n hx hb dL_law_1398 rfl (lv_at hl 0 rfl) ?_
    refine lv_iload_n hx hb dL_law_1399 rfl (lv_at hl 3 rfl) ?_
    refine lv_iconst (v := (2 : Int32)) hx hb dL_law_1400 (by decide) ?_
    refine lv_iadd hx hb dL_law_1401 ?_
    refine va_sld hx hb hX hbl hbA hS (zl_in h3 hL (by decide)) dL_law_1402 ?_
    obtain ⟨R1, hf1, hI2, hM1⟩ := K_X11_element_2 l D cs k H.size ad z hI (xs (x3 + (1 : Int32)).toNatClampNeg) (xs (x3 + (2 : Int32)).toNatClampNeg) hp0
    refine zk_LXl (As := [.int (xs (x3 + (1 : Int32)).toNatClampNeg), .int (xs (x3 + (2 : Int32)).toNatClampNeg)]) (rest := []) hE hO hM1 ⟨hx, hb, hml, hown, ht⟩ (cwV 2 ht gl_158 rfl rfl rfl (by decide +kernel) ⟨Nat.le_of_ble_eq_true rfl, Nat.le_of_ble_eq_true rfl⟩) (va_recv hK hP (ci := 11) (q0 := 44) rfl rfl) hP hD hS hK hA rfl hl.1 (Nat.le_of_ble_eq_true rfl) dL_law_1403 ⟨by show _ ≤ 600000; omega, by show _ ≤ 7302250; omega⟩ (fun H locs hP hD hS => ?_)
    refine lv_pop2_2 hx hb dL_law_1406 rfl ?_
    refine lv_aload_n hx hb dL_law_1407 rfl (lv_at hl 2 rfl) ?_
    refine lv_aload_n hx hb dL_law_1408 rfl (lv_at hl 0 rfl) ?_
    refine lv_iload_n hx hb dL_law_1409 rfl (lv_at hl 3 rfl) ?_
    refine lv_iconst (v := (1 : Int32)) hx hb dL_law_1410 (by decide) ?_
    refine lv_iadd hx hb dL_law_1411 ?_
    refine va_sld hx hb hX hbl hbA hS (zl_in h3 hL (by decide)) dL_law_1412 ?_
    refine lv_aload_n hx hb dL_law_1413 rfl (lv_at hl 0 rfl) ?_
    refine lv_iload_n hx hb dL_law_1414 rfl (lv_at hl 3 rfl) ?_
    refine lv_iconst (v := (2 : Int32)) hx hb dL_law_1415 (by decide) ?_
    refine lv_iadd hx hb dL_law_1416 ?_
    refine va_sld hx hb hX hbl hbA hS (zl_in h3 hL (by decide)) dL_law_1417 ?_
    obtain ⟨R2, hf2, hJ2, hM2⟩ := K_X12_element l D cs k H.size am w hJ (xs (x3 + (1 : Int32)).toNatClampNeg) (xs (x3 + (2 : Int32)).toNatClampNeg)
    refine zk_LMl (As := [.int (xs (x3 + (1 : Int32)).toNatClampNeg), .int (xs (x3 + (2 : Int32)).toNatClampNeg)]) (rest := []) hE hO hM2 ⟨hx, hb, hml, hown, ht⟩ (cwV 2 ht gl_161 rfl rfl rfl (by decide +kernel) ⟨Nat.le_of_ble_eq_true rfl, Nat.le_of_ble_eq_true rfl⟩) (va_recv hK hP (ci := 12) (q0 := 0) rfl rfl) hP hD hS hK hA rfl hl.1 (Nat.le_of_ble_eq_true rfl) dL_law_1418 ⟨by show _ ≤ 600000; omega, by show _ ≤ 7302250; omega⟩ (fun H locs hP hD hS => ?_)
    refine lv_pop2_2 hx hb dL_law_1421 rfl ?_
    refine lv_goto (tgt := 1544) hx hb dL_law_1422 (by decide) ?_
    exact kk _ _ H locs ls _ _ hI2 hJ2 ⟨(rl_0 hr :), (rl_1 hr :), (rl_2 hr :), (rl_3 hr :), (rl_4 hr :), (rl_5 hr :), (rl_6 hr :), (rl_7 hr :), (rl_8 hr :), (rl_9 hr :), (rl_10 hr :), (rl_11 hr :), (rl_12 hr :), (rl_13 hr :), (rl_14 hr :), (rl_15 hr :), (rl_16 hr :), (rl_17 hr :), (rl_18 hr :), (rl_19 hr :), (rl_20 hr :), (rl_21 hr :), (rl_22 hr :), (rl_23 hr :), (rl_24 hr :), (rl_25 hr :), (rl_26 hr :), (rl_27 hr :), (rl_28 hr :), (rl_29 hr :), (rl_30 hr :), (rl_31 hr :), (rl_32 hr :), (rl_33 hr :)⟩ (by omega) (by omega) hP hD hS (lv_sub hl [0, 1, 2, 3] rfl)
  · refine lv_aload_n hx hb dL_law_1392 rfl (lv_at hl 1 rfl) ?_
    refine lv_aload_n hx hb dL_law_1393 rfl (lv_at hl 0 rfl) ?_
    refine lv_iload_n hx hb dL_law_1394 rfl (lv_at hl 3 rfl) ?_
    refine lv_iconst (v := (1 : Int32)) hx hb dL_law_1395 (by decide) ?_
    refine lv_iadd hx hb dL_law_1396 ?_
    refine va_sld hx hb hX hbl hbA hS (zl_in h3 hL (by decide)) dL_law_1397 ?_
    refine lv_aload_n hx hb dL_law_1398 rfl (lv_at hl 0 rfl) ?_
    refine lv_iload_n hx hb dL_law_1399 rfl (lv_at hl 3 rfl) ?_
    refine lv_iconst (v := (2 : Int32)) hx hb dL_law_1400 (by decide) ?_
    refine lv_iadd hx hb dL_law_1401 ?_
    refine va_sld hx hb hX hbl hbA hS (zl_in h3 hL (by decide)) dL_law_1402 ?_
    obtain ⟨R1, hf1, hI2, hM1⟩ := K_X11_element_3 l D cs k H.size ad z hI (xs (x3 + (1 : Int32)).toNatClampNeg) (xs (x3 + (2 : Int32)).toNatClampNeg) hp0
    refine zk_LXl (As := [.int (xs (x3 + (1 : Int32)).toNatClampNeg), .int (xs (x3 + (2 : Int32)).toNatClampNeg)]) (rest := []) hE hO hM1 ⟨hx, hb, hml, hown, ht⟩ (cwV 2 ht gl_158 rfl rfl rfl (by decide +kernel) ⟨Nat.le_of_ble_eq_true rfl, Nat.le_of_ble_eq_true rfl⟩) (va_recv hK hP (ci := 11) (q0 := 44) rfl rfl) hP hD hS hK hA rfl hl.1 (Nat.le_of_ble_eq_true rfl) dL_law_1403 ⟨by show _ ≤ 600000; omega, by show _ ≤ 7302250; omega⟩ (fun H locs hP hD hS => ?_)
    refine lv_pop2_2 hx hb dL_law_1406 rfl ?_
    refine lv_aload_n hx hb dL_law_1407 rfl (lv_at hl 2 rfl) ?_
    refine lv_aload_n hx hb dL_law_1408 rfl (lv_at hl 0 rfl) ?_
    refine lv_iload_n hx hb dL_law_1409 rfl (lv_at hl 3 rfl) ?_
    refine lv_iconst (v := (1 : Int32)) hx hb dL_law_1410 (by decide) ?_
    refine lv_iadd hx hb dL_law_1411 ?_
    refine va_sld hx hb hX hbl hbA hS (zl_in h3 hL (by decide)) dL_law_1412 ?_
    refine lv_aload_n hx hb dL_law_1413 rfl (lv_at hl 0 rfl) ?_
    refine lv_iload_n hx hb dL_law_1414 rfl (lv_at hl 3 rfl) ?_
    refine lv_iconst (v := (2 : Int32)) hx hb dL_law_1415 (by decide) ?_
    refine lv_iadd hx hb dL_law_1416 ?_
    refine va_sld hx hb hX hbl hbA hS (zl_in h3 hL (by decide)) dL_law_1417 ?_
    obtain ⟨R2, hf2, hJ2, hM2⟩ := K_X12_element l D cs k H.size am w hJ (xs (x3 + (1 : Int32)).toNatClampNeg) (xs (x3 + (2 : Int32)).toNatClampNeg)
    refine zk_LMl (As := [.int (xs (x3 + (1 : Int32)).toNatClampNeg), .int (xs (x3 + (2 : Int32)).toNatClampNeg)]) (rest := []) hE hO hM2 ⟨hx, hb, hml, hown, ht⟩ (cwV 2 ht gl_161 rfl rfl rfl (by decide +kernel) ⟨Nat.le_of_ble_eq_true rfl, Nat.le_of_ble_eq_true rfl⟩) (va_recv hK hP (ci := 12) (q0 := 0) rfl rfl) hP hD hS hK hA rfl hl.1 (Nat.le_of_ble_eq_true rfl) dL_law_1418 ⟨by show _ ≤ 600000; omega, by show _ ≤ 7302250; omega⟩ (fun H locs hP hD hS => ?_)
    refine lv_pop2_2 hx hb dL_law_1421 rfl ?_
    refine lv_goto (tgt := 1544) hx hb dL_law_1422 (by decide) ?_
    exact kk _ _ H locs ls _ _ hI2 hJ2 ⟨(rl_0 hr :), (rl_1 hr :), (rl_2 hr :), (rl_3 hr :), (rl_4 hr :), (rl_5 hr :), (rl_6 hr :), (rl_7 hr :), (rl_8 hr :), (rl_9 hr :), (rl_10 hr :), (rl_11 hr :), (rl_12 hr :), (rl_13 hr :), (rl_14 hr :), (rl_15 hr :), (rl_16 hr :), (rl_17 hr :), (rl_18 hr :), (rl_19 hr :), (rl_20 hr :), (rl_21 hr :), (rl_22 hr :), (rl_23 hr :), (rl_24 hr :), (rl_25 hr :), (rl_26 hr :), (rl_27 hr :), (rl_28 hr :), (rl_29 hr :), (rl_30 hr :), (rl_31 hr :), (rl_32 hr :), (rl_33 hr :)⟩ (by omega) (by omega) hP hD hS (lv_sub hl [0, 1, 2, 3] rfl)
  · refine lv_aload_n hx hb dL_law_1392 rfl (lv_at hl 1 rfl) ?_
    refine lv_aload_n hx hb dL_law_1393 rfl (lv_at hl 0 rfl) ?_
    refine lv_iload_n hx hb dL_law_1394 rfl (lv_at hl 3 rfl) ?_
    refine lv_iconst (v := (1 : Int32)) hx hb dL_law_1395 (by decide) ?_
    refine lv_iadd hx hb dL_law_1396 ?_
    refine va_sld hx hb hX hbl hbA hS (zl_in h3 hL (by decide)) dL_law_1397 ?_
    refine lv_aload_n hx hb dL_law_1398 rfl (lv_at hl 0 rfl) ?_
    refine lv_iload_n hx hb dL_law_1399 rfl (lv_at hl 3 rfl) ?_
    refine lv_iconst (v := (2 : Int32)) hx hb dL_law_1400 (by decide) ?_
    refine lv_iadd hx hb dL_law_1401 ?_
    refine va_sld hx hb hX hbl hbA hS (zl_in h3 hL (by decide)) dL_law_1402 ?_
    obtain ⟨R1, hf1, hI2, hM1⟩ := K_X11_element_4 l D cs k H.size ad z hI (xs (x3 + (1 : Int32)).toNatClampNeg) (xs (x3 + (2 : Int32)).toNatClampNeg) hp0
    refine zk_LXl (As := [.int (xs (x3 + (1 : Int32)).toNatClampNeg), .int (xs (x3 + (2 : Int32)).toNatClampNeg)]) (rest := []) hE hO hM1 ⟨hx, hb, hml, hown, ht⟩ (cwV 2 ht gl_158 rfl rfl rfl (by decide +kernel) ⟨Nat.le_of_ble_eq_true rfl, Nat.le_of_ble_eq_true rfl⟩) (va_recv hK hP (ci := 11) (q0 := 44) rfl rfl) hP hD hS hK hA rfl hl.1 (Nat.le_of_ble_eq_true rfl) dL_law_1403 ⟨by show _ ≤ 600000; omega, by show _ ≤ 7302250; omega⟩ (fun H locs hP hD hS => ?_)
    refine lv_pop2_2 hx hb dL_law_1406 rfl ?_
    refine lv_aload_n hx hb dL_law_1407 rfl (lv_at hl 2 rfl) ?_
    refine lv_aload_n hx hb dL_law_1408 rfl (lv_at hl 0 rfl) ?_
    refine lv_iload_n hx hb dL_law_1409 rfl (lv_at hl 3 rfl) ?_
    refine lv_iconst (v := (1 : Int32)) hx hb dL_law_1410 (by decide) ?_
    refine lv_iadd hx hb dL_law_1411 ?_
    refine va_sld hx hb hX hbl hbA hS (zl_in h3 hL (by decide)) dL_law_1412 ?_
    refine lv_aload_n hx hb dL_law_1413 rfl (lv_at hl 0 rfl) ?_
    refine lv_iload_n hx hb dL_law_1414 rfl (lv_at hl 3 rfl) ?_
    refine lv_iconst (v := (2 : Int32)) hx hb dL_law_1415 (by decide) ?_
    refine lv_iadd hx hb dL_law_1416 ?_
    refine va_sld hx hb hX hbl hbA hS (zl_in h3 hL (by decide)) dL_law_1417 ?_
    obtain ⟨R2, hf2, hJ2, hM2⟩ := K_X12_element l D cs k H.size am w hJ (xs (x3 + (1 : Int32)).toNatClampNeg) (xs (x3 + (2 : Int32)).toNatClampNeg)
    refine zk_LMl (As := [.int (xs (x3 + (1 : Int32)).toNatClampNeg), .int (xs (x3 + (2 : Int32)).toNatClampNeg)]) (rest := []) hE hO hM2 ⟨hx, hb, hml, hown, ht⟩ (cwV 2 ht gl_161 rfl rfl rfl (by decide +kernel) ⟨Nat.le_of_ble_eq_true rfl, Nat.le_of_ble_eq_true rfl⟩) (va_recv hK hP (ci := 12) (q0 := 0) rfl rfl) hP hD hS hK hA rfl hl.1 (Nat.le_of_ble_eq_true rfl) dL_law_1418 ⟨by show _ ≤ 600000; omega, by show _ ≤ 7302250; omega⟩ (fun H locs hP hD hS => ?_)
    refine lv_pop2_2 hx hb dL_law_1421 rfl ?_
    refine lv_goto (tgt := 1544) hx hb dL_law_1422 (by decide) ?_
    exact kk _ _ H locs ls _ _ hI2 hJ2 ⟨(rl_0 hr :), (rl_1 hr :), (rl_2 hr :), (rl_3 hr :), (rl_4 hr :), (rl_5 hr :), (rl_6 hr :), (rl_7 hr :), (rl_8 hr :), (rl_9 hr :), (rl_10 hr :), (rl_11 hr :), (rl_12 hr :), (rl_13 hr :), (rl_14 hr :), (rl_15 hr :), (rl_16 hr :), (rl_17 hr :), (rl_18 hr :), (rl_19 hr :), (rl_20 hr :), (rl_21 hr :), (rl_22 hr :), (rl_23 hr :), (rl_24 hr :), (rl_25 hr :), (rl_26 hr :), (rl_27 hr :), (rl_28 hr :), (rl_29 hr :), (rl_30 hr :), (rl_31 hr :), (rl_32 hr :), (rl_33 hr :)⟩ (by omega) (by omega) hP hD hS (lv_sub hl [0, 1, 2, 3] rfl)
  · refine lv_aload_n hx hb dL_law_1392 rfl (lv_at hl 1 rfl) ?_
    refine lv_aload_n hx hb dL_law_1393 rfl (lv_at hl 0 rfl) ?_
    refine lv_iload_n hx hb dL_law_1394 rfl (lv_at hl 3 rfl) ?_
    refine lv_iconst (v := (1 : Int32)) hx hb dL_law_1395 (by decide) ?_
    refine lv_iadd hx hb dL_law_1396 ?_
    refine va_sld hx hb hX hbl hbA hS (zl_in h3 hL (by decide)) dL_law_1397 ?_
    refine lv_aload_n hx hb dL_law_1398 rfl (lv_at hl 0 rfl) ?_
    refine lv_iload_n hx hb dL_law_1399 rfl (lv_at hl 3 rfl) ?_
    refine lv_iconst (v := (2 : Int32)) hx hb dL_law_1400 (by decide) ?_
    refine lv_iadd hx hb dL_law_1401 ?_
    refine va_sld hx hb hX hbl hbA hS (zl_in h3 hL (by decide)) dL_law_1402 ?_
    obtain ⟨R1, hf1, hI2, hM1⟩ := K_X11_element_5 l D cs k H.size ad z hI (xs (x3 + (1 : Int32)).toNatClampNeg) (xs (x3 + (2 : Int32)).toNatClampNeg) hp0
    refine zk_LXl (As := [.int (xs (x3 + (1 : Int32)).toNatClampNeg), .int (xs (x3 + (2 : Int32)).toNatClampNeg)]) (rest := []) hE hO hM1 ⟨hx, hb, hml, hown, ht⟩ (cwV 2 ht gl_158 rfl rfl rfl (by decide +kernel) ⟨Nat.le_of_ble_eq_true rfl, Nat.le_of_ble_eq_true rfl⟩) (va_recv hK hP (ci := 11) (q0 := 44) rfl rfl) hP hD hS hK hA rfl hl.1 (Nat.le_of_ble_eq_true rfl) dL_law_1403 ⟨by show _ ≤ 600000; omega, by show _ ≤ 7302250; omega⟩ (fun H locs hP hD hS => ?_)
    refine lv_pop2_2 hx hb dL_law_1406 rfl ?_
    refine lv_aload_n hx hb dL_law_1407 rfl (lv_at hl 2 rfl) ?_
    refine lv_aload_n hx hb dL_law_1408 rfl (lv_at hl 0 rfl) ?_
    refine lv_iload_n hx hb dL_law_1409 rfl (lv_at hl 3 rfl) ?_
    refine lv_iconst (v := (1 : Int32)) hx hb dL_law_1410 (by decide) ?_
    refine lv_iadd hx hb dL_law_1411 ?_
    refine va_sld hx hb hX hbl hbA hS (zl_in h3 hL (by decide)) dL_law_1412 ?_
    refine lv_aload_n hx hb dL_law_1413 rfl (lv_at hl 0 rfl) ?_
    refine lv_iload_n hx hb dL_law_1414 rfl (lv_at hl 3 rfl) ?_
    refine lv_iconst (v := (2 : Int32)) hx hb dL_law_1415 (by decide) ?_
    refine lv_iadd hx hb dL_law_1416 ?_
    refine va_sld hx hb hX hbl hbA hS (zl_in h3 hL (by decide)) dL_law_1417 ?_
    obtain ⟨R2, hf2, hJ2, hM2⟩ := K_X12_element l D cs k H.size am w hJ (xs (x3 + (1 : Int32)).toNatClampNeg) (xs (x3 + (2 : Int32)).toNatClampNeg)
    refine zk_LMl (As := [.int (xs (x3 + (1 : Int32)).toNatClampNeg), .int (xs (x3 + (2 : Int32)).toNatClampNeg)]) (rest := []) hE hO hM2 ⟨hx, hb, hml, hown, ht⟩ (cwV 2 ht gl_161 rfl rfl rfl (by decide +kernel) ⟨Nat.le_of_ble_eq_true rfl, Nat.le_of_ble_eq_true rfl⟩) (va_recv hK hP (ci := 12) (q0 := 0) rfl rfl) hP hD hS hK hA rfl hl.1 (Nat.le_of_ble_eq_true rfl) dL_law_1418 ⟨by show _ ≤ 600000; omega, by show _ ≤ 7302250; omega⟩ (fun H locs hP hD hS => ?_)
    refine lv_pop2_2 hx hb dL_law_1421 rfl ?_
    refine lv_goto (tgt := 1544) hx hb dL_law_1422 (by decide) ?_
    exact kk _ _ H locs ls _ _ hI2 hJ2 ⟨(rl_0 hr :), (rl_1 hr :), (rl_2 hr :), (rl_3 hr :), (rl_4 hr :), (rl_5 hr :), (rl_6 hr :), (rl_7 hr :), (rl_8 hr :), (rl_9 hr :), (rl_10 hr :), (rl_11 hr :), (rl_12 hr :), (rl_13 hr :), (rl_14 hr :), (rl_15 hr :), (rl_16 hr :), (rl_17 hr :), (rl_18 hr :), (rl_19 hr :), (rl_20 hr :), (rl_21 hr :), (rl_22 hr :), (rl_23 hr :), (rl_24 hr :), (rl_25 hr :), (rl_26 hr :), (rl_27 hr :), (rl_28 hr :), (rl_29 hr :), (rl_30 hr :), (rl_31 hr :), (rl_32 hr :), (rl_33 hr :)⟩ (by omega) (by omega) hP hD hS (lv_sub hl [0, 1, 2, 3] rfl)
