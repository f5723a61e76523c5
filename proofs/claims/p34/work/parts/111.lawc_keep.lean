theorem dL_law_1243 : decode cL_law 1243 = .ok (.aload_n 1, 1) := by decide +kernel
theorem dL_law_1244 : decode cL_law 1244 = .ok (.aload_n 0, 1) := by decide +kernel
theorem dL_law_1245 : decode cL_law 1245 = .ok (.iload_n 3, 1) := by decide +kernel
theorem dL_law_1246 : decode cL_law 1246 = .ok (.iconst 1, 1) := by decide +kernel
theorem dL_law_1247 : decode cL_law 1247 = .ok (.iadd, 1) := by decide +kernel
theorem dL_law_1248 : decode cL_law 1248 = .ok (.iaload, 1) := by decide +kernel
theorem dL_law_1249 : decode cL_law 1249 = .ok (.aload_n 0, 1) := by decide +kernel
theorem dL_law_1250 : decode cL_law 1250 = .ok (.iload_n 3, 1) := by decide +kernel
theorem dL_law_1251 : decode cL_law 1251 = .ok (.iconst 2, 1) := by decide +kernel
theorem dL_law_1252 : decode cL_law 1252 = .ok (.iadd, 1) := by decide +kernel
theorem dL_law_1253 : decode cL_law 1253 = .ok (.iaload, 1) := by decide +kernel
theorem dL_law_1254 : decode cL_law 1254 = .ok (.invokevirtual 143, 3) := by decide +kernel
theorem dL_law_1257 : decode cL_law 1257 = .ok (.pop, 1) := by decide +kernel
theorem dL_law_1258 : decode cL_law 1258 = .ok (.aload_n 2, 1) := by decide +kernel
theorem dL_law_1259 : decode cL_law 1259 = .ok (.aload_n 0, 1) := by decide +kernel
theorem dL_law_1260 : decode cL_law 1260 = .ok (.iload_n 3, 1) := by decide +kernel
theorem dL_law_1261 : decode cL_law 1261 = .ok (.iconst 1, 1) := by decide +kernel
theorem dL_law_1262 : decode cL_law 1262 = .ok (.iadd, 1) := by decide +kernel
theorem dL_law_1263 : decode cL_law 1263 = .ok (.iaload, 1) := by decide +kernel
theorem dL_law_1264 : decode cL_law 1264 = .ok (.aload_n 0, 1) := by decide +kernel
theorem dL_law_1265 : decode cL_law 1265 = .ok (.iload_n 3, 1) := by decide +kernel
theorem dL_law_1266 : decode cL_law 1266 = .ok (.iconst 2, 1) := by decide +kernel
theorem dL_law_1267 : decode cL_law 1267 = .ok (.iadd, 1) := by decide +kernel
theorem dL_law_1268 : decode cL_law 1268 = .ok (.iaload, 1) := by decide +kernel
theorem dL_law_1269 : decode cL_law 1269 = .ok (.invokevirtual 146, 3) := by decide +kernel
theorem dL_law_1272 : decode cL_law 1272 = .ok (.pop, 1) := by decide +kernel
theorem dL_law_1273 : decode cL_law 1273 = .ok (.goto 271, 3) := by decide +kernel
set_option maxHeartbeats 8000000 in
set_option maxRecDepth 100000 in
theorem law_case_31 {p : Program} {l : Launch} {e : Env} {s : State} {m : MethodId} {below : List Frame} {meth : Method} {c : Code} {b L : Nat} {xs : Nat → Int32} {D : va_G} {cs : Nat → ClassId} {k : (Nat → Nat) × (Nat → Nat)} {ad am : Nat → Nat} (C0 : lw_At p s m meth c b L xs) (hK : va_K D classes (zT cs) s) (hO : zO s) (hE : zE k (fun q : Nat => s.heap.size ≤ q) s) (hL : L ≤ 3072) (x3 : Int32) (h3 : 0 ≤ x3.toInt ∧ x3.toInt + 6 ≤ (L : Int)) (z : ZT) (w : MT) (hI : IX ad cs z) (hJ : IM w) (hr : RL z w) (cells slots : Nat) (hc : cells + 2 ≤ 600000) (hs : slots + 122 ≤ 7302250) (H : Heap) (locs : List Loc) (ls : Array Slot) (hP : va_P D classes (WM am cs w ++ WX ad cs z) H) (hD : va_D (fun q : Nat => s.heap.size ≤ q) (WM am cs w ++ WX ad cs z)) (hS : va_S (fun q : Nat => s.heap.size ≤ q) s.heap H locs) (hl : lv_has ls 4 [(0, .ref b), (1, .ref (ad 0)), (2, .ref (am 41)), (3, .int x3)]) (kk : ∀ (z2 : ZT) (w2 : MT) (H : Heap) (locs : List Loc) (ls : Array Slot) (cells2 slots2 : Nat), IX ad cs z2 → IM w2 → RL z2 w2 → cells2 ≤ cells + 2 → slots2 ≤ slots + 122 → va_P D classes (WM am cs w2 ++ WX ad cs z2) H → va_D (fun q : Nat => s.heap.size ≤ q) (WM am cs w2 ++ WX ad cs z2) → va_S (fun q : Nat => s.heap.size ≤ q) s.heap H locs → lv_has ls 4 [(0, .ref b), (1, .ref (ad 0)), (2, .ref (am 41)), (3, .int x3)] → W p l e room_1 s m #[Value.ref b] below meth c H locs cells2 slots2 (lw_Z below #[Value.ref b] s) (F0 m 1544 ls [])) : W p l e room_1 s m #[Value.ref b] below meth c H locs cells slots (lw_Z below #[Value.ref b] s) (F0 m 1243 ls []) := by
  obtain ⟨hx, hb, hret, hml, hown, hts, hX, hbl, hlocks, hgv⟩ := id C0
  have hA : ∀ q : Nat, s.heap.size ≤ q → (fun q : Nat => s.heap.size ≤ q) q := fun _ h => h
  have hbA : ¬ (fun q : Nat => s.heap.size ≤ q) b := Nat.not_le.mpr hbl
  have ht : ∀ w ∈ zW, w.before #[Value.ref b] s = true := fun w hw => hts w (List.mem_filter.mp hw).1
  obtain ⟨j0, hj0, hp0⟩ := zk_pl (xs (x3 + (1 : Int32)).toNatClampNeg)
  rcases (show j0 = 0 ∨ j0 = 1 ∨ j0 = 2 ∨ j0 = 3 ∨ j0 = 4 ∨ j0 = 5 by omega) with rfl | rfl | rfl | rfl | rfl | rfl
  · refine lv_aload_n hx hb dL_law_1243 rfl (lv_at hl 1 rfl) ?_
    refine lv_aload_n hx hb dL_law_1244 rfl (lv_at hl 0 rfl) ?_
    refine lv_iload_n hx hb dL_law_1245 rfl (lv_at hl 3 rfl) ?_
    refine lv_iconst (v := (1 : Int32)) hx hb dL_law_1246 (by decide) ?_
    refine lv_iadd hx hb dL_law_1247 ?_
    refine va_sld hx hb hX hbl hbA hS (zl_in h3 hL (by decide)) dL_law_1248 ?_
    refine lv_aload_n hx hb dL_law_1249 rfl (lv_at hl 0 rfl) ?_
    refine lv_iload_n hx hb dL_law_1250 rfl (lv_at hl 3 rfl) ?_
    refine lv_iconst (v := (2 : Int32)) hx hb dL_law_1251 (by decide) ?_
    refine lv_iadd hx hb dL_law_1252 ?_
    refine va_sld hx hb hX hbl hbA hS (zl_in h3 hL (by decide)) dL_law_1253 ?_
    obtain ⟨R1, hf1, hI2, hM1⟩ := K_X11_keep_0 l D cs k H.size ad z hI (xs (x3 + (1 : Int32)).toNatClampNeg) (xs (x3 + (2 : Int32)).toNatClampNeg) hp0
    refine zk_LXi (As := [.int (xs (x3 + (1 : Int32)).toNatClampNeg), .int (xs (x3 + (2 : Int32)).toNatClampNeg)]) (rest := []) hE hO hM1 ⟨hx, hb, hml, hown, ht⟩ (cwV 2 ht gl_143 rfl rfl rfl (by decide +kernel) ⟨Nat.le_of_ble_eq_true rfl, Nat.le_of_ble_eq_true rfl⟩) (va_recv hK hP (ci := 11) (q0 := 44) rfl rfl) hP hD hS hK hA rfl hl.1 (Nat.le_of_ble_eq_true rfl) dL_law_1254 ⟨by show _ ≤ 600000; omega, by show _ ≤ 7302250; omega⟩ (fun H locs hP hD hS => ?_)
    refine lv_pop hx hb dL_law_1257 rfl ?_
    refine lv_aload_n hx hb dL_law_1258 rfl (lv_at hl 2 rfl) ?_
    refine lv_aload_n hx hb dL_law_1259 rfl (lv_at hl 0 rfl) ?_
    refine lv_iload_n hx hb dL_law_1260 rfl (lv_at hl 3 rfl) ?_
    refine lv_iconst (v := (1 : Int32)) hx hb dL_law_1261 (by decide) ?_
    refine lv_iadd hx hb dL_law_1262 ?_
    refine va_sld hx hb hX hbl hbA hS (zl_in h3 hL (by decide)) dL_law_1263 ?_
    refine lv_aload_n hx hb dL_law_1264 rfl (lv_at hl 0 rfl) ?_
    refine lv_iload_n hx hb dL_law_1265 rfl (lv_at hl 3 rfl) ?_
    refine lv_iconst (v := (2 : Int32)) hx hb dL_law_1266 (by decide) ?_
    refine lv_iadd hx hb dL_law_1267 ?_
    refine va_sld hx hb hX hbl hbA hS (zl_in h3 hL (by decide)) dL_law_1268 ?_
    obtain ⟨R2, hf2, hJ2, hM2⟩ := K_X12_keep l D cs k H.size am w hJ (xs (x3 + (1 : Int32)).toNatClampNeg) (xs (x3 + (2 : Int32)).toNatClampNeg)
    refine zk_LMi (As := [.int (xs (x3 + (1 : Int32)).toNatClampNeg), .int (xs (x3 + (2 : Int32)).toNatClampNeg)]) (rest := []) hE hO hM2 ⟨hx, hb, hml, hown, ht⟩ (cwV 2 ht gl_146 rfl rfl rfl (by decide +kernel) ⟨Nat.le_of_ble_eq_true rfl, Nat.le_of_ble_eq_true rfl⟩) (va_recv hK hP (ci := 12) (q0 := 0) rfl rfl) hP hD hS hK hA rfl hl.1 (Nat.le_of_ble_eq_true rfl) dL_law_1269 ⟨by show _ ≤ 600000; omega, by show _ ≤ 7302250; omega⟩ (fun H locs hP hD hS => ?_)
    refine lv_pop hx hb dL_law_1272 rfl ?_
    refine lv_goto (tgt := 1544) hx hb dL_law_1273 (by decide) ?_
    exact kk _ _ H locs ls _ _ hI2 hJ2 trivial (by omega) (by omega) hP hD hS (lv_sub hl [0, 1, 2, 3] rfl)
  · refine lv_aload_n hx hb dL_law_1243 rfl (lv_at hl 1 rfl) ?_
    refine lv_aload_n hx hb dL_law_1244 rfl (lv_at hl 0 rfl) ?_
    refine lv_iload_n hx hb dL_law_1245 rfl (lv_at hl 3 rfl) ?_
    refine lv_iconst (v := (1 : Int32)) hx hb dL_law_1246 (by decide) ?_
    refine lv_iadd hx hb dL_law_1247 ?_
    refine va_sld hx hb hX hbl hbA hS (zl_in h3 hL (by decide)) dL_law_1248 ?_
    refine lv_aload_n hx hb dL_law_1249 rfl (lv_at hl 0 rfl) ?_
    refine lv_iload_n hx hb dL_law_1250 rfl (lv_at hl 3 rfl) ?_
    refine lv_iconst (v := (2 : Int32)) hx hb dL_law_1251 (by decide) ?_
    refine lv_iadd hx hb dL_law_1252 ?_
    refine va_sld hx hb hX hbl hbA hS (zl_in h3 hL (by decide)) dL_law_1253 ?_
    obtain ⟨R1, hf1, hI2, hM1⟩ := K_X11_keep_1 l D cs k H.size ad z hI (xs (x3 + (1 : Int32)).toNatClampNeg) (xs (x3 + (2 : Int32)).toNatClampNeg) hp0
    refine zk_LXi (As := [.int (xs (x3 + (1 : Int32)).toNatClampNeg), .int (xs (x3 + (2 : Int32)).toNatClampNeg)]) (rest := []) hE hO hM1 ⟨hx, hb, hml, hown, ht⟩ (cwV 2 ht gl_143 rfl rfl rfl (by decide +kernel) ⟨Nat.le_of_ble_eq_true rfl, Nat.le_of_ble_eq_true rfl⟩) (va_recv hK hP (ci := 11) (q0 := 44) rfl rfl) hP hD hS hK hA rfl hl.1 (Nat.le_of_ble_eq_true rfl) dL_law_1254 ⟨by show _ ≤ 600000; omega, by show _ ≤ 7302250; omega⟩ (fun H locs hP hD hS => ?_)
    refine lv_pop hx hb dL_law_1257 rfl ?_
    refine lv_aload_n hx hb dL_law_1258 rfl (lv_at hl 2 rfl) ?_
    refine lv_aload_n hx hb dL_law_1259 rfl (lv_at hl 0 rfl) ?_
    refine lv_iload_n hx hb dL_law_1260 rfl (lv_at hl 3 rfl) ?_
    refine lv_iconst (v := (1 : Int32)) hx hb dL_law_1261 (by decide) ?_
    refine lv_iadd hx hb dL_law_1262 ?_
    refine va_sld hx hb hX hbl hbA hS (zl_in h3 hL (by decide)) dL_law_1263 ?_
    refine lv_aload_n hx hb dL_law_1264 rfl (lv_at hl 0 rfl) ?_
    refine lv_iload_n hx hb dL_law_1265 rfl (lv_at hl 3 rfl) ?_
    refine lv_iconst (v := (2 : Int32)) hx hb dL_law_1266 (by decide) ?_
    refine lv_iadd hx hb dL_law_1267 ?_
    refine va_sld hx hb hX hbl hbA hS (zl_in h3 hL (by decide)) dL_law_1268 ?_
    obtain ⟨R2, hf2, hJ2, hM2⟩ := K_X12_keep l D cs k H.size am w hJ (xs (x3 + (1 : Int32)).toNatClampNeg) (xs (x3 + (2 : Int32)).toNatClampNeg)
    refine zk_LMi (As := [.int (xs (x3 + (1 : Int32)).toNatClampNeg), .int (xs (x3 + (2 : Int32)).toNatClampNeg)]) (rest := []) hE hO hM2 ⟨hx, hb, hml, hown, ht⟩ (cwV 2 ht gl_146 rfl rfl rfl (by decide +kernel) ⟨Nat.le_of_ble_eq_true rfl, Nat.le_of_ble_eq_true rfl⟩) (va_recv hK hP (ci := 12) (q0 := 0) rfl rfl) hP hD hS hK hA rfl hl.1 (Nat.le_of_ble_eq_true rfl) dL_law_1269 ⟨by show _ ≤ 600000; omega, by show _ ≤ 7302250; omega⟩ (fun H locs hP hD hS => ?_)
    refine lv_pop hx hb dL_law_1272 rfl ?_
    refine lv_goto (tgt := 1544) hx hb dL_law_1273 (by decide) ?_
    exact kk _ _ H locs ls _ _ hI2 hJ2 trivial (by omega) (by omega) hP hD hS (lv_sub hl [0, 1, 2, 3] rfl)
  · refine lv_aload_n hx hb dL_law_1243 rfl (lv_at hl 1 rfl) ?_
    refine lv_aload_n hx hb dL_law_1244 rfl (lv_at hl 0 rfl) ?_
    refine lv_iload_n hx hb dL_law_1245 rfl (lv_at hl 3 rfl) ?_
    refine lv_iconst (v := (1 : Int32)) hx hb dL_law_1246 (by decide) ?_
    refine lv_iadd hx hb dL_law_1247 ?_
    refine va_sld hx hb hX hbl hbA hS (zl_in h3 hL (by decide)) dL_law_1248 ?_
    refine lv_aload_n hx hb dL_law_1249 rfl (lv_at hl 0 rfl) ?_
    refine lv_iload_n hx hb dL_law_1250 rfl (lv_at hl 3 rfl) ?_
    refine lv_iconst (v := (2 : Int32)) hx hb dL_law_1251 (by decide) ?_
    refine lv_iadd hx hb dL_law_1252 ?_
    refine va_sld hx hb hX hbl hbA hS (zl_in h3 hL (by decide)) dL_law_1253 ?_
    obtain ⟨R1, hf1, hI2, hM1⟩ := K_X11_keep_2 l D cs k H.size ad z hI (xs (x3 + (1 : Int32)).toNatClampNeg) (xs (x3 + (2 : Int32)).toNatClampNeg) hp0
    refine zk_LXi (As := [.int (xs (x3 + (1 : Int32)).toNatClampNeg), .int (xs (x3 + (2 : Int32)).toNatClampNeg)]) (rest := []) hE hO hM1 ⟨hx, hb, hml, hown, ht⟩ (cwV 2 ht gl_143 rfl rfl rfl (by decide +kernel) ⟨Nat.le_of_ble_eq_true rfl, Nat.le_of_ble_eq_true rfl⟩) (va_recv hK hP (ci := 11) (q0 := 44) rfl rfl) hP hD hS hK hA rfl hl.1 (Nat.le_of_ble_eq_true rfl) dL_law_1254 ⟨by show _ ≤ 600000; omega, by show _ ≤ 7302250; omega⟩ (fun H locs hP hD hS => ?_)
    refine lv_pop hx hb dL_law_1257 rfl ?_
    refine lv_aload_n hx hb dL_law_1258 rfl (lv_at hl 2 rfl) ?_
    refine lv_aload_n hx hb dL_law_1259 rfl (lv_at hl 0 rfl) ?_
    refine lv_iload_n hx hb dL_law_1260 rfl (lv_at hl 3 rfl) ?_
    refine lv_iconst (v := (1 : Int32)) hx hb dL_law_1261 (by decide) ?_
    refine lv_iadd hx hb dL_law_1262 ?_
    refine va_sld hx hb hX hbl hbA hS (zl_in h3 hL (by decide)) dL_law_1263 ?_
    refine lv_aload_n hx hb dL_law_1264 rfl (lv_at hl 0 rfl) ?_
    refine lv_iload_n hx hb dL_law_1265 rfl (lv_at hl 3 rfl) ?_
    refine lv_iconst (v := (2 : Int32)) hx hb dL_law_1266 (by decide) ?_
    refine lv_iadd hx hb dL_law_1267 ?_
    refine va_sld hx hb hX hbl hbA hS (zl_in h3 hL (by decide)) dL_law_1268 ?_
    obtain ⟨R2, hf2, hJ2, hM2⟩ := K_X12_keep l D cs k H.size am w hJ (xs (x3 + (1 : Int32)).toNatClampNeg) (xs (x3 + (2 : Int32)).toNatClampNeg)
    refine zk_LMi (As := [.int (xs (x3 + (1 : Int32)).toNatClampNeg), .int (xs (x3 + (2 : Int32)).toNatClampNeg)]) (rest := []) hE hO hM2 ⟨hx, hb, hml, hown, ht⟩ (cwV 2 ht gl_146 rfl rfl rfl (by decide +kernel) ⟨Nat.le_of_ble_eq_true rfl, Nat.le_of_ble_eq_true rfl⟩) (va_recv hK hP (ci := 12) (q0 := 0) rfl rfl) hP hD hS hK hA rfl hl.1 (Nat.le_of_ble_eq_true rfl) dL_law_1269 ⟨by show _ ≤ 600000; omega, by show _ ≤ 7302250; omega⟩ (fun H locs hP hD hS => ?_)
    refine lv_pop hx hb dL_law_1272 rfl ?_
    refine lv_goto (tgt := 1544) hx hb dL_law_1273 (by decide) ?_
    exact kk _ _ H locs ls _ _ hI2 hJ2 trivial (by omega) (by omega) hP hD hS (lv_sub hl [0, 1, 2, 3] rfl)
  · refine lv_aload_n hx hb dL_law_1243 rfl (lv_at hl 1 rfl) ?_
    refine lv_aload_n hx hb dL_law_1244 rfl (lv_at hl 0 rfl) ?_
    refine lv_iload_n hx hb dL_law_1245 rfl (lv_at hl 3 rfl) ?_
    refine lv_iconst (v := (1 : Int32)) hx hb dL_law_1246 (by decide) ?_
    refine lv_iadd hx hb dL_law_1247 ?_
    refine va_sld hx hb hX hbl hbA hS (zl_in h3 hL (by decide)) dL_law_1248 ?_
    refine lv_aload_n hx hb dL_law_1249 rfl (lv_at hl 0 rfl) ?_
    refine lv_iload_n hx hb dL_law_1250 rfl (lv_at hl 3 rfl) ?_
    refine lv_iconst (v := (2 : Int32)) hx hb dL_law_1251 (by decide) ?_
    refine lv_iadd hx hb dL_law_1252 ?_
    refine va_sld hx hb hX hbl hbA hS (zl_in h3 hL (by decide)) dL_law_1253 ?_
    obtain ⟨R1, hf1, hI2, hM1⟩ := K_X11_keep_3 l D cs k H.size ad z hI (xs (x3 + (1 : Int32)).toNatClampNeg) (xs (x3 + (2 : Int32)).toNatClampNeg) hp0
    refine zk_LXi (As := [.int (xs (x3 + (1 : Int32)).toNatClampNeg), .int (xs (x3 + (2 : Int32)).toNatClampNeg)]) (rest := []) hE hO hM1 ⟨hx, hb, hml, hown, ht⟩ (cwV 2 ht gl_143 rfl rfl rfl (by decide +kernel) ⟨Nat.le_of_ble_eq_true rfl, Nat.le_of_ble_eq_true rfl⟩) (va_recv hK hP (ci := 11) (q0 := 44) rfl rfl) hP hD hS hK hA rfl hl.1 (Nat.le_of_ble_eq_true rfl) dL_law_1254 ⟨by show _ ≤ 600000; omega, by show _ ≤ 7302250; omega⟩ (fun H locs hP hD hS => ?_)
    refine lv_pop hx hb dL_law_1257 rfl ?_
    refine lv_aload_n hx hb dL_law_1258 rfl (lv_at hl 2 rfl) ?_
    refine lv_aload_n hx hb dL_law_1259 rfl (lv_at hl 0 rfl) ?_
    refine lv_iload_n hx hb dL_law_1260 rfl (lv_at hl 3 rfl) ?_
    refine lv_iconst (v := (1 : Int32)) hx hb dL_law_1261 (by decide) ?_
    refine lv_iadd hx hb dL_law_1262 ?_
    refine va_sld hx hb hX hbl hbA hS (zl_in h3 hL (by decide)) dL_law_1263 ?_
    refine lv_aload_n hx hb dL_law_1264 rfl (lv_at hl 0 rfl) ?_
    refine lv_iload_n hx hb dL_law_1265 rfl (lv_at hl 3 rfl) ?_
    refine lv_iconst (v := (2 : Int32)) hx hb dL_law_1266 (by decide) ?_
    refine lv_iadd hx hb dL_law_1267 ?_
    refine va_sld hx hb hX hbl hbA hS (zl_in h3 hL (by decide)) dL_law_1268 ?_
    obtain ⟨R2, hf2, hJ2, hM2⟩ := K_X12_keep l D cs k H.size am w hJ (xs (x3 + (1 : Int32)).toNatClampNeg) (xs (x3 + (2 : Int32)).toNatClampNeg)
    refine zk_LMi (As := [.int (xs (x3 + (1 : Int32)).toNatClampNeg), .int (xs (x3 + (2 : Int32)).toNatClampNeg)]) (rest := []) hE hO hM2 ⟨hx, hb, hml, hown, ht⟩ (cwV 2 ht gl_146 rfl rfl rfl (by decide +kernel) ⟨Nat.le_of_ble_eq_true rfl, Nat.le_of_ble_eq_true rfl⟩) (va_recv hK hP (ci := 12) (q0 := 0) rfl rfl) hP hD hS hK hA rfl hl.1 (Nat.le_of_ble_eq_true rfl) dL_law_1269 ⟨by show _ ≤ 600000; omega, by show _ ≤ 7302250; omega⟩ (fun H locs hP hD hS => ?_)
    refine lv_pop hx hb dL_law_1272 rfl ?_
    refine lv_goto (tgt := 1544) hx hb dL_law_1273 (by decide) ?_
    exact kk _ _ H locs ls _ _ hI2 hJ2 trivial (by omega) (by omega) hP hD hS (lv_sub hl [0, 1, 2, 3] rfl)
  · refine lv_aload_n hx hb dL_law_1243 rfl (lv_at hl 1 rfl) ?_
    refine lv_aload_n hx hb dL_law_1244 rfl (lv_at hl 0 rfl) ?_
    refine lv_iload_n hx hb dL_law_1245 rfl (lv_at hl 3 rfl) ?_
    refine lv_iconst (v := (1 : Int32)) hx hb dL_law_1246 (by decide) ?_
    refine lv_iadd hx hb dL_law_1247 ?_
    refine va_sld hx hb hX hbl hbA hS (zl_in h3 hL (by decide)) dL_law_1248 ?_
    refine lv_aload_n hx hb dL_law_1249 rfl (lv_at hl 0 rfl) ?_
    refine lv_iload_n hx hb dL_law_1250 rfl (lv_at hl 3 rfl) ?_
    refine lv_iconst (v := (2 : Int32)) hx hb dL_law_1251 (by decide) ?_
    refine lv_iadd hx hb dL_law_1252 ?_
    refine va_sld hx hb hX hbl hbA hS (zl_in h3 hL (by decide)) dL_law_1253 ?_
    obtain ⟨R1, hf1, hI2, hM1⟩ := K_X11_keep_4 l D cs k H.size ad z hI (xs (x3 + (1 : Int32)).toNatClampNeg) (xs (x3 + (2 : Int32)).toNatClampNeg) hp0
    refine zk_LXi (As := [.int (xs (x3 + (1 : Int32)).toNatClampNeg), .int (xs (x3 + (2 : Int32)).toNatClampNeg)]) (rest := []) hE hO hM1 ⟨hx, hb, hml, hown, ht⟩ (cwV 2 ht gl_143 rfl rfl rfl (by decide +kernel) ⟨Nat.le_of_ble_eq_true rfl, Nat.le_of_ble_eq_true rfl⟩) (va_recv hK hP (ci := 11) (q0 := 44) rfl rfl) hP hD hS hK hA rfl hl.1 (Nat.le_of_ble_eq_true rfl) dL_law_1254 ⟨by show _ ≤ 600000; omega, by show _ ≤ 7302250; omega⟩ (fun H locs hP hD hS => ?_)
    refine lv_pop hx hb dL_law_1257 rfl ?_
    refine lv_aload_n hx hb dL_law_1258 rfl (lv_at hl 2 rfl) ?_
    refine lv_aload_n hx hb dL_law_1259 rfl (lv_at hl 0 rfl) ?_
    refine lv_iload_n hx hb dL_law_1260 rfl (lv_at hl 3 rfl) ?_
    refine lv_iconst (v := (1 : Int32)) hx hb dL_law_1261 (by decide) ?_
    refine lv_iadd hx hb dL_law_1262 ?_
    refine va_sld hx hb hX hbl hbA hS (zl_in h3 hL (by decide)) dL_law_1263 ?_
    refine lv_aload_n hx hb dL_law_1264 rfl (lv_at hl 0 rfl) ?_
    refine lv_iload_n hx hb dL_law_1265 rfl (lv_at hl 3 rfl) ?_
    refine lv_iconst (v := (2 : Int32)) hx hb dL_law_1266 (by decide) ?_
    refine lv_iadd hx hb dL_law_1267 ?_
    refine va_sld hx hb hX hbl hbA hS (zl_in h3 hL (by decide)) dL_law_1268 ?_
    obtain ⟨R2, hf2, hJ2, hM2⟩ := K_X12_keep l D cs k H.size am w hJ (xs (x3 + (1 : Int32)).toNatClampNeg) (xs (x3 + (2 : Int32)).toNatClampNeg)
    refine zk_LMi (As := [.int (xs (x3 + (1 : Int32)).toNatClampNeg), .int (xs (x3 + (2 : Int32)).toNatClampNeg)]) (rest := []) hE hO hM2 ⟨hx, hb, hml, hown, ht⟩ (cwV 2 ht gl_146 rfl rfl rfl (by decide +kernel) ⟨Nat.le_of_ble_eq_true rfl, Nat.le_of_ble_eq_true rfl⟩) (va_recv hK hP (ci := 12) (q0 := 0) rfl rfl) hP hD hS hK hA rfl hl.1 (Nat.le_of_ble_eq_true rfl) dL_law_1269 ⟨by show _ ≤ 600000; omega, by show _ ≤ 7302250; omega⟩ (fun H locs hP hD hS => ?_)
    refine lv_pop hx hb dL_law_1272 rfl ?_
    refine lv_goto (tgt := 1544) hx hb dL_law_1273 (by decide) ?_
    exact kk _ _ H locs ls _ _ hI2 hJ2 trivial (by omega) (by omega) hP hD hS (lv_sub hl [0, 1, 2, 3] rfl)
  · refine lv_aload_n hx hb dL_law_1243 rfl (lv_at hl 1 rfl) ?_
    refine lv_aload_n hx hb dL_law_1244 rfl (lv_at hl 0 rfl) ?_
    refine lv_iload_n hx hb dL_law_1245 rfl (lv_at hl 3 rfl) ?_
    refine lv_iconst (v := (1 : Int32)) hx hb dL_law_1246 (by decide) ?_
    refine lv_iadd hx hb dL_law_1247 ?_
    refine va_sld hx hb hX hbl hbA hS (zl_in h3 hL (by decide)) dL_law_1248 ?_
    refine lv_aload_n hx hb dL_law_1249 rfl (lv_at hl 0 rfl) ?_
    refine lv_iload_n hx hb dL_law_1250 rfl (lv_at hl 3 rfl) ?_
    refine lv_iconst (v := (2 : Int32)) hx hb dL_law_1251 (by decide) ?_
    refine lv_iadd hx hb dL_law_1252 ?_
    refine va_sld hx hb hX hbl hbA hS (zl_in h3 hL (by decide)) dL_law_1253 ?_
    obtain ⟨R1, hf1, hI2, hM1⟩ := K_X11_keep_5 l D cs k H.size ad z hI (xs (x3 + (1 : Int32)).toNatClampNeg) (xs (x3 + (2 : Int32)).toNatClampNeg) hp0
    refine zk_LXi (As := [.int (xs (x3 + (1 : Int32)).toNatClampNeg), .int (xs (x3 + (2 : Int32)).toNatClampNeg)]) (rest := []) hE hO hM1 ⟨hx, hb, hml, hown, ht⟩ (cwV 2 ht gl_143 rfl rfl rfl (by decide +kernel) ⟨Nat.le_of_ble_eq_true rfl, Nat.le_of_ble_eq_true rfl⟩) (va_recv hK hP (ci := 11) (q0 := 44) rfl rfl) hP hD hS hK hA rfl hl.1 (Nat.le_of_ble_eq_true rfl) dL_law_1254 ⟨by show _ ≤ 600000; omega, by show _ ≤ 7302250; omega⟩ (fun H locs hP hD hS => ?_)
    refine lv_pop hx hb dL_law_1257 rfl ?_
    refine lv_aload_n hx hb dL_law_1258 rfl (lv_at hl 2 rfl) ?_
    refine lv_aload_n hx hb dL_law_1259 rfl (lv_at hl 0 rfl) ?_
    refine lv_iload_n hx hb dL_law_1260 rfl (lv_at hl 3 rfl) ?_
    refine lv_iconst (v := (1 : Int32)) hx hb dL_law_1261 (by decide) ?_
    refine lv_iadd hx hb dL_law_1262 ?_
    refine va_sld hx hb hX hbl hbA hS (zl_in h3 hL (by decide)) dL_law_1263 ?_
    refine lv_aload_n hx hb dL_law_1264 rfl (lv_at hl 0 rfl) ?_
    refine lv_iload_n hx hb dL_law_1265 rfl (lv_at hl 3 rfl) ?_
    refine lv_iconst (v := (2 : Int32)) hx hb dL_law_1266 (by decide) ?_
    refine lv_iadd hx hb dL_law_1267 ?_
    refine va_sld hx hb hX hbl hbA hS (zl_in h3 hL (by decide)) dL_law_1268 ?_
    obtain ⟨R2, hf2, hJ2, hM2⟩ := K_X12_keep l D cs k H.size am w hJ (xs (x3 + (1 : Int32)).toNatClampNeg) (xs (x3 + (2 : Int32)).toNatClampNeg)
    refine zk_LMi (As := [.int (xs (x3 + (1 : Int32)).toNatClampNeg), .int (xs (x3 + (2 : Int32)).toNatClampNeg)]) (rest := []) hE hO hM2 ⟨hx, hb, hml, hown, ht⟩ (cwV 2 ht gl_146 rfl rfl rfl (by decide +kernel) ⟨Nat.le_of_ble_eq_true rfl, Nat.le_of_ble_eq_true rfl⟩) (va_recv hK hP (ci := 12) (q0 := 0) rfl rfl) hP hD hS hK hA rfl hl.1 (Nat.le_of_ble_eq_true rfl) dL_law_1269 ⟨by show _ ≤ 600000; omega, by show _ ≤ 7302250; omega⟩ (fun H locs hP hD hS => ?_)
    refine lv_pop hx hb dL_law_1272 rfl ?_
    refine lv_goto (tgt := 1544) hx hb dL_law_1273 (by decide) ?_
    exact kk _ _ H locs ls _ _ hI2 hJ2 trivial (by omega) (by omega) hP hD hS (lv_sub hl [0, 1, 2, 3] rfl)
theorem dL_law_1276 : decode cL_law 1276 = .ok (.aload_n 1, 1) := by decide +kernel
theorem dL_law_1277 : decode cL_law 1277 = .ok (.aload_n 0, 1) := by decide +kernel
theorem dL_law_1278 : decode cL_law 1278 = .ok (.iload_n 3, 1) := by decide +kernel
theorem dL_law_1279 : decode cL_law 1279 = .ok (.iconst 1, 1) := by decide +kernel
theorem dL_law_1280 : decode cL_law 1280 = .ok (.iadd, 1) := by decide +kernel
theorem dL_law_1281 : decode cL_law 1281 = .ok (.iaload, 1) := by decide +kernel
theorem dL_law_1282 : decode cL_law 1282 = .ok (.aload_n 0, 1) := by decide +kernel
theorem dL_law_1283 : decode cL_law 1283 = .ok (.iload_n 3, 1) := by decide +kernel
theorem dL_law_1284 : decode cL_law 1284 = .ok (.iconst 2, 1) := by decide +kernel
theorem dL_law_1285 : decode cL_law 1285 = .ok (.iadd, 1) := by decide +kernel
theorem dL_law_1286 : decode cL_law 1286 = .ok (.iaload, 1) := by decide +kernel
theorem dL_law_1287 : decode cL_law 1287 = .ok (.aload_n 0, 1) := by decide +kernel
theorem dL_law_1288 : decode cL_law 1288 = .ok (.iload_n 3, 1) := by decide +kernel
theorem dL_law_1289 : decode cL_law 1289 = .ok (.iconst 3, 1) := by decide +kernel
theorem dL_law_1290 : decode cL_law 1290 = .ok (.iadd, 1) := by decide +kernel
theorem dL_law_1291 : decode cL_law 1291 = .ok (.iaload, 1) := by decide +kernel
theorem dL_law_1292 : decode cL_law 1292 = .ok (.invokevirtual 147, 3) := by decide +kernel
theorem dL_law_1295 : decode cL_law 1295 = .ok (.aload_n 2, 1) := by decide +kernel
theorem dL_law_1296 : decode cL_law 1296 = .ok (.aload_n 0, 1) := by decide +kernel
theorem dL_law_1297 : decode cL_law 1297 = .ok (.iload_n 3, 1) := by decide +kernel
theorem dL_law_1298 : decode cL_law 1298 = .ok (.iconst 1, 1) := by decide +kernel
theorem dL_law_1299 : decode cL_law 1299 = .ok (.iadd, 1) := by decide +kernel
theorem dL_law_1300 : decode cL_law 1300 = .ok (.iaload, 1) := by decide +kernel
theorem dL_law_1301 : decode cL_law 1301 = .ok (.aload_n 0, 1) := by decide +kernel
theorem dL_law_1302 : decode cL_law 1302 = .ok (.iload_n 3, 1) := by decide +kernel
theorem dL_law_1303 : decode cL_law 1303 = .ok (.iconst 2, 1) := by decide +kernel
theorem dL_law_1304 : decode cL_law 1304 = .ok (.iadd, 1) := by decide +kernel
theorem dL_law_1305 : decode cL_law 1305 = .ok (.iaload, 1) := by decide +kernel
theorem dL_law_1306 : decode cL_law 1306 = .ok (.aload_n 0, 1) := by decide +kernel
theorem dL_law_1307 : decode cL_law 1307 = .ok (.iload_n 3, 1) := by decide +kernel
theorem dL_law_1308 : decode cL_law 1308 = .ok (.iconst 3, 1) := by decide +kernel
theorem dL_law_1309 : decode cL_law 1309 = .ok (.iadd, 1) := by decide +kernel
theorem dL_law_1310 : decode cL_law 1310 = .ok (.iaload, 1) := by decide +kernel
theorem dL_law_1311 : decode cL_law 1311 = .ok (.invokevirtual 150, 3) := by decide +kernel
theorem dL_law_1314 : decode cL_law 1314 = .ok (.if_icmp .eq 230, 3) := by decide +kernel
set_option maxHeartbeats 8000000 in
set_option maxRecDepth 100000 in
theorem law_case_32 {p : Program} {l : Launch} {e : Env} {s : State} {m : MethodId} {below : List Frame} {meth : Method} {c : Code} {b L : Nat} {xs : Nat → Int32} {D : va_G} {cs : Nat → ClassId} {k : (Nat → Nat) × (Nat → Nat)} {ad am : Nat → Nat} (C0 : lw_At p s m meth c b L xs) (hK : va_K D classes (zT cs) s) (hO : zO s) (hE : zE k (fun q : Nat => s.heap.size ≤ q) s) (hL : L ≤ 3072) (x3 : Int32) (h3 : 0 ≤ x3.toInt ∧ x3.toInt + 6 ≤ (L : Int)) (z : ZT) (w : MT) (hI : IX ad cs z) (hJ : IM w) (hr : RL z w) (cells slots : Nat) (hc : cells + 2 ≤ 600000) (hs : slots + 122 ≤ 7302250) (H : Heap) (locs : List Loc) (ls : Array Slot) (hP : va_P D classes (WM am cs w ++ WX ad cs z) H) (hD : va_D (fun q : Nat => s.heap.size ≤ q) (WM am cs w ++ WX ad cs z)) (hS : va_S (fun q : Nat => s.heap.size ≤ q) s.heap H locs) (hl : lv_has ls 4 [(0, .ref b), (1, .ref (ad 0)), (2, .ref (am 41)), (3, .int x3)]) (kk : ∀ (z2 : ZT) (w2 : MT) (H : Heap) (locs : List Loc) (ls : Array Slot) (cells2 slots2 : Nat), IX ad cs z2 → IM w2 → RL z2 w2 → cells2 ≤ cells + 2 → slots2 ≤ slots + 122 → va_P D classes (WM am cs w2 ++ WX ad cs z2) H → va_D (fun q : Nat => s.heap.size ≤ q) (WM am cs w2 ++ WX ad cs z2) → va_S (fun q : Nat => s.heap.size ≤ q) s.heap H locs → lv_has ls 4 [(0, .ref b), (1, .ref (ad 0)), (2, .ref (am 41)), (3, .int x3)] → W p l e room_1 s m #[Value.ref b] below meth c H locs cells2 slots2 (lw_Z below #[Value.ref b] s) (F0 m 1544 ls [])) : W p l e room_1 s m #[Value.ref b] below meth c H locs cells slots (lw_Z below #[Value.ref b] s) (F0 m 1276 ls []) := by
  obtain ⟨hx, hb, hret, hml, hown, hts, hX, hbl, hlocks, hgv⟩ := id C0
  have hA : ∀ q : Nat, s.heap.size ≤ q → (fun q : Nat => s.heap.size ≤ q) q := fun _ h => h
  have hbA : ¬ (fun q : Nat => s.heap.size ≤ q) b := Nat.not_le.mpr hbl
  have ht : ∀ w ∈ zW, w.before #[Value.ref b] s = true := fun w hw => hts w (List.mem_filter.mp hw).1
  obtain ⟨j0, hj0, hp0⟩ := zk_pl (xs (x3 + (1 : Int32)).toNatClampNeg)
  rcases (show j0 = 0 ∨ j0 = 1 ∨ j0 = 2 ∨ j0 = 3 ∨ j0 = 4 ∨ j0 = 5 by omega) with rfl | rfl | rfl | rfl | rfl | rfl
  · refine lv_aload_n hx hb dL_law_1276 rfl (lv_at hl 1 rfl) ?_
    refine lv_aload_n hx hb dL_law_1277 rfl (lv_at hl 0 rfl) ?_
    refine lv_iload_n hx hb dL_law_1278 rfl (lv_at hl 3 rfl) ?_
    refine lv_iconst (v := (1 : Int32)) hx hb dL_law_1279 (by decide) ?_
    refine lv_iadd hx hb dL_law_1280 ?_
    refine va_sld hx hb hX hbl hbA hS (zl_in h3 hL (by decide)) dL_law_1281 ?_
    refine lv_aload_n hx hb dL_law_1282 rfl (lv_at hl 0 rfl) ?_
    refine lv_iload_n hx hb dL_law_1283 rfl (lv_at hl 3 rfl) ?_
    refine lv_iconst (v := (2 : Int32)) hx hb dL_law_1284 (by decide) ?_
    refine lv_iadd hx hb dL_law_1285 ?_
    refine va_sld hx hb hX hbl hbA hS (zl_in h3 hL (by decide)) dL_law_1286 ?_
    refine lv_aload_n hx hb dL_law_1287 rfl (lv_at hl 0 rfl) ?_
    refine lv_iload_n hx hb dL_law_1288 rfl (lv_at hl 3 rfl) ?_
    refine lv_iconst (v := (3 : Int32)) hx hb dL_law_1289 (by decide) ?_
    refine lv_iadd hx hb dL_law_1290 ?_
    refine va_sld hx hb hX hbl hbA hS (zl_in h3 hL (by decide)) dL_law_1291 ?_
    obtain ⟨R1, hf1, hI2, hM1⟩ := K_X11_row_0 l D cs k H.size ad z hI (xs (x3 + (1 : Int32)).toNatClampNeg) (xs (x3 + (2 : Int32)).toNatClampNeg) (xs (x3 + (3 : Int32)).toNatClampNeg) hp0
    refine zk_LXi (As := [.int (xs (x3 + (1 : Int32)).toNatClampNeg), .int (xs (x3 + (2 : Int32)).toNatClampNeg), .int (xs (x3 + (3 : Int32)).toNatClampNeg)]) (rest := []) hE hO hM1 ⟨hx, hb, hml, hown, ht⟩ (cwV 3 ht gl_147 rfl rfl rfl (by decide +kernel) ⟨Nat.le_of_ble_eq_true rfl, Nat.le_of_ble_eq_true rfl⟩) (va_recv hK hP (ci := 11) (q0 := 44) rfl rfl) hP hD hS hK hA rfl hl.1 (Nat.le_of_ble_eq_true rfl) dL_law_1292 ⟨by show _ ≤ 600000; omega, by show _ ≤ 7302250; omega⟩ (fun H locs hP hD hS => ?_)
    refine lv_aload_n hx hb dL_law_1295 rfl (lv_at hl 2 rfl) ?_
    refine lv_aload_n hx hb dL_law_1296 rfl (lv_at hl 0 rfl) ?_
    refine lv_iload_n hx hb dL_law_1297 rfl (lv_at hl 3 rfl) ?_
    refine lv_iconst (v := (1 : Int32)) hx hb dL_law_1298 (by decide) ?_
    refine lv_iadd hx hb dL_law_1299 ?_
    refine va_sld hx hb hX hbl hbA hS (zl_in h3 hL (by decide)) dL_law_1300 ?_
    refine lv_aload_n hx hb dL_law_1301 rfl (lv_at hl 0 rfl) ?_
    refine lv_iload_n hx hb dL_law_1302 rfl (lv_at hl 3 rfl) ?_
    refine lv_iconst (v := (2 : Int32)) hx hb dL_law_1303 (by decide) ?_
    refine lv_iadd hx hb dL_law_1304 ?_
    refine va_sld hx hb hX hbl hbA hS (zl_in h3 hL (by decide)) dL_law_1305 ?_
    refine lv_aload_n hx hb dL_law_1306 rfl (lv_at hl 0 rfl) ?_
    refine lv_iload_n hx hb dL_law_1307 rfl (lv_at hl 3 rfl) ?_
    refine lv_iconst (v := (3 : Int32)) hx hb dL_law_1308 (by decide) ?_
    refine lv_iadd hx hb dL_law_1309 ?_
    refine va_sld hx hb hX hbl hbA hS (zl_in h3 hL (by decide)) dL_law_1310 ?_
    obtain ⟨R2, hf2, hJ2, hM2⟩ := K_X12_row l D cs k H.size am w hJ (xs (x3 + (1 : Int32)).toNatClampNeg) (xs (x3 + (2 : Int32)).toNatClampNeg) (xs (x3 + (3 : Int32)).toNatClampNeg)
    have EQ : R1.1 = R2.1 := (pr11 hf1).trans (pr12 hf2).symm
    refine zk_LMi (As := [.int (xs (x3 + (1 : Int32)).toNatClampNeg), .int (xs (x3 + (2 : Int32)).toNatClampNeg), .int (xs (x3 + (3 : Int32)).toNatClampNeg)]) (rest := [.int R1.1]) hE hO hM2 ⟨hx, hb, hml, hown, ht⟩ (cwV 3 ht gl_150 rfl rfl rfl (by decide +kernel) ⟨Nat.le_of_ble_eq_true rfl, Nat.le_of_ble_eq_true rfl⟩) (va_recv hK hP (ci := 12) (q0 := 0) rfl rfl) hP hD hS hK hA rfl hl.1 (Nat.le_of_ble_eq_true rfl) dL_law_1311 ⟨by show _ ≤ 600000; omega, by show _ ≤ 7302250; omega⟩ (fun H locs hP hD hS => ?_)
    refine lv_icmp_eq (tgt := 1544) hx hb dL_law_1314 (by decide) (fun cc => ?_) (fun cc => absurd EQ cc)
    exact kk _ _ H locs ls _ _ hI2 hJ2 trivial (by omega) (by omega) hP hD hS (lv_sub hl [0, 1, 2, 3] rfl)
  · refine lv_aload_n hx hb dL_law_1276 rfl (lv_at hl 1 rfl) ?_
    refine lv_aload_n hx hb dL_law_1277 rfl (lv_at hl 0 rfl) ?_
    refine lv_iload_n hx hb dL_law_1278 rfl (lv_at hl 3 rfl) ?_
    refine lv_iconst (v := (1 : Int32)) hx hb dL_law_1279 (by decide) ?_
    refine lv_iadd hx hb dL_law_1280 ?_
    refine va_sld hx hb hX hbl hbA hS (zl_in h3 hL (by decide)) dL_law_1281 ?_
    refine lv_aload_n hx hb dL_law_1282 rfl (lv_at hl 0 rfl) ?_
    refine lv_iload_n hx hb dL_law_1283 rfl (lv_at hl 3 rfl) ?_
    refine lv_iconst (v := (2 : Int32)) hx hb dL_law_1284 (by decide) ?_
    refine lv_iadd hx hb dL_law_1285 ?_
    refine va_sld hx hb hX hbl hbA hS (zl_in h3 hL (by decide)) dL_law_1286 ?_
    refine lv_aload_n hx hb dL_law_1287 rfl (lv_at hl 0 rfl) ?_
    refine lv_iload_n hx hb dL_law_1288 rfl (lv_at hl 3 rfl) ?_
    refine lv_iconst (v := (3 : Int32)) hx hb dL_law_1289 (by decide) ?_
    refine lv_iadd hx hb dL_law_1290 ?_
    refine va_sld hx hb hX hbl hbA hS (zl_in h3 hL (by decide)) dL_law_1291 ?_
    obtain ⟨R1, hf1, hI2, hM1⟩ := K_X11_row_1 l D cs k H.size ad z hI (xs (x3 + (1 : Int32)).toNatClampNeg) (xs (x3 + (2 : Int32)).toNatClampNeg) (xs (x3 + (3 : Int32)).toNatClampNeg) hp0
    refine zk_LXi (As := [.int (xs (x3 + (1 : Int32)).toNatClampNeg), .int (xs (x3 + (2 : Int32)).toNatClampNeg), .int (xs (x3 + (3 : Int32)).toNatClampNeg)]) (rest := []) hE hO hM1 ⟨hx, hb, hml, hown, ht⟩ (cwV 3 ht gl_147 rfl rfl rfl (by decide +kernel) ⟨Nat.le_of_ble_eq_true rfl, Nat.le_of_ble_eq_true rfl⟩) (va_recv hK hP (ci := 11) (q0 := 44) rfl rfl) hP hD hS hK hA rfl hl.1 (Nat.le_of_ble_eq_true rfl) dL_law_1292 ⟨by show _ ≤ 600000; omega, by show _ ≤ 7302250; omega⟩ (fun H locs hP hD hS => ?_)
    refine lv_aload_n hx hb dL_law_1295 rfl (lv_at hl 2 rfl) ?_
    refine lv_aload_n hx hb dL_law_1296 rfl (lv_at hl 0 rfl) ?_
    refine lv_iload_n hx hb dL_law_1297 rfl (lv_at hl 3 rfl) ?_
    refine lv_iconst (v := (1 : Int32)) hx hb dL_law_1298 (by decide) ?_
    refine lv_iadd hx hb dL_law_1299 ?_
    refine va_sld hx hb hX hbl hbA hS (zl_in h3 hL (by decide)) dL_law_1300 ?_
    refine lv_aload_n hx hb dL_law_1301 rfl (lv_at hl 0 rfl) ?_
    refine lv_iload_n hx hb dL_law_1302 rfl (lv_at hl 3 rfl) ?_
    refine lv_iconst (v := (2 : Int32)) hx hb dL_law_1303 (by decide) ?_
    refine lv_iadd hx hb dL_law_1304 ?_
    refine va_sld hx hb hX hbl hbA hS (zl_in h3 hL (by decide)) dL_law_1305 ?_
    refine lv_aload_n hx hb dL_law_1306 rfl (lv_at hl 0 rfl) ?_
    refine lv_iload_n hx hb dL_law_1307 rfl (lv_at hl 3 rfl) ?_
    refine lv_iconst (v := (3 : Int32)) hx hb dL_law_1308 (by decide) ?_
    refine lv_iadd hx hb dL_law_1309 ?_
    refine va_sld hx hb hX hbl hbA hS (zl_in h3 hL (by decide)) dL_law_1310 ?_
    obtain ⟨R2, hf2, hJ2, hM2⟩ := K_X12_row l D cs k H.size am w hJ (xs (x3 + (1 : Int32)).toNatClampNeg) (xs (x3 + (2 : Int32)).toNatClampNeg) (xs (x3 + (3 : Int32)).toNatClampNeg)
    have EQ : R1.1 = R2.1 := (pr11 hf1).trans (pr12 hf2).symm
    refine zk_LMi (As := [.int (xs (x3 + (1 : Int32)).toNatClampNeg), .int (xs (x3 + (2 : Int32)).toNatClampNeg), .int (xs (x3 + (3 : Int32)).toNatClampNeg)]) (rest := [.int R1.1]) hE hO hM2 ⟨hx, hb, hml, hown, ht⟩ (cwV 3 ht gl_150 rfl rfl rfl (by decide +kernel) ⟨Nat.le_of_ble_eq_true rfl, Nat.le_of_ble_eq_true rfl⟩) (va_recv hK hP (ci := 12) (q0 := 0) rfl rfl) hP hD hS hK hA rfl hl.1 (Nat.le_of_ble_eq_true rfl) dL_law_1311 ⟨by show _ ≤ 600000; omega, by show _ ≤ 7302250; omega⟩ (fun H locs hP hD hS => ?_)
    refine lv_icmp_eq (tgt := 1544) hx hb dL_law_1314 (by decide) (fun cc => ?_) (fun cc => absurd EQ cc)
    exact kk _ _ H locs ls _ _ hI2 hJ2 trivial (by omega) (by omega) hP hD hS (lv_sub hl [0, 1, 2, 3] rfl)
  · refine lv_aload_n hx hb dL_law_1276 rfl (lv_at hl 1 rfl) ?_
    refine lv_aload_n hx hb dL_law_1277 rfl (lv_at hl 0 rfl) ?_
    refine lv_iload_n hx hb dL_law_1278 rfl (lv_at hl 3 rfl) ?_
    refine lv_iconst (v := (1 : Int32)) hx hb dL_law_1279 (by decide) ?_
    refine lv_iadd hx hb dL_law_1280 ?_
    refine va_sld hx hb hX hbl hbA hS (zl_in h3 hL (by decide)) dL_law_1281 ?_
    refine lv_aload_n hx hb dL_law_1282 rfl (lv_at hl 0 rfl) ?_
    refine lv_iload_n hx hb dL_law_1283 rfl (lv_at hl 3 rfl) ?_
    refine lv_iconst (v := (2 : Int32)) hx hb dL_law_1284 (by decide) ?_
    refine lv_iadd hx hb dL_law_1285 ?_
    refine va_sld hx hb hX hbl hbA hS (zl_in h3 hL (by decide)) dL_law_1286 ?_
    refine lv_aload_n hx hb dL_law_1287 rfl (lv_at hl 0 rfl) ?_
    refine lv_iload_n hx hb dL_law_1288 rfl (lv_at hl 3 rfl) ?_
    refine lv_iconst (v := (3 : Int32)) hx hb dL_law_1289 (by decide) ?_
    refine lv_iadd hx hb dL_law_1290 ?_
    refine va_sld hx hb hX hbl hbA hS (zl_in h3 hL (by decide)) dL_law_1291 ?_
    obtain ⟨R1, hf1, hI2, hM1⟩ := K_X11_row_2 l D cs k H.size ad z hI (xs (x3 + (1 : Int32)).toNatClampNeg) (xs (x3 + (2 : Int32)).toNatClampNeg) (xs (x3 + (3 : Int32)).toNatClampNeg) hp0
    refine zk_LXi (As := [.int (xs (x3 + (1 : Int32)).toNatClampNeg), .int (xs (x3 + (2 : Int32)).toNatClampNeg), .int (xs (x3 + (3 : Int32)).toNatClampNeg)]) (rest := []) hE hO hM1 ⟨hx, hb, hml, hown, ht⟩ (cwV 3 ht gl_147 rfl rfl rfl (by decide +kernel) ⟨Nat.le_of_ble_eq_true rfl, Nat.le_of_ble_eq_true rfl⟩) (va_recv hK hP (ci := 11) (q0 := 44) rfl rfl) hP hD hS hK hA rfl hl.1 (Nat.le_of_ble_eq_true rfl) dL_law_1292 ⟨by show _ ≤ 600000; omega, by show _ ≤ 7302250; omega⟩ (fun H locs hP hD hS => ?_)
    refine lv_aload_n hx hb dL_law_1295 rfl (lv_at hl 2 rfl) ?_
    refine lv_aload_n hx hb dL_law_1296 rfl (lv_at hl 0 rfl) ?_
    refine lv_iload_n hx hb dL_law_1297 rfl (lv_at hl 3 rfl) ?_
    refine lv_iconst (v := (1 : Int32)) hx hb dL_law_1298 (by decide) ?_
    refine lv_iadd hx hb dL_law_1299 ?_
    refine va_sld hx hb hX hbl hbA hS (zl_in h3 hL (by decide)) dL_law_1300 ?_
    refine lv_aload_n hx hb dL_law_1301 rfl (lv_at hl 0 rfl) ?_
    refine lv_iload_n hx hb dL_law_1302 rfl (lv_at hl 3 rfl) ?_
    refine lv_iconst (v := (2 : Int32)) hx hb dL_law_1303 (by decide) ?_
    refine lv_iadd hx hb dL_law_1304 ?_
    refine va_sld hx hb hX hbl hbA hS (zl_in h3 hL (by decide)) dL_law_1305 ?_
    refine lv_aload_n hx hb dL_law_1306 rfl (lv_at hl 0 rfl) ?_
    refine lv_iload_n hx hb dL_law_1307 rfl (lv_at hl 3 rfl) ?_
    refine lv_iconst (v := (3 : Int32)) hx hb dL_law_1308 (by decide) ?_
    refine lv_iadd hx hb dL_law_1309 ?_
    refine va_sld hx hb hX hbl hbA hS (zl_in h3 hL (by decide)) dL_law_1310 ?_
    obtain ⟨R2, hf2, hJ2, hM2⟩ := K_X12_row l D cs k H.size am w hJ (xs (x3 + (1 : Int32)).toNatClampNeg) (xs (x3 + (2 : Int32)).toNatClampNeg) (xs (x3 + (3 : Int32)).toNatClampNeg)
    have EQ : R1.1 = R2.1 := (pr11 hf1).trans (pr12 hf2).symm
    refine zk_LMi (As := [.int (xs (x3 + (1 : Int32)).toNatClampNeg), .int (xs (x3 + (2 : Int32)).toNatClampNeg), .int (xs (x3 + (3 : Int32)).toNatClampNeg)]) (rest := [.int R1.1]) hE hO hM2 ⟨hx, hb, hml, hown, ht⟩ (cwV 3 ht gl_150 rfl rfl rfl (by decide +kernel) ⟨Nat.le_of_ble_eq_true rfl, Nat.le_of_ble_eq_true rfl⟩) (va_recv hK hP (ci := 12) (q0 := 0) rfl rfl) hP hD hS hK hA rfl hl.1 (Nat.le_of_ble_eq_true rfl) dL_law_1311 ⟨by show _ ≤ 600000; omega, by show _ ≤ 7302250; omega⟩ (fun H locs hP hD hS => ?_)
    refine lv_icmp_eq (tgt := 1544) hx hb dL_law_1314 (by decide) (fun cc => ?_) (fun cc => absurd EQ cc)
    exact kk _ _ H locs ls _ _ hI2 hJ2 trivial (by omega) (by omega) hP hD hS (lv_sub hl [0, 1, 2, 3] rfl)
  · refine lv_aload_n hx hb dL_law_1276 rfl (lv_at hl 1 rfl) ?_
    refine lv_aload_n hx hb dL_law_1277 rfl (lv_at hl 0 rfl) ?_
    refine lv_iload_n hx hb dL_law_1278 rfl (lv_at hl 3 rfl) ?_
    refine lv_iconst (v := (1 : Int32)) hx hb dL_law_1279 (by decide) ?_
    refine lv_iadd hx hb dL_law_1280 ?_
    refine va_sld hx hb hX hbl hbA hS (zl_in h3 hL (by decide)) dL_law_1281 ?_
    refine lv_aload_n hx hb dL_law_1282 rfl (lv_at hl 0 rfl) ?_
    refine lv_iload_n hx hb dL_law_1283 rfl (lv_at hl 3 rfl) ?_
    refine lv_iconst (v := (2 : Int32)) hx hb dL_law_1284 (by decide) ?_
    refine lv_iadd hx hb dL_law_1285 ?_
    refine va_sld hx hb hX hbl hbA hS (zl_in h3 hL (by decide)) dL_law_1286 ?_
    refine lv_aload_n hx hb dL_law_1287 rfl (lv_at hl 0 rfl) ?_
    refine lv_iload_n hx hb dL_law_1288 rfl (lv_at hl 3 rfl) ?_
    refine lv_iconst (v := (3 : Int32)) hx hb dL_law_1289 (by decide) ?_
    refine lv_iadd hx hb dL_law_1290 ?_
    refine va_sld hx hb hX hbl hbA hS (zl_in h3 hL (by decide)) dL_law_1291 ?_
    obtain ⟨R1, hf1, hI2, hM1⟩ := K_X11_row_3 l D cs k H.size ad z hI (xs (x3 + (1 : Int32)).toNatClampNeg) (xs (x3 + (2 : Int32)).toNatClampNeg) (xs (x3 + (3 : Int32)).toNatClampNeg) hp0
    refine zk_LXi (As := [.int (xs (x3 + (1 : Int32)).toNatClampNeg), .int (xs (x3 + (2 : Int32)).toNatClampNeg), .int (xs (x3 + (3 : Int32)).toNatClampNeg)]) (rest := []) hE hO hM1 ⟨hx, hb, hml, hown, ht⟩ (cwV 3 ht gl_147 rfl rfl rfl (by decide +kernel) ⟨Nat.le_of_ble_eq_true rfl, Nat.le_of_ble_eq_true rfl⟩) (va_recv hK hP (ci := 11) (q0 := 44) rfl rfl) hP hD hS hK hA rfl hl.1 (Nat.le_of_ble_eq_true rfl) dL_law_1292 ⟨by show _ ≤ 600000; omega, by show _ ≤ 7302250; omega⟩ (fun H locs hP hD hS => ?_)
    refine lv_aload_n hx hb dL_law_1295 rfl (lv_at hl 2 rfl) ?_
    refine lv_aload_n hx hb dL_law_1296 rfl (lv_at hl 0 rfl) ?_
    refine lv_iload_n hx hb dL_law_1297 rfl (lv_at hl 3 rfl) ?_
    refine lv_iconst (v := (1 : Int32)) hx hb dL_law_1298 (by decide) ?_
    refine lv_iadd hx hb dL_law_1299 ?_
    refine va_sld hx hb hX hbl hbA hS (zl_in h3 hL (by decide)) dL_law_1300 ?_
    refine lv_aload_n hx hb dL_law_1301 rfl (lv_at hl 0 rfl) ?_
    refine lv_iload_n hx hb dL_law_1302 rfl (lv_at hl 3 rfl) ?_
    refine lv_iconst (v := (2 : Int32)) hx hb dL_law_1303 (by decide) ?_
    refine lv_iadd hx hb dL_law_1304 ?_
    refine va_sld hx hb hX hbl hbA hS (zl_in h3 hL (by decide)) dL_law_1305 ?_
    refine lv_aload_n hx hb dL_law_1306 rfl (lv_at hl 0 rfl) ?_
    refine lv_iload_n hx hb dL_law_1307 rfl (lv_at hl 3 rfl) ?_
    refine lv_iconst (v := (3 : Int32)) hx hb dL_law_1308 (by decide) ?_
    refine lv_iadd hx hb dL_law_1309 ?_
    refine va_sld hx hb hX hbl hbA hS (zl_in h3 hL (by decide)) dL_law_1310 ?_
    obtain ⟨R2, hf2, hJ2, hM2⟩ := K_X12_row l D cs k H.size am w hJ (xs (x3 + (1 : Int32)).toNatClampNeg) (xs (x3 + (2 : Int32)).toNatClampNeg) (xs (x3 + (3 : Int32)).toNatClampNeg)
    have EQ : R1.1 = R2.1 := (pr11 hf1).trans (pr12 hf2).symm
    refine zk_LMi (As := [.int (xs (x3 + (1 : Int32)).toNatClampNeg), .int (xs (x3 + (2 : Int32)).toNatClampNeg), .int (xs (x3 + (3 : Int32)).toNatClampNeg)]) (rest := [.int R1.1]) hE hO hM2 ⟨hx, hb, hml, hown, ht⟩ (cwV 3 ht gl_150 rfl rfl rfl (by decide +kernel) ⟨Nat.le_of_ble_eq_true rfl, Nat.le_of_ble_eq_true rfl⟩) (va_recv hK hP (ci := 12) (q0 := 0) rfl rfl) hP hD hS hK hA rfl hl.1 (Nat.le_of_ble_eq_true rfl) dL_law_1311 ⟨by show _ ≤ 600000; omega, by show _ ≤ 7302250; omega⟩ (fun H locs hP hD hS => ?_)
    refine lv_icmp_eq (tgt := 1544) hx hb dL_law_1314 (by decide) (fun cc => ?_) (fun cc => absurd EQ cc)
    exact kk _ _ H locs ls _ _ hI2 hJ2 trivial (by omega) (by omega) hP hD hS (lv_sub hl [0, 1, 2, 3] rfl)
  · refine lv_aload_n hx hb dL_law_1276 rfl (lv_at hl 1 rfl) ?_
    refine lv_aload_n hx hb dL_law_1277 rfl (lv_at hl 0 rfl) ?_
    refine lv_iload_n hx hb dL_law_1278 rfl (lv_at hl 3 rfl) ?_
    refine lv_iconst (v := (1 : Int32)) hx hb dL_law_1279 (by decide) ?_
    refine lv_iadd hx hb dL_law_1280 ?_
    refine va_sld hx hb hX hbl hbA hS (zl_in h3 hL (by decide)) dL_law_1281 ?_
    refine lv_aload_n hx hb dL_law_1282 rfl (lv_at hl 0 rfl) ?_
    refine lv_iload_n hx hb dL_law_1283 rfl (lv_at hl 3 rfl) ?_
    refine lv_iconst (v := (2 : Int32)) hx hb dL_law_1284 (by decide) ?_
    refine lv_iadd hx hb dL_law_1285 ?_
    refine va_sld hx hb hX hbl hbA hS (zl_in h3 hL (by decide)) dL_law_1286 ?_
    refine lv_aload_n hx hb dL_law_1287 rfl (lv_at hl 0 rfl) ?_
    refine lv_iload_n hx hb dL_law_1288 rfl (lv_at hl 3 rfl) ?_
    refine lv_iconst (v := (3 : Int32)) hx hb dL_law_1289 (by decide) ?_
    refine lv_iadd hx hb dL_law_1290 ?_
    refine va_sld hx hb hX hbl hbA hS (zl_in h3 hL (by decide)) dL_law_1291 ?_
    obtain ⟨R1, hf1, hI2, hM1⟩ := K_X11_row_4 l D cs k H.size ad z hI (xs (x3 + (1 : Int32)).toNatClampNeg) (xs (x3 + (2 : Int32)).toNatClampNeg) (xs (x3 + (3 : Int32)).toNatClampNeg) hp0
    refine zk_LXi (As := [.int (xs (x3 + (1 : Int32)).toNatClampNeg), .int (xs (x3 + (2 : Int32)).toNatClampNeg), .int (xs (x3 + (3 : Int32)).toNatClampNeg)]) (rest := []) hE hO hM1 ⟨hx, hb, hml, hown, ht⟩ (cwV 3 ht gl_147 rfl rfl rfl (by decide +kernel) ⟨Nat.le_of_ble_eq_true rfl, Nat.le_of_ble_eq_true rfl⟩) (va_recv hK hP (ci := 11) (q0 := 44) rfl rfl) hP hD hS hK hA rfl hl.1 (Nat.le_of_ble_eq_true rfl) dL_law_1292 ⟨by show _ ≤ 600000; omega, by show _ ≤ 7302250; omega⟩ (fun H locs hP hD hS => ?_)
    refine lv_aload_n hx hb dL_law_1295 rfl (lv_at hl 2 rfl) ?_
    refine lv_aload_n hx hb dL_law_1296 rfl (lv_at hl 0 rfl) ?_
    refine lv_iload_n hx hb dL_law_1297 rfl (lv_at hl 3 rfl) ?_
    refine lv_iconst (v := (1 : Int32)) hx hb dL_law_1298 (by decide) ?_
    refine lv_iadd hx hb dL_law_1299 ?_
    refine va_sld hx hb hX hbl hbA hS (zl_in h3 hL (by decide)) dL_law_1300 ?_
    refine lv_aload_n hx hb dL_law_1301 rfl (lv_at hl 0 rfl) ?_
    refine lv_iload_n hx hb dL_law_1302 rfl (lv_at hl 3 rfl) ?_
    refine lv_iconst (v := (2 : Int32)) hx hb dL_law_1303 (by decide) ?_
    refine lv_iadd hx hb dL_law_1304 ?_
    refine va_sld hx hb hX hbl hbA hS (zl_in h3 hL (by decide)) dL_law_1305 ?_
    refine lv_aload_n hx hb dL_law_1306 rfl (lv_at hl 0 rfl) ?_
    refine lv_iload_n hx hb dL_law_1307 rfl (lv_at hl 3 rfl) ?_
    refine lv_iconst (v := (3 : Int32)) hx hb dL_law_1308 (by decide) ?_
    refine lv_iadd hx hb dL_law_1309 ?_
    refine va_sld hx hb hX hbl hbA hS (zl_in h3 hL (by decide)) dL_law_1310 ?_
    obtain ⟨R2, hf2, hJ2, hM2⟩ := K_X12_row l D cs k H.size am w hJ (xs (x3 + (1 : Int32)).toNatClampNeg) (xs (x3 + (2 : Int32)).toNatClampNeg) (xs (x3 + (3 : Int32)).toNatClampNeg)
    have EQ : R1.1 = R2.1 := (pr11 hf1).trans (pr12 hf2).symm
    refine zk_LMi (As := [.int (xs (x3 + (1 : Int32)).toNatClampNeg), .int (xs (x3 + (2 : Int32)).toNatClampNeg), .int (xs (x3 + (3 : Int32)).toNatClampNeg)]) (rest := [.int R1.1]) hE hO hM2 ⟨hx, hb, hml, hown, ht⟩ (cwV 3 ht gl_150 rfl rfl rfl (by decide +kernel) ⟨Nat.le_of_ble_eq_true rfl, Nat.le_of_ble_eq_true rfl⟩) (va_recv hK hP (ci := 12) (q0 := 0) rfl rfl) hP hD hS hK hA rfl hl.1 (Nat.le_of_ble_eq_true rfl) dL_law_1311 ⟨by show _ ≤ 600000; omega, by show _ ≤ 7302250; omega⟩ (fun H locs hP hD hS => ?_)
    refine lv_icmp_eq (tgt := 1544) hx hb dL_law_1314 (by decide) (fun cc => ?_) (fun cc => absurd EQ cc)
    exact kk _ _ H locs ls _ _ hI2 hJ2 trivial (by omega) (by omega) hP hD hS (lv_sub hl [0, 1, 2, 3] rfl)
  · refine lv_aload_n hx hb dL_law_1276 rfl (lv_at hl 1 rfl) ?_
    refine lv_aload_n hx hb dL_law_1277 rfl (lv_at hl 0 rfl) ?_
    refine lv_iload_n hx hb dL_law_1278 rfl (lv_at hl 3 rfl) ?_
    refine lv_iconst (v := (1 : Int32)) hx hb dL_law_1279 (by decide) ?_
    refine lv_iadd hx hb dL_law_1280 ?_
    refine va_sld hx hb hX hbl hbA hS (zl_in h3 hL (by decide)) dL_law_1281 ?_
    refine lv_aload_n hx hb dL_law_1282 rfl (lv_at hl 0 rfl) ?_
    refine lv_iload_n hx hb dL_law_1283 rfl (lv_at hl 3 rfl) ?_
    refine lv_iconst (v := (2 : Int32)) hx hb dL_law_1284 (by decide) ?_
    refine lv_iadd hx hb dL_law_1285 ?_
    refine va_sld hx hb hX hbl hbA hS (zl_in h3 hL (by decide)) dL_law_1286 ?_
    refine lv_aload_n hx hb dL_law_1287 rfl (lv_at hl 0 rfl) ?_
    refine lv_iload_n hx hb dL_law_1288 rfl (lv_at hl 3 rfl) ?_
    refine lv_iconst (v := (3 : Int32)) hx hb dL_law_1289 (by decide) ?_
    refine lv_iadd hx hb dL_law_1290 ?_
    refine va_sld hx hb hX hbl hbA hS (zl_in h3 hL (by decide)) dL_law_1291 ?_
    obtain ⟨R1, hf1, hI2, hM1⟩ := K_X11_row_5 l D cs k H.size ad z hI (xs (x3 + (1 : Int32)).toNatClampNeg) (xs (x3 + (2 : Int32)).toNatClampNeg) (xs (x3 + (3 : Int32)).toNatClampNeg) hp0
    refine zk_LXi (As := [.int (xs (x3 + (1 : Int32)).toNatClampNeg), .int (xs (x3 + (2 : Int32)).toNatClampNeg), .int (xs (x3 + (3 : Int32)).toNatClampNeg)]) (rest := []) hE hO hM1 ⟨hx, hb, hml, hown, ht⟩ (cwV 3 ht gl_147 rfl rfl rfl (by decide +kernel) ⟨Nat.le_of_ble_eq_true rfl, Nat.le_of_ble_eq_true rfl⟩) (va_recv hK hP (ci := 11) (q0 := 44) rfl rfl) hP hD hS hK hA rfl hl.1 (Nat.le_of_ble_eq_true rfl) dL_law_1292 ⟨by show _ ≤ 600000; omega, by show _ ≤ 7302250; omega⟩ (fun H locs hP hD hS => ?_)
    refine lv_aload_n hx hb dL_law_1295 rfl (lv_at hl 2 rfl) ?_
    refine lv_aload_n hx hb dL_law_1296 rfl (lv_at hl 0 rfl) ?_
    refine lv_iload_n hx hb dL_law_1297 rfl (lv_at hl 3 rfl) ?_
    refine lv_iconst (v := (1 : Int32)) hx hb dL_law_1298 (by decide) ?_
    refine lv_iadd hx hb dL_law_1299 ?_
    refine va_sld hx hb hX hbl hbA hS (zl_in h3 hL (by decide)) dL_law_1300 ?_
    refine lv_aload_n hx hb dL_law_1301 rfl (lv_at hl 0 rfl) ?_
    refine lv_iload_n hx hb dL_law_1302 rfl (lv_at hl 3 rfl) ?_
    refine lv_iconst (v := (2 : Int32)) hx hb dL_law_1303 (by decide) ?_
    refine lv_iadd hx hb dL_law_1304 ?_
    refine va_sld hx hb hX hbl hbA hS (zl_in h3 hL (by decide)) dL_law_1305 ?_
    refine lv_aload_n hx hb dL_law_1306 rfl (lv_at hl 0 rfl) ?_
    refine lv_iload_n hx hb dL_law_1307 rfl (lv_at hl 3 rfl) ?_
    refine lv_iconst (v := (3 : Int32)) hx hb dL_law_1308 (by decide) ?_
    refine lv_iadd hx hb dL_law_1309 ?_
    refine va_sld hx hb hX hbl hbA hS (zl_in h3 hL (by decide)) dL_law_1310 ?_
    obtain ⟨R2, hf2, hJ2, hM2⟩ := K_X12_row l D cs k H.size am w hJ (xs (x3 + (1 : Int32)).toNatClampNeg) (xs (x3 + (2 : Int32)).toNatClampNeg) (xs (x3 + (3 : Int32)).toNatClampNeg)
    have EQ : R1.1 = R2.1 := (pr11 hf1).trans (pr12 hf2).symm
    refine zk_LMi (As := [.int (xs (x3 + (1 : Int32)).toNatClampNeg), .int (xs (x3 + (2 : Int32)).toNatClampNeg), .int (xs (x3 + (3 : Int32)).toNatClampNeg)]) (rest := [.int R1.1]) hE hO hM2 ⟨hx, hb, hml, hown, ht⟩ (cwV 3 ht gl_150 rfl rfl rfl (by decide +kernel) ⟨Nat.le_of_ble_eq_true rfl, Nat.le_of_ble_eq_true rfl⟩) (va_recv hK hP (ci := 12) (q0 := 0) rfl rfl) hP hD hS hK hA rfl hl.1 (Nat.le_of_ble_eq_true rfl) dL_law_1311 ⟨by show _ ≤ 600000; omega, by show _ ≤ 7302250; omega⟩ (fun H locs hP hD hS => ?_)
    refine lv_icmp_eq (tgt := 1544) hx hb dL_law_1314 (by decide) (fun cc => ?_) (fun cc => absurd EQ cc)
    exact kk _ _ H locs ls _ _ hI2 hJ2 trivial (by omega) (by omega) hP hD hS (lv_sub hl [0, 1, 2, 3] rfl)
theorem kw_1902 : Cond.constantLong R_law 151 (4294967295 : Int64) ∈ zW := zwC (i := 148) zc_8 rfl rfl
theorem dL_law_1319 : decode cL_law 1319 = .ok (.aload_n 1, 1) := by decide +kernel
theorem dL_law_1320 : decode cL_law 1320 = .ok (.aload_n 0, 1) := by decide +kernel
theorem dL_law_1321 : decode cL_law 1321 = .ok (.iload_n 3, 1) := by decide +kernel
theorem dL_law_1322 : decode cL_law 1322 = .ok (.iconst 1, 1) := by decide +kernel
theorem dL_law_1323 : decode cL_law 1323 = .ok (.iadd, 1) := by decide +kernel
theorem dL_law_1324 : decode cL_law 1324 = .ok (.iaload, 1) := by decide +kernel
theorem dL_law_1325 : decode cL_law 1325 = .ok (.aload_n 0, 1) := by decide +kernel
theorem dL_law_1326 : decode cL_law 1326 = .ok (.iload_n 3, 1) := by decide +kernel
theorem dL_law_1327 : decode cL_law 1327 = .ok (.iconst 2, 1) := by decide +kernel
theorem dL_law_1328 : decode cL_law 1328 = .ok (.iadd, 1) := by decide +kernel
theorem dL_law_1329 : decode cL_law 1329 = .ok (.iaload, 1) := by decide +kernel
theorem dL_law_1330 : decode cL_law 1330 = .ok (.aload_n 0, 1) := by decide +kernel
theorem dL_law_1331 : decode cL_law 1331 = .ok (.iload_n 3, 1) := by decide +kernel
theorem dL_law_1332 : decode cL_law 1332 = .ok (.iconst 3, 1) := by decide +kernel
theorem dL_law_1333 : decode cL_law 1333 = .ok (.iadd, 1) := by decide +kernel
theorem dL_law_1334 : decode cL_law 1334 = .ok (.iaload, 1) := by decide +kernel
theorem dL_law_1335 : decode cL_law 1335 = .ok (.i2l, 1) := by decide +kernel
theorem dL_law_1336 : decode cL_law 1336 = .ok (.bipush 32, 2) := by decide +kernel
theorem dL_law_1338 : decode cL_law 1338 = .ok (.lshl, 1) := by decide +kernel
theorem dL_law_1339 : decode cL_law 1339 = .ok (.aload_n 0, 1) := by decide +kernel
theorem dL_law_1340 : decode cL_law 1340 = .ok (.iload_n 3, 1) := by decide +kernel
theorem dL_law_1341 : decode cL_law 1341 = .ok (.iconst 4, 1) := by decide +kernel
theorem dL_law_1342 : decode cL_law 1342 = .ok (.iadd, 1) := by decide +kernel
theorem dL_law_1343 : decode cL_law 1343 = .ok (.iaload, 1) := by decide +kernel
theorem dL_law_1344 : decode cL_law 1344 = .ok (.i2l, 1) := by decide +kernel
theorem dL_law_1345 : decode cL_law 1345 = .ok (.ldc2_w 151, 3) := by decide +kernel
theorem dL_law_1348 : decode cL_law 1348 = .ok (.land, 1) := by decide +kernel
theorem dL_law_1349 : decode cL_law 1349 = .ok (.lor, 1) := by decide +kernel
theorem dL_law_1350 : decode cL_law 1350 = .ok (.invokevirtual 153, 3) := by decide +kernel
theorem dL_law_1353 : decode cL_law 1353 = .ok (.pop, 1) := by decide +kernel
theorem dL_law_1354 : decode cL_law 1354 = .ok (.aload_n 2, 1) := by decide +kernel
theorem dL_law_1355 : decode cL_law 1355 = .ok (.aload_n 0, 1) := by decide +kernel
theorem dL_law_1356 : decode cL_law 1356 = .ok (.iload_n 3, 1) := by decide +kernel
theorem dL_law_1357 : decode cL_law 1357 = .ok (.iconst 1, 1) := by decide +kernel
theorem dL_law_1358 : decode cL_law 1358 = .ok (.iadd, 1) := by decide +kernel
theorem dL_law_1359 : decode cL_law 1359 = .ok (.iaload, 1) := by decide +kernel
theorem dL_law_1360 : decode cL_law 1360 = .ok (.aload_n 0, 1) := by decide +kernel
theorem dL_law_1361 : decode cL_law 1361 = .ok (.iload_n 3, 1) := by decide +kernel
theorem dL_law_1362 : decode cL_law 1362 = .ok (.iconst 2, 1) := by decide +kernel
theorem dL_law_1363 : decode cL_law 1363 = .ok (.iadd, 1) := by decide +kernel
theorem dL_law_1364 : decode cL_law 1364 = .ok (.iaload, 1) := by decide +kernel
theorem dL_law_1365 : decode cL_law 1365 = .ok (.aload_n 0, 1) := by decide +kernel
theorem dL_law_1366 : decode cL_law 1366 = .ok (.iload_n 3, 1) := by decide +kernel
theorem dL_law_1367 : decode cL_law 1367 = .ok (.iconst 3, 1) := by decide +kernel
theorem dL_law_1368 : decode cL_law 1368 = .ok (.iadd, 1) := by decide +kernel
theorem dL_law_1369 : decode cL_law 1369 = .ok (.iaload, 1) := by decide +kernel
theorem dL_law_1370 : decode cL_law 1370 = .ok (.i2l, 1) := by decide +kernel
theorem dL_law_1371 : decode cL_law 1371 = .ok (.bipush 32, 2) := by decide +kernel
theorem dL_law_1373 : decode cL_law 1373 = .ok (.lshl, 1) := by decide +kernel
theorem dL_law_1374 : decode cL_law 1374 = .ok (.aload_n 0, 1) := by decide +kernel
theorem dL_law_1375 : decode cL_law 1375 = .ok (.iload_n 3, 1) := by decide +kernel
theorem dL_law_1376 : decode cL_law 1376 = .ok (.iconst 4, 1) := by decide +kernel
theorem dL_law_1377 : decode cL_law 1377 = .ok (.iadd, 1) := by decide +kernel
theorem dL_law_1378 : decode cL_law 1378 = .ok (.iaload, 1) := by decide +kernel
theorem dL_law_1379 : decode cL_law 1379 = .ok (.i2l, 1) := by decide +kernel
theorem dL_law_1380 : decode cL_law 1380 = .ok (.ldc2_w 151, 3) := by decide +kernel
theorem dL_law_1383 : decode cL_law 1383 = .ok (.land, 1) := by decide +kernel
theorem dL_law_1384 : decode cL_law 1384 = .ok (.lor, 1) := by decide +kernel
theorem dL_law_1385 : decode cL_law 1385 = .ok (.invokevirtual 157, 3) := by decide +kernel
theorem dL_law_1388 : decode cL_law 1388 = .ok (.pop, 1) := by decide +kernel
theorem dL_law_1389 : decode cL_law 1389 = .ok (.goto 155, 3) := by decide +kernel
set_option maxHeartbeats 8000000 in
set_option maxRecDepth 100000 in
theorem law_case_33 {p : Program} {l : Launch} {e : Env} {s : State} {m : MethodId} {below : List Frame} {meth : Method} {c : Code} {b L : Nat} {xs : Nat → Int32} {D : va_G} {cs : Nat → ClassId} {k : (Nat → Nat) × (Nat → Nat)} {ad am : Nat → Nat} (C0 : lw_At p s m meth c b L xs) (hK : va_K D classes (zT cs) s) (hO : zO s) (hE : zE k (fun q : Nat => s.heap.size ≤ q) s) (hL : L ≤ 3072) (x3 : Int32) (h3 : 0 ≤ x3.toInt ∧ x3.toInt + 6 ≤ (L : Int)) (z : ZT) (w : MT) (hI : IX ad cs z) (hJ : IM w) (hr : RL z w) (cells slots : Nat) (hc : cells + 2 ≤ 600000) (hs : slots + 122 ≤ 7302250) (H : Heap) (locs : List Loc) (ls : Array Slot) (hP : va_P D classes (WM am cs w ++ WX ad cs z) H) (hD : va_D (fun q : Nat => s.heap.size ≤ q) (WM am cs w ++ WX ad cs z)) (hS : va_S (fun q : Nat => s.heap.size ≤ q) s.heap H locs) (hl : lv_has ls 4 [(0, .ref b), (1, .ref (ad 0)), (2, .ref (am 41)), (3, .int x3)]) (kk : ∀ (z2 : ZT) (w2 : MT) (H : Heap) (locs : List Loc) (ls : Array Slot) (cells2 slots2 : Nat), IX ad cs z2 → IM w2 → RL z2 w2 → cells2 ≤ cells + 2 → slots2 ≤ slots + 122 → va_P D classes (WM am cs w2 ++ WX ad cs z2) H → va_D (fun q : Nat => s.heap.size ≤ q) (WM am cs w2 ++ WX ad cs z2) → va_S (fun q : Nat => s.heap.size ≤ q) s.heap H locs → lv_has ls 4 [(0, .ref b), (1, .ref (ad 0)), (2, .ref (am 41)), (3, .int x3)] → W p l e room_1 s m #[Value.ref b] below meth c H locs cells2 slots2 (lw_Z below #[Value.ref b] s) (F0 m 1544 ls [])) : W p l e room_1 s m #[Value.ref b] below meth c H locs cells slots (lw_Z below #[Value.ref b] s) (F0 m 1319 ls []) := by
  obtain ⟨hx, hb, hret, hml, hown, hts, hX, hbl, hlocks, hgv⟩ := id C0
  have hA : ∀ q : Nat, s.heap.size ≤ q → (fun q : Nat => s.heap.size ≤ q) q := fun _ h => h
  have hbA : ¬ (fun q : Nat => s.heap.size ≤ q) b := Nat.not_le.mpr hbl
  have ht : ∀ w ∈ zW, w.before #[Value.ref b] s = true := fun w hw => hts w (List.mem_filter.mp hw).1
  obtain ⟨j0, hj0, hp0⟩ := zk_pl (xs (x3 + (1 : Int32)).toNatClampNeg)
  rcases (show j0 = 0 ∨ j0 = 1 ∨ j0 = 2 ∨ j0 = 3 ∨ j0 = 4 ∨ j0 = 5 by omega) with rfl | rfl | rfl | rfl | rfl | rfl
  · refine lv_aload_n hx hb dL_law_1319 rfl (lv_at hl 1 rfl) ?_
    refine lv_aload_n hx hb dL_law_1320 rfl (lv_at hl 0 rfl) ?_
    refine lv_iload_n hx hb dL_law_1321 rfl (lv_at hl 3 rfl) ?_
    refine lv_iconst (v := (1 : Int32)) hx hb dL_law_1322 (by decide) ?_
    refine lv_iadd hx hb dL_law_1323 ?_
    refine va_sld hx hb hX hbl hbA hS (zl_in h3 hL (by decide)) dL_law_1324 ?_
    refine lv_aload_n hx hb dL_law_1325 rfl (lv_at hl 0 rfl) ?_
    refine lv_iload_n hx hb dL_law_1326 rfl (lv_at hl 3 rfl) ?_
    refine lv_iconst (v := (2 : Int32)) hx hb dL_law_1327 (by decide) ?_
    refine lv_iadd hx hb dL_law_1328 ?_
    refine va_sld hx hb hX hbl hbA hS (zl_in h3 hL (by decide)) dL_law_1329 ?_
    refine lv_aload_n hx hb dL_law_1330 rfl (lv_at hl 0 rfl) ?_
    refine lv_iload_n hx hb dL_law_1331 rfl (lv_at hl 3 rfl) ?_
    refine lv_iconst (v := (3 : Int32)) hx hb dL_law_1332 (by decide) ?_
    refine lv_iadd hx hb dL_law_1333 ?_
    refine va_sld hx hb hX hbl hbA hS (zl_in h3 hL (by decide)) dL_law_1334 ?_
    refine lv_i2l (v := (xs (x3 + (3 : Int32)).toNatClampNeg).toInt64) hx hb dL_law_1335 rfl ?_
    refine lv_bipush (v := (32 : Int32)) hx hb dL_law_1336 (by decide) ?_
    refine lv_lshl (v := ((xs (x3 + (3 : Int32)).toNatClampNeg).toInt64) <<< ((32 : Int32).toInt64 &&& 63)) hx hb dL_law_1338 rfl ?_
    refine lv_aload_n hx hb dL_law_1339 rfl (lv_at hl 0 rfl) ?_
    refine lv_iload_n hx hb dL_law_1340 rfl (lv_at hl 3 rfl) ?_
    refine lv_iconst (v := (4 : Int32)) hx hb dL_law_1341 (by decide) ?_
    refine lv_iadd hx hb dL_law_1342 ?_
    refine va_sld hx hb hX hbl hbA hS (zl_in h3 hL (by decide)) dL_law_1343 ?_
    refine lv_i2l (v := (xs (x3 + (4 : Int32)).toNatClampNeg).toInt64) hx hb dL_law_1344 rfl ?_
    refine lv_ldc2 (v := (4294967295 : Int64)) hx hb hown (ht _ kw_1902) dL_law_1345 ?_
    refine lv_land hx hb dL_law_1348 ?_
    refine lv_lor hx hb dL_law_1349 ?_
    obtain ⟨R1, hf1, hI2, hM1⟩ := K_X11_put_0 l D cs k H.size ad z hI (xs (x3 + (1 : Int32)).toNatClampNeg) (xs (x3 + (2 : Int32)).toNatClampNeg) ((((xs (x3 + (3 : Int32)).toNatClampNeg).toInt64) <<< ((32 : Int32).toInt64 &&& 63)) ||| (((xs (x3 + (4 : Int32)).toNatClampNeg).toInt64) &&& (4294967295 : Int64))) hp0
    refine zk_LXi (As := [.int (xs (x3 + (1 : Int32)).toNatClampNeg), .int (xs (x3 + (2 : Int32)).toNatClampNeg), .long ((((xs (x3 + (3 : Int32)).toNatClampNeg).toInt64) <<< ((32 : Int32).toInt64 &&& 63)) ||| (((xs (x3 + (4 : Int32)).toNatClampNeg).toInt64) &&& (4294967295 : Int64)))]) (rest := []) hE hO hM1 ⟨hx, hb, hml, hown, ht⟩ (cwV 3 ht gl_153 rfl rfl rfl (by decide +kernel) ⟨Nat.le_of_ble_eq_true rfl, Nat.le_of_ble_eq_true rfl⟩) (va_recv hK hP (ci := 11) (q0 := 44) rfl rfl) hP hD hS hK hA rfl hl.1 (Nat.le_of_ble_eq_true rfl) dL_law_1350 ⟨by show _ ≤ 600000; omega, by show _ ≤ 7302250; omega⟩ (fun H locs hP hD hS => ?_)
    refine lv_pop hx hb dL_law_1353 rfl ?_
    refine lv_aload_n hx hb dL_law_1354 rfl (lv_at hl 2 rfl) ?_
    refine lv_aload_n hx hb dL_law_1355 rfl (lv_at hl 0 rfl) ?_
    refine lv_iload_n hx hb dL_law_1356 rfl (lv_at hl 3 rfl) ?_
    refine lv_iconst (v := (1 : Int32)) hx hb dL_law_1357 (by decide) ?_
    refine lv_iadd hx hb dL_law_1358 ?_
    refine va_sld hx hb hX hbl hbA hS (zl_in h3 hL (by decide)) dL_law_1359 ?_
    refine lv_aload_n hx hb dL_law_1360 rfl (lv_at hl 0 rfl) ?_
    refine lv_iload_n hx hb dL_law_1361 rfl (lv_at hl 3 rfl) ?_
    refine lv_iconst (v := (2 : Int32)) hx hb dL_law_1362 (by decide) ?_
    refine lv_iadd hx hb dL_law_1363 ?_
    refine va_sld hx hb hX hbl hbA hS (zl_in h3 hL (by decide)) dL_law_1364 ?_
    refine lv_aload_n hx hb dL_law_1365 rfl (lv_at hl 0 rfl) ?_
    refine lv_iload_n hx hb dL_law_1366 rfl (lv_at hl 3 rfl) ?_
    refine lv_iconst (v := (3 : Int32)) hx hb dL_law_1367 (by decide) ?_
    refine lv_iadd hx hb dL_law_1368 ?_
    refine va_sld hx hb hX hbl hbA hS (zl_in h3 hL (by decide)) dL_law_1369 ?_
    refine lv_i2l (v := (xs (x3 + (3 : Int32)).toNatClampNeg).toInt64) hx hb dL_law_1370 rfl ?_
    refine lv_bipush (v := (32 : Int32)) hx hb dL_law_1371 (by decide) ?_
    refine lv_lshl (v := ((xs (x3 + (3 : Int32)).toNatClampNeg).toInt64) <<< ((32 : Int32).toInt64 &&& 63)) hx hb dL_law_1373 rfl ?_
    refine lv_aload_n hx hb dL_law_1374 rfl (lv_at hl 0 rfl) ?_
    refine lv_iload_n hx hb dL_law_1375 rfl (lv_at hl 3 rfl) ?_
    refine lv_iconst (v := (4 : Int32)) hx hb dL_law_1376 (by decide) ?_
    refine lv_iadd hx hb dL_law_1377 ?_
    refine va_sld hx hb hX hbl hbA hS (zl_in h3 hL (by decide)) dL_law_1378 ?_
    refine lv_i2l (v := (xs (x3 + (4 : Int32)).toNatClampNeg).toInt64) hx hb dL_law_1379 rfl ?_
    refine lv_ldc2 (v := (4294967295 : Int64)) hx hb hown (ht _ kw_1902) dL_law_1380 ?_
    refine lv_land hx hb dL_law_1383 ?_
    refine lv_lor hx hb dL_law_1384 ?_
    obtain ⟨R2, hf2, hJ2, hM2⟩ := K_X12_put l D cs k H.size am w hJ (xs (x3 + (1 : Int32)).toNatClampNeg) (xs (x3 + (2 : Int32)).toNatClampNeg) ((((xs (x3 + (3 : Int32)).toNatClampNeg).toInt64) <<< ((32 : Int32).toInt64 &&& 63)) ||| (((xs (x3 + (4 : Int32)).toNatClampNeg).toInt64) &&& (4294967295 : Int64)))
    refine zk_LMi (As := [.int (xs (x3 + (1 : Int32)).toNatClampNeg), .int (xs (x3 + (2 : Int32)).toNatClampNeg), .long ((((xs (x3 + (3 : Int32)).toNatClampNeg).toInt64) <<< ((32 : Int32).toInt64 &&& 63)) ||| (((xs (x3 + (4 : Int32)).toNatClampNeg).toInt64) &&& (4294967295 : Int64)))]) (rest := []) hE hO hM2 ⟨hx, hb, hml, hown, ht⟩ (cwV 3 ht gl_157 rfl rfl rfl (by decide +kernel) ⟨Nat.le_of_ble_eq_true rfl, Nat.le_of_ble_eq_true rfl⟩) (va_recv hK hP (ci := 12) (q0 := 0) rfl rfl) hP hD hS hK hA rfl hl.1 (Nat.le_of_ble_eq_true rfl) dL_law_1385 ⟨by show _ ≤ 600000; omega, by show _ ≤ 7302250; omega⟩ (fun H locs hP hD hS => ?_)
    refine lv_pop hx hb dL_law_1388 rfl ?_
    refine lv_goto (tgt := 1544) hx hb dL_law_1389 (by decide) ?_
    exact kk _ _ H locs ls _ _ hI2 hJ2 trivial (by omega) (by omega) hP hD hS (lv_sub hl [0, 1, 2, 3] rfl)
  · refine lv_aload_n hx hb dL_law_1319 rfl (lv_at hl 1 rfl) ?_
    refine lv_aload_n hx hb dL_law_1320 rfl (lv_at hl 0 rfl) ?_
    refine lv_iload_n hx hb dL_law_1321 rfl (lv_at hl 3 rfl) ?_
    refine lv_iconst (v := (1 : Int32)) hx hb dL_law_1322 (by decide) ?_
    refine lv_iadd hx hb dL_law_1323 ?_
    refine va_sld hx hb hX hbl hbA hS (zl_in h3 hL (by decide)) dL_law_1324 ?_
    refine lv_aload_n hx hb dL_law_1325 rfl (lv_at hl 0 rfl) ?_
    refine lv_iload_n hx hb dL_law_1326 rfl (lv_at hl 3 rfl) ?_
    refine lv_iconst (v := (2 : Int32)) hx hb dL_law_1327 (by decide) ?_
    refine lv_iadd hx hb dL_law_1328 ?_
    refine va_sld hx hb hX hbl hbA hS (zl_in h3 hL (by decide)) dL_law_1329 ?_
    refine lv_aload_n hx hb dL_law_1330 rfl (lv_at hl 0 rfl) ?_
    refine lv_iload_n hx hb dL_law_1331 rfl (lv_at hl 3 rfl) ?_
    refine lv_iconst (v := (3 : Int32)) hx hb dL_law_1332 (by decide) ?_
    refine lv_iadd hx hb dL_law_1333 ?_
    refine va_sld hx hb hX hbl hbA hS (zl_in h3 hL (by decide)) dL_law_1334 ?_
    refine lv_i2l (v := (xs (x3 + (3 : Int32)).toNatClampNeg).toInt64) hx hb dL_law_1335 rfl ?_
    refine lv_bipush (v := (32 : Int32)) hx hb dL_law_1336 (by decide) ?_
    refine lv_lshl (v := ((xs (x3 + (3 : Int32)).toNatClampNeg).toInt64) <<< ((32 : Int32).toInt64 &&& 63)) hx hb dL_law_1338 rfl ?_
    refine lv_aload_n hx hb dL_law_1339 rfl (lv_at hl 0 rfl) ?_
    refine lv_iload_n hx hb dL_law_1340 rfl (lv_at hl 3 rfl) ?_
    refine lv_iconst (v := (4 : Int32)) hx hb dL_law_1341 (by decide) ?_
    refine lv_iadd hx hb dL_law_1342 ?_
    refine va_sld hx hb hX hbl hbA hS (zl_in h3 hL (by decide)) dL_law_1343 ?_
    refine lv_i2l (v := (xs (x3 + (4 : Int32)).toNatClampNeg).toInt64) hx hb dL_law_1344 rfl ?_
    refine lv_ldc2 (v := (4294967295 : Int64)) hx hb hown (ht _ kw_1902) dL_law_1345 ?_
    refine lv_land hx hb dL_law_1348 ?_
    refine lv_lor hx hb dL_law_1349 ?_
    obtain ⟨R1, hf1, hI2, hM1⟩ := K_X11_put_1 l D cs k H.size ad z hI (xs (x3 + (1 : Int32)).toNatClampNeg) (xs (x3 + (2 : Int32)).toNatClampNeg) ((((xs (x3 + (3 : Int32)).toNatClampNeg).toInt64) <<< ((32 : Int32).toInt64 &&& 63)) ||| (((xs (x3 + (4 : Int32)).toNatClampNeg).toInt64) &&& (4294967295 : Int64))) hp0
    refine zk_LXi (As := [.int (xs (x3 + (1 : Int32)).toNatClampNeg), .int (xs (x3 + (2 : Int32)).toNatClampNeg), .long ((((xs (x3 + (3 : Int32)).toNatClampNeg).toInt64) <<< ((32 : Int32).toInt64 &&& 63)) ||| (((xs (x3 + (4 : Int32)).toNatClampNeg).toInt64) &&& (4294967295 : Int64)))]) (rest := []) hE hO hM1 ⟨hx, hb, hml, hown, ht⟩ (cwV 3 ht gl_153 rfl rfl rfl (by decide +kernel) ⟨Nat.le_of_ble_eq_true rfl, Nat.le_of_ble_eq_true rfl⟩) (va_recv hK hP (ci := 11) (q0 := 44) rfl rfl) hP hD hS hK hA rfl hl.1 (Nat.le_of_ble_eq_true rfl) dL_law_1350 ⟨by show _ ≤ 600000; omega, by show _ ≤ 7302250; omega⟩ (fun H locs hP hD hS => ?_)
    refine lv_pop hx hb dL_law_1353 rfl ?_
    refine lv_aload_n hx hb dL_law_1354 rfl (lv_at hl 2 rfl) ?_
    refine lv_aload_n hx hb dL_law_1355 rfl (lv_at hl 0 rfl) ?_
    refine lv_iload_n hx hb dL_law_1356 rfl (lv_at hl 3 rfl) ?_
    refine lv_iconst (v := (1 : Int32)) hx hb dL_law_1357 (by decide) ?_
    refine lv_iadd hx hb dL_law_1358 ?_
    refine va_sld hx hb hX hbl hbA hS (zl_in h3 hL (by decide)) dL_law_1359 ?_
    refine lv_aload_n hx hb dL_law_1360 rfl (lv_at hl 0 rfl) ?_
    refine lv_iload_n hx hb dL_law_1361 rfl (lv_at hl 3 rfl) ?_
    refine lv_iconst (v := (2 : Int32)) hx hb dL_law_1362 (by decide) ?_
    refine lv_iadd hx hb dL_law_1363 ?_
    refine va_sld hx hb hX hbl hbA hS (zl_in h3 hL (by decide)) dL_law_1364 ?_
    refine lv_aload_n hx hb dL_law_1365 rfl (lv_at hl 0 rfl) ?_
    refine lv_iload_n hx hb dL_law_1366 rfl (lv_at hl 3 rfl) ?_
    refine lv_iconst (v := (3 : Int32)) hx hb dL_law_1367 (by decide) ?_
    refine lv_iadd hx hb dL_law_1368 ?_
    refine va_sld hx hb hX hbl hbA hS (zl_in h3 hL (by decide)) dL_law_1369 ?_
    refine lv_i2l (v := (xs (x3 + (3 : Int32)).toNatClampNeg).toInt64) hx hb dL_law_1370 rfl ?_
    refine lv_bipush (v := (32 : Int32)) hx hb dL_law_1371 (by decide) ?_
    refine lv_lshl (v := ((xs (x3 + (3 : Int32)).toNatClampNeg).toInt64) <<< ((32 : Int32).toInt64 &&& 63)) hx hb dL_law_1373 rfl ?_
    refine lv_aload_n hx hb dL_law_1374 rfl (lv_at hl 0 rfl) ?_
    refine lv_iload_n hx hb dL_law_1375 rfl (lv_at hl 3 rfl) ?_
    refine lv_iconst (v := (4 : Int32)) hx hb dL_law_1376 (by decide) ?_
    refine lv_iadd hx hb dL_law_1377 ?_
    refine va_sld hx hb hX hbl hbA hS (zl_in h3 hL (by decide)) dL_law_1378 ?_
    refine lv_i2l (v := (xs (x3 + (4 : Int32)).toNatClampNeg).toInt64) hx hb dL_law_1379 rfl ?_
    refine lv_ldc2 (v := (4294967295 : Int64)) hx hb hown (ht _ kw_1902) dL_law_1380 ?_
    refine lv_land hx hb dL_law_1383 ?_
    refine lv_lor hx hb dL_law_1384 ?_
    obtain ⟨R2, hf2, hJ2, hM2⟩ := K_X12_put l D cs k H.size am w hJ (xs (x3 + (1 : Int32)).toNatClampNeg) (xs (x3 + (2 : Int32)).toNatClampNeg) ((((xs (x3 + (3 : Int32)).toNatClampNeg).toInt64) <<< ((32 : Int32).toInt64 &&& 63)) ||| (((xs (x3 + (4 : Int32)).toNatClampNeg).toInt64) &&& (4294967295 : Int64)))
    refine zk_LMi (As := [.int (xs (x3 + (1 : Int32)).toNatClampNeg), .int (xs (x3 + (2 : Int32)).toNatClampNeg), .long ((((xs (x3 + (3 : Int32)).toNatClampNeg).toInt64) <<< ((32 : Int32).toInt64 &&& 63)) ||| (((xs (x3 + (4 : Int32)).toNatClampNeg).toInt64) &&& (4294967295 : Int64)))]) (rest := []) hE hO hM2 ⟨hx, hb, hml, hown, ht⟩ (cwV 3 ht gl_157 rfl rfl rfl (by decide +kernel) ⟨Nat.le_of_ble_eq_true rfl, Nat.le_of_ble_eq_true rfl⟩) (va_recv hK hP (ci := 12) (q0 := 0) rfl rfl) hP hD hS hK hA rfl hl.1 (Nat.le_of_ble_eq_true rfl) dL_law_1385 ⟨by show _ ≤ 600000; omega, by show _ ≤ 7302250; omega⟩ (fun H locs hP hD hS => ?_)
    refine lv_pop hx hb dL_law_1388 rfl ?_
    refine lv_goto (tgt := 1544) hx hb dL_law_1389 (by decide) ?_
    exact kk _ _ H locs ls _ _ hI2 hJ2 trivial (by omega) (by omega) hP hD hS (lv_sub hl [0, 1, 2, 3] rfl)
  · refine lv_aload_n hx hb dL_law_1319 rfl (lv_at hl 1 rfl) ?_
    refine lv_aload_n hx hb dL_law_1320 rfl (lv_at hl 0 rfl) ?_
    refine lv_iload_n hx hb dL_law_1321 rfl (lv_at hl 3 rfl) ?_
    refine lv_iconst (v := (1 : Int32)) hx hb dL_law_1322 (by decide) ?_
    refine lv_iadd hx hb dL_law_1323 ?_
    refine va_sld hx hb hX hbl hbA hS (zl_in h3 hL (by decide)) dL_law_1324 ?_
    refine lv_aload_n hx hb dL_law_1325 rfl (lv_at hl 0 rfl) ?_
    refine lv_iload_n hx hb dL_law_1326 rfl (lv_at hl 3 rfl) ?_
    refine lv_iconst (v := (2 : Int32)) hx hb dL_law_1327 (by decide) ?_
    refine lv_iadd hx hb dL_law_1328 ?_
    refine va_sld hx hb hX hbl hbA hS (zl_in h3 hL (by decide)) dL_law_1329 ?_
    refine lv_aload_n hx hb dL_law_1330 rfl (lv_at hl 0 rfl) ?_
    refine lv_iload_n hx hb dL_law_1331 rfl (lv_at hl 3 rfl) ?_
    refine lv_iconst (v := (3 : Int32)) hx hb dL_law_1332 (by decide) ?_
    refine lv_iadd hx hb dL_law_1333 ?_
    refine va_sld hx hb hX hbl hbA hS (zl_in h3 hL (by decide)) dL_law_1334 ?_
    refine lv_i2l (v := (xs (x3 + (3 : Int32)).toNatClampNeg).toInt64) hx hb dL_law_1335 rfl ?_
    refine lv_bipush (v := (32 : Int32)) hx hb dL_law_1336 (by decide) ?_
    refine lv_lshl (v := ((xs (x3 + (3 : Int32)).toNatClampNeg).toInt64) <<< ((32 : Int32).toInt64 &&& 63)) hx hb dL_law_1338 rfl ?_
    refine lv_aload_n hx hb dL_law_1339 rfl (lv_at hl 0 rfl) ?_
    refine lv_iload_n hx hb dL_law_1340 rfl (lv_at hl 3 rfl) ?_
    refine lv_iconst (v := (4 : Int32)) hx hb dL_law_1341 (by decide) ?_
    refine lv_iadd hx hb dL_law_1342 ?_
    refine va_sld hx hb hX hbl hbA hS (zl_in h3 hL (by decide)) dL_law_1343 ?_
    refine lv_i2l (v := (xs (x3 + (4 : Int32)).toNatClampNeg).toInt64) hx hb dL_law_1344 rfl ?_
    refine lv_ldc2 (v := (4294967295 : Int64)) hx hb hown (ht _ kw_1902) dL_law_1345 ?_
    refine lv_land hx hb dL_law_1348 ?_
    refine lv_lor hx hb dL_law_1349 ?_
    obtain ⟨R1, hf1, hI2, hM1⟩ := K_X11_put_2 l D cs k H.size ad z hI (xs (x3 + (1 : Int32)).toNatClampNeg) (xs (x3 + (2 : Int32)).toNatClampNeg) ((((xs (x3 + (3 : Int32)).toNatClampNeg).toInt64) <<< ((32 : Int32).toInt64 &&& 63)) ||| (((xs (x3 + (4 : Int32)).toNatClampNeg).toInt64) &&& (4294967295 : Int64))) hp0
    refine zk_LXi (As := [.int (xs (x3 + (1 : Int32)).toNatClampNeg), .int (xs (x3 + (2 : Int32)).toNatClampNeg), .long ((((xs (x3 + (3 : Int32)).toNatClampNeg).toInt64) <<< ((32 : Int32).toInt64 &&& 63)) ||| (((xs (x3 + (4 : Int32)).toNatClampNeg).toInt64) &&& (4294967295 : Int64)))]) (rest := []) hE hO hM1 ⟨hx, hb, hml, hown, ht⟩ (cwV 3 ht gl_153 rfl rfl rfl (by decide +kernel) ⟨Nat.le_of_ble_eq_true rfl, Nat.le_of_ble_eq_true rfl⟩) (va_recv hK hP (ci := 11) (q0 := 44) rfl rfl) hP hD hS hK hA rfl hl.1 (Nat.le_of_ble_eq_true rfl) dL_law_1350 ⟨by show _ ≤ 600000; omega, by show _ ≤ 7302250; omega⟩ (fun H locs hP hD hS => ?_)
    refine lv_pop hx hb dL_law_1353 rfl ?_
    refine lv_aload_n hx hb dL_law_1354 rfl (lv_at hl 2 rfl) ?_
    refine lv_aload_n hx hb dL_law_1355 rfl (lv_at hl 0 rfl) ?_
    refine lv_iload_n hx hb dL_law_1356 rfl (lv_at hl 3 rfl) ?_
    refine lv_iconst (v := (1 : Int32)) hx hb dL_law_1357 (by decide) ?_
    refine lv_iadd hx hb dL_law_1358 ?_
    refine va_sld hx hb hX hbl hbA hS (zl_in h3 hL (by decide)) dL_law_1359 ?_
    refine lv_aload_n hx hb dL_law_1360 rfl (lv_at hl 0 rfl) ?_
    refine lv_iload_n hx hb dL_law_1361 rfl (lv_at hl 3 rfl) ?_
    refine lv_iconst (v := (2 : Int32)) hx hb dL_law_1362 (by decide) ?_
    refine lv_iadd hx hb dL_law_1363 ?_
    refine va_sld hx hb hX hbl hbA hS (zl_in h3 hL (by decide)) dL_law_1364 ?_
    refine lv_aload_n hx hb dL_law_1365 rfl (lv_at hl 0 rfl) ?_
    refine lv_iload_n hx hb dL_law_1366 rfl (lv_at hl 3 rfl) ?_
    refine lv_iconst (v := (3 : Int32)) hx hb dL_law_1367 (by decide) ?_
    refine lv_iadd hx hb dL_law_1368 ?_
    refine va_sld hx hb hX hbl hbA hS (zl_in h3 hL (by decide)) dL_law_1369 ?_
    refine lv_i2l (v := (xs (x3 + (3 : Int32)).toNatClampNeg).toInt64) hx hb dL_law_1370 rfl ?_
    refine lv_bipush (v := (32 : Int32)) hx hb dL_law_1371 (by decide) ?_
    refine lv_lshl (v := ((xs (x3 + (3 : Int32)).toNatClampNeg).toInt64) <<< ((32 : Int32).toInt64 &&& 63)) hx hb dL_law_1373 rfl ?_
    refine lv_aload_n hx hb dL_law_1374 rfl (lv_at hl 0 rfl) ?_
    refine lv_iload_n hx hb dL_law_1375 rfl (lv_at hl 3 rfl) ?_
    refine lv_iconst (v := (4 : Int32)) hx hb dL_law_1376 (by decide) ?_
    refine lv_iadd hx hb dL_law_1377 ?_
    refine va_sld hx hb hX hbl hbA hS (zl_in h3 hL (by decide)) dL_law_1378 ?_
    refine lv_i2l (v := (xs (x3 + (4 : Int32)).toNatClampNeg).toInt64) hx hb dL_law_1379 rfl ?_
    refine lv_ldc2 (v := (4294967295 : Int64)) hx hb hown (ht _ kw_1902) dL_law_1380 ?_
    refine lv_land hx hb dL_law_1383 ?_
    refine lv_lor hx hb dL_law_1384 ?_
    obtain ⟨R2, hf2, hJ2, hM2⟩ := K_X12_put l D cs k H.size am w hJ (xs (x3 + (1 : Int32)).toNatClampNeg) (xs (x3 + (2 : Int32)).toNatClampNeg) ((((xs (x3 + (3 : Int32)).toNatClampNeg).toInt64) <<< ((32 : Int32).toInt64 &&& 63)) ||| (((xs (x3 + (4 : Int32)).toNatClampNeg).toInt64) &&& (4294967295 : Int64)))
    refine zk_LMi (As := [.int (xs (x3 + (1 : Int32)).toNatClampNeg), .int (xs (x3 + (2 : Int32)).toNatClampNeg), .long ((((xs (x3 + (3 : Int32)).toNatClampNeg).toInt64) <<< ((32 : Int32).toInt64 &&& 63)) ||| (((xs (x3 + (4 : Int32)).toNatClampNeg).toInt64) &&& (4294967295 : Int64)))]) (rest := []) hE hO hM2 ⟨hx, hb, hml, hown, ht⟩ (cwV 3 ht gl_157 rfl rfl rfl (by decide +kernel) ⟨Nat.le_of_ble_eq_true rfl, Nat.le_of_ble_eq_true rfl⟩) (va_recv hK hP (ci := 12) (q0 := 0) rfl rfl) hP hD hS hK hA rfl hl.1 (Nat.le_of_ble_eq_true rfl) dL_law_1385 ⟨by show _ ≤ 600000; omega, by show _ ≤ 7302250; omega⟩ (fun H locs hP hD hS => ?_)
    refine lv_pop hx hb dL_law_1388 rfl ?_
    refine lv_goto (tgt := 1544) hx hb dL_law_1389 (by decide) ?_
    exact kk _ _ H locs ls _ _ hI2 hJ2 trivial (by omega) (by omega) hP hD hS (lv_sub hl [0, 1, 2, 3] rfl)
  · refine lv_aload_n hx hb dL_law_1319 rfl (lv_at hl 1 rfl) ?_
    refine lv_aload_n hx hb dL_law_1320 rfl (lv_at hl 0 rfl) ?_
    refine lv_iload_n hx hb dL_law_1321 rfl (lv_at hl 3 rfl) ?_
    refine lv_iconst (v := (1 : Int32)) hx hb dL_law_1322 (by decide) ?_
    refine lv_iadd hx hb dL_law_1323 ?_
    refine va_sld hx hb hX hbl hbA hS (zl_in h3 hL (by decide)) dL_law_1324 ?_
    refine lv_aload_n hx hb dL_law_1325 rfl (lv_at hl 0 rfl) ?_
    refine lv_iload_n hx hb dL_law_1326 rfl (lv_at hl 3 rfl) ?_
    refine lv_iconst (v := (2 : Int32)) hx hb dL_law_1327 (by decide) ?_
    refine lv_iadd hx hb dL_law_1328 ?_
    refine va_sld hx hb hX hbl hbA hS (zl_in h3 hL (by decide)) dL_law_1329 ?_
    refine lv_aload_n hx hb dL_law_1330 rfl (lv_at hl 0 rfl) ?_
    refine lv_iload_n hx hb dL_law_1331 rfl (lv_at hl 3 rfl) ?_
    refine lv_iconst (v := (3 : Int32)) hx hb dL_law_1332 (by decide) ?_
    refine lv_iadd hx hb dL_law_1333 ?_
    refine va_sld hx hb hX hbl hbA hS (zl_in h3 hL (by decide)) dL_law_1334 ?_
    refine lv_i2l (v := (xs (x3 + (3 : Int32)).toNatClampNeg).toInt64) hx hb dL_law_1335 rfl ?_
    refine lv_bipush (v := (32 : Int32)) hx hb dL_law_1336 (by decide) ?_
    refine lv_lshl (v := ((xs (x3 + (3 : Int32)).toNatClampNeg).toInt64) <<< ((32 : Int32).toInt64 &&& 63)) hx hb dL_law_1338 rfl ?_
    refine lv_aload_n hx hb dL_law_1339 rfl (lv_at hl 0 rfl) ?_
    refine lv_iload_n hx hb dL_law_1340 rfl (lv_at hl 3 rfl) ?_
    refine lv_iconst (v := (4 : Int32)) hx hb dL_law_1341 (by decide) ?_
    refine lv_iadd hx hb dL_law_1342 ?_
    refine va_sld hx hb hX hbl hbA hS (zl_in h3 hL (by decide)) dL_law_1343 ?_
    refine lv_i2l (v := (xs (x3 + (4 : Int32)).toNatClampNeg).toInt64) hx hb dL_law_1344 rfl ?_
    refine lv_ldc2 (v := (4294967295 : Int64)) hx hb hown (ht _ kw_1902) dL_law_1345 ?_
    refine lv_land hx hb dL_law_1348 ?_
    refine lv_lor hx hb dL_law_1349 ?_
    obtain ⟨R1, hf1, hI2, hM1⟩ := K_X11_put_3 l D cs k H.size ad z hI (xs (x3 + (1 : Int32)).toNatClampNeg) (xs (x3 + (2 : Int32)).toNatClampNeg) ((((xs (x3 + (3 : Int32)).toNatClampNeg).toInt64) <<< ((32 : Int32).toInt64 &&& 63)) ||| (((xs (x3 + (4 : Int32)).toNatClampNeg).toInt64) &&& (4294967295 : Int64))) hp0
    refine zk_LXi (As := [.int (xs (x3 + (1 : Int32)).toNatClampNeg), .int (xs (x3 + (2 : Int32)).toNatClampNeg), .long ((((xs (x3 + (3 : Int32)).toNatClampNeg).toInt64) <<< ((32 : Int32).toInt64 &&& 63)) ||| (((xs (x3 + (4 : Int32)).toNatClampNeg).toInt64) &&& (4294967295 : Int64)))]) (rest := []) hE hO hM1 ⟨hx, hb, hml, hown, ht⟩ (cwV 3 ht gl_153 rfl rfl rfl (by decide +kernel) ⟨Nat.le_of_ble_eq_true rfl, Nat.le_of_ble_eq_true rfl⟩) (va_recv hK hP (ci := 11) (q0 := 44) rfl rfl) hP hD hS hK hA rfl hl.1 (Nat.le_of_ble_eq_true rfl) dL_law_1350 ⟨by show _ ≤ 600000; omega, by show _ ≤ 7302250; omega⟩ (fun H locs hP hD hS => ?_)
    refine lv_pop hx hb dL_law_1353 rfl ?_
    refine lv_aload_n hx hb dL_law_1354 rfl (lv_at hl 2 rfl) ?_
    refine lv_aload_n hx hb dL_law_1355 rfl (lv_at hl 0 rfl) ?_
    refine lv_iload_n hx hb dL_law_1356 rfl (lv_at hl 3 rfl) ?_
    refine lv_iconst (v := (1 : Int32)) hx hb dL_law_1357 (by decide) ?_
    refine lv_iadd hx hb dL_law_1358 ?_
    refine va_sld hx hb hX hbl hbA hS (zl_in h3 hL (by decide)) dL_law_1359 ?_
    refine lv_aload_n hx hb dL_law_1360 rfl (lv_at hl 0 rfl) ?_
    refine lv_iload_n hx hb dL_law_1361 rfl (lv_at hl 3 rfl) ?_
    refine lv_iconst (v := (2 : Int32)) hx hb dL_law_1362 (by decide) ?_
    refine lv_iadd hx hb dL_law_1363 ?_
    refine va_sld hx hb hX hbl hbA hS (zl_in h3 hL (by decide)) dL_law_1364 ?_
    refine lv_aload_n hx hb dL_law_1365 rfl (lv_at hl 0 rfl) ?_
    refine lv_iload_n hx hb dL_law_1366 rfl (lv_at hl 3 rfl) ?_
    refine lv_iconst (v := (3 : Int32)) hx hb dL_law_1367 (by decide) ?_
    refine lv_iadd hx hb dL_law_1368 ?_
    refine va_sld hx hb hX hbl hbA hS (zl_in h3 hL (by decide)) dL_law_1369 ?_
    refine lv_i2l (v := (xs (x3 + (3 : Int32)).toNatClampNeg).toInt64) hx hb dL_law_1370 rfl ?_
    refine lv_bipush (v := (32 : Int32)) hx hb dL_law_1371 (by decide) ?_
    refine lv_lshl (v := ((xs (x3 + (3 : Int32)).toNatClampNeg).toInt64) <<< ((32 : Int32).toInt64 &&& 63)) hx hb dL_law_1373 rfl ?_
    refine lv_aload_n hx hb dL_law_1374 rfl (lv_at hl 0 rfl) ?_
    refine lv_iload_n hx hb dL_law_1375 rfl (lv_at hl 3 rfl) ?_
    refine lv_iconst (v := (4 : Int32)) hx hb dL_law_1376 (by decide) ?_
    refine lv_iadd hx hb dL_law_1377 ?_
    refine va_sld hx hb hX hbl hbA hS (zl_in h3 hL (by decide)) dL_law_1378 ?_
    refine lv_i2l (v := (xs (x3 + (4 : Int32)).toNatClampNeg).toInt64) hx hb dL_law_1379 rfl ?_
    refine lv_ldc2 (v := (4294967295 : Int64)) hx hb hown (ht _ kw_1902) dL_law_1380 ?_
    refine lv_land hx hb dL_law_1383 ?_
    refine lv_lor hx hb dL_law_1384 ?_
    obtain ⟨R2, hf2, hJ2, hM2⟩ := K_X12_put l D cs k H.size am w hJ (xs (x3 + (1 : Int32)).toNatClampNeg) (xs (x3 + (2 : Int32)).toNatClampNeg) ((((xs (x3 + (3 : Int32)).toNatClampNeg).toInt64) <<< ((32 : Int32).toInt64 &&& 63)) ||| (((xs (x3 + (4 : Int32)).toNatClampNeg).toInt64) &&& (4294967295 : Int64)))
    refine zk_LMi (As := [.int (xs (x3 + (1 : Int32)).toNatClampNeg), .int (xs (x3 + (2 : Int32)).toNatClampNeg), .long ((((xs (x3 + (3 : Int32)).toNatClampNeg).toInt64) <<< ((32 : Int32).toInt64 &&& 63)) ||| (((xs (x3 + (4 : Int32)).toNatClampNeg).toInt64) &&& (4294967295 : Int64)))]) (rest := []) hE hO hM2 ⟨hx, hb, hml, hown, ht⟩ (cwV 3 ht gl_157 rfl rfl rfl (by decide +kernel) ⟨Nat.le_of_ble_eq_true rfl, Nat.le_of_ble_eq_true rfl⟩) (va_recv hK hP (ci := 12) (q0 := 0) rfl rfl) hP hD hS hK hA rfl hl.1 (Nat.le_of_ble_eq_true rfl) dL_law_1385 ⟨by show _ ≤ 600000; omega, by show _ ≤ 7302250; omega⟩ (fun H locs hP hD hS => ?_)
    refine lv_pop hx hb dL_law_1388 rfl ?_
    refine lv_goto (tgt := 1544) hx hb dL_law_1389 (by decide) ?_
    exact kk _ _ H locs ls _ _ hI2 hJ2 trivial (by omega) (by omega) hP hD hS (lv_sub hl [0, 1, 2, 3] rfl)
  · refine lv_aload_n hx hb dL_law_1319 rfl (lv_at hl 1 rfl) ?_
    refine lv_aload_n hx hb dL_law_1320 rfl (lv_at hl 0 rfl) ?_
    refine lv_iload_n hx hb dL_law_1321 rfl (lv_at hl 3 rfl) ?_
    refine lv_iconst (v := (1 : Int32)) hx hb dL_law_1322 (by decide) ?_
    refine lv_iadd hx hb dL_law_1323 ?_
    refine va_sld hx hb hX hbl hbA hS (zl_in h3 hL (by decide)) dL_law_1324 ?_
    refine lv_aload_n hx hb dL_law_1325 rfl (lv_at hl 0 rfl) ?_
    refine lv_iload_n hx hb dL_law_1326 rfl (lv_at hl 3 rfl) ?_
    refine lv_iconst (v := (2 : Int32)) hx hb dL_law_1327 (by decide) ?_
    refine lv_iadd hx hb dL_law_1328 ?_
    refine va_sld hx hb hX hbl hbA hS (zl_in h3 hL (by decide)) dL_law_1329 ?_
    refine lv_aload_n hx hb dL_law_1330 rfl (lv_at hl 0 rfl) ?_
    refine lv_iload_n hx hb dL_law_1331 rfl (lv_at hl 3 rfl) ?_
    refine lv_iconst (v := (3 : Int32)) hx hb dL_law_1332 (by decide) ?_
    refine lv_iadd hx hb dL_law_1333 ?_
    refine va_sld hx hb hX hbl hbA hS (zl_in h3 hL (by decide)) dL_law_1334 ?_
    refine lv_i2l (v := (xs (x3 + (3 : Int32)).toNatClampNeg).toInt64) hx hb dL_law_1335 rfl ?_
    refine lv_bipush (v := (32 : Int32)) hx hb dL_law_1336 (by decide) ?_
    refine lv_lshl (v := ((xs (x3 + (3 : Int32)).toNatClampNeg).toInt64) <<< ((32 : Int32).toInt64 &&& 63)) hx hb dL_law_1338 rfl ?_
    refine lv_aload_n hx hb dL_law_1339 rfl (lv_at hl 0 rfl) ?_
    refine lv_iload_n hx hb dL_law_1340 rfl (lv_at hl 3 rfl) ?_
    refine lv_iconst (v := (4 : Int32)) hx hb dL_law_1341 (by decide) ?_
    refine lv_iadd hx hb dL_law_1342 ?_
    refine va_sld hx hb hX hbl hbA hS (zl_in h3 hL (by decide)) dL_law_1343 ?_
    refine lv_i2l (v := (xs (x3 + (4 : Int32)).toNatClampNeg).toInt64) hx hb dL_law_1344 rfl ?_
    refine lv_ldc2 (v := (4294967295 : Int64)) hx hb hown (ht _ kw_1902) dL_law_1345 ?_
    refine lv_land hx hb dL_law_1348 ?_
    refine lv_lor hx hb dL_law_1349 ?_
    obtain ⟨R1, hf1, hI2, hM1⟩ := K_X11_put_4 l D cs k H.size ad z hI (xs (x3 + (1 : Int32)).toNatClampNeg) (xs (x3 + (2 : Int32)).toNatClampNeg) ((((xs (x3 + (3 : Int32)).toNatClampNeg).toInt64) <<< ((32 : Int32).toInt64 &&& 63)) ||| (((xs (x3 + (4 : Int32)).toNatClampNeg).toInt64) &&& (4294967295 : Int64))) hp0
    refine zk_LXi (As := [.int (xs (x3 + (1 : Int32)).toNatClampNeg), .int (xs (x3 + (2 : Int32)).toNatClampNeg), .long ((((xs (x3 + (3 : Int32)).toNatClampNeg).toInt64) <<< ((32 : Int32).toInt64 &&& 63)) ||| (((xs (x3 + (4 : Int32)).toNatClampNeg).toInt64) &&& (4294967295 : Int64)))]) (rest := []) hE hO hM1 ⟨hx, hb, hml, hown, ht⟩ (cwV 3 ht gl_153 rfl rfl rfl (by decide +kernel) ⟨Nat.le_of_ble_eq_true rfl, Nat.le_of_ble_eq_true rfl⟩) (va_recv hK hP (ci := 11) (q0 := 44) rfl rfl) hP hD hS hK hA rfl hl.1 (Nat.le_of_ble_eq_true rfl) dL_law_1350 ⟨by show _ ≤ 600000; omega, by show _ ≤ 7302250; omega⟩ (fun H locs hP hD hS => ?_)
    refine lv_pop hx hb dL_law_1353 rfl ?_
    refine lv_aload_n hx hb dL_law_1354 rfl (lv_at hl 2 rfl) ?_
    refine lv_aload_n hx hb dL_law_1355 rfl (lv_at hl 0 rfl) ?_
    refine lv_iload_n hx hb dL_law_1356 rfl (lv_at hl 3 rfl) ?_
    refine lv_iconst (v := (1 : Int32)) hx hb dL_law_1357 (by decide) ?_
    refine lv_iadd hx hb dL_law_1358 ?_
    refine va_sld hx hb hX hbl hbA hS (zl_in h3 hL (by decide)) dL_law_1359 ?_
    refine lv_aload_n hx hb dL_law_1360 rfl (lv_at hl 0 rfl) ?_
    refine lv_iload_n hx hb dL_law_1361 rfl (lv_at hl 3 rfl) ?_
    refine lv_iconst (v := (2 : Int32)) hx hb dL_law_1362 (by decide) ?_
    refine lv_iadd hx hb dL_law_1363 ?_
    refine va_sld hx hb hX hbl hbA hS (zl_in h3 hL (by decide)) dL_law_1364 ?_
    refine lv_aload_n hx hb dL_law_1365 rfl (lv_at hl 0 rfl) ?_
    refine lv_iload_n hx hb dL_law_1366 rfl (lv_at hl 3 rfl) ?_
    refine lv_iconst (v := (3 : Int32)) hx hb dL_law_1367 (by decide) ?_
    refine lv_iadd hx hb dL_law_1368 ?_
    refine va_sld hx hb hX hbl hbA hS (zl_in h3 hL (by decide)) dL_law_1369 ?_
    refine lv_i2l (v := (xs (x3 + (3 : Int32)).toNatClampNeg).toInt64) hx hb dL_law_1370 rfl ?_
    refine lv_bipush (v := (32 : Int32)) hx hb dL_law_1371 (by decide) ?_
    refine lv_lshl (v := ((xs (x3 + (3 : Int32)).toNatClampNeg).toInt64) <<< ((32 : Int32).toInt64 &&& 63)) hx hb dL_law_1373 rfl ?_
    refine lv_aload_n hx hb dL_law_1374 rfl (lv_at hl 0 rfl) ?_
    refine lv_iload_n hx hb dL_law_1375 rfl (lv_at hl 3 rfl) ?_
    refine lv_iconst (v := (4 : Int32)) hx hb dL_law_1376 (by decide) ?_
    refine lv_iadd hx hb dL_law_1377 ?_
    refine va_sld hx hb hX hbl hbA hS (zl_in h3 hL (by decide)) dL_law_1378 ?_
    refine lv_i2l (v := (xs (x3 + (4 : Int32)).toNatClampNeg).toInt64) hx hb dL_law_1379 rfl ?_
    refine lv_ldc2 (v := (4294967295 : Int64)) hx hb hown (ht _ kw_1902) dL_law_1380 ?_
    refine lv_land hx hb dL_law_1383 ?_
    refine lv_lor hx hb dL_law_1384 ?_
    obtain ⟨R2, hf2, hJ2, hM2⟩ := K_X12_put l D cs k H.size am w hJ (xs (x3 + (1 : Int32)).toNatClampNeg) (xs (x3 + (2 : Int32)).toNatClampNeg) ((((xs (x3 + (3 : Int32)).toNatClampNeg).toInt64) <<< ((32 : Int32).toInt64 &&& 63)) ||| (((xs (x3 + (4 : Int32)).toNatClampNeg).toInt64) &&& (4294967295 : Int64)))
    refine zk_LMi (As := [.int (xs (x3 + (1 : Int32)).toNatClampNeg), .int (xs (x3 + (2 : Int32)).toNatClampNeg), .long ((((xs (x3 + (3 : Int32)).toNatClampNeg).toInt64) <<< ((32 : Int32).toInt64 &&& 63)) ||| (((xs (x3 + (4 : Int32)).toNatClampNeg).toInt64) &&& (4294967295 : Int64)))]) (rest := []) hE hO hM2 ⟨hx, hb, hml, hown, ht⟩ (cwV 3 ht gl_157 rfl rfl rfl (by decide +kernel) ⟨Nat.le_of_ble_eq_true rfl, Nat.le_of_ble_eq_true rfl⟩) (va_recv hK hP (ci := 12) (q0 := 0) rfl rfl) hP hD hS hK hA rfl hl.1 (Nat.le_of_ble_eq_true rfl) dL_law_1385 ⟨by show _ ≤ 600000; omega, by show _ ≤ 7302250; omega⟩ (fun H locs hP hD hS => ?_)
    refine lv_pop hx hb dL_law_1388 rfl ?_
    refine lv_goto (tgt := 1544) hx hb dL_law_1389 (by decide) ?_
    exact kk _ _ H locs ls _ _ hI2 hJ2 trivial (by omega) (by omega) hP hD hS (lv_sub hl [0, 1, 2, 3] rfl)
  · refine lv_aload_n hx hb dL_law_1319 rfl (lv_at hl 1 rfl) ?_
    refine lv_aload_n hx hb dL_law_1320 rfl (lv_at hl 0 rfl) ?_
    refine lv_iload_n hx hb dL_law_1321 rfl (lv_at hl 3 rfl) ?_
    refine lv_iconst (v := (1 : Int32)) hx hb dL_law_1322 (by decide) ?_
    refine lv_iadd hx hb dL_law_1323 ?_
    refine va_sld hx hb hX hbl hbA hS (zl_in h3 hL (by decide)) dL_law_1324 ?_
    refine lv_aload_n hx hb dL_law_1325 rfl (lv_at hl 0 rfl) ?_
    refine lv_iload_n hx hb dL_law_1326 rfl (lv_at hl 3 rfl) ?_
    refine lv_iconst (v := (2 : Int32)) hx hb dL_law_1327 (by decide) ?_
    refine lv_iadd hx hb dL_law_1328 ?_
    refine va_sld hx hb hX hbl hbA hS (zl_in h3 hL (by decide)) dL_law_1329 ?_
    refine lv_aload_n hx hb dL_law_1330 rfl (lv_at hl 0 rfl) ?_
    refine lv_iload_n hx hb dL_law_1331 rfl (lv_at hl 3 rfl) ?_
    refine lv_iconst (v := (3 : Int32)) hx hb dL_law_1332 (by decide) ?_
    refine lv_iadd hx hb dL_law_1333 ?_
    refine va_sld hx hb hX hbl hbA hS (zl_in h3 hL (by decide)) dL_law_1334 ?_
    refine lv_i2l (v := (xs (x3 + (3 : Int32)).toNatClampNeg).toInt64) hx hb dL_law_1335 rfl ?_
    refine lv_bipush (v := (32 : Int32)) hx hb dL_law_1336 (by decide) ?_
    refine lv_lshl (v := ((xs (x3 + (3 : Int32)).toNatClampNeg).toInt64) <<< ((32 : Int32).toInt64 &&& 63)) hx hb dL_law_1338 rfl ?_
    refine lv_aload_n hx hb dL_law_1339 rfl (lv_at hl 0 rfl) ?_
    refine lv_iload_n hx hb dL_law_1340 rfl (lv_at hl 3 rfl) ?_
    refine lv_iconst (v := (4 : Int32)) hx hb dL_law_1341 (by decide) ?_
    refine lv_iadd hx hb dL_law_1342 ?_
    refine va_sld hx hb hX hbl hbA hS (zl_in h3 hL (by decide)) dL_law_1343 ?_
    refine lv_i2l (v := (xs (x3 + (4 : Int32)).toNatClampNeg).toInt64) hx hb dL_law_1344 rfl ?_
    refine lv_ldc2 (v := (4294967295 : Int64)) hx hb hown (ht _ kw_1902) dL_law_1345 ?_
    refine lv_land hx hb dL_law_1348 ?_
    refine lv_lor hx hb dL_law_1349 ?_
    obtain ⟨R1, hf1, hI2, hM1⟩ := K_X11_put_5 l D cs k H.size ad z hI (xs (x3 + (1 : Int32)).toNatClampNeg) (xs (x3 + (2 : Int32)).toNatClampNeg) ((((xs (x3 + (3 : Int32)).toNatClampNeg).toInt64) <<< ((32 : Int32).toInt64 &&& 63)) ||| (((xs (x3 + (4 : Int32)).toNatClampNeg).toInt64) &&& (4294967295 : Int64))) hp0
    refine zk_LXi (As := [.int (xs (x3 + (1 : Int32)).toNatClampNeg), .int (xs (x3 + (2 : Int32)).toNatClampNeg), .long ((((xs (x3 + (3 : Int32)).toNatClampNeg).toInt64) <<< ((32 : Int32).toInt64 &&& 63)) ||| (((xs (x3 + (4 : Int32)).toNatClampNeg).toInt64) &&& (4294967295 : Int64)))]) (rest := []) hE hO hM1 ⟨hx, hb, hml, hown, ht⟩ (cwV 3 ht gl_153 rfl rfl rfl (by decide +kernel) ⟨Nat.le_of_ble_eq_true rfl, Nat.le_of_ble_eq_true rfl⟩) (va_recv hK hP (ci := 11) (q0 := 44) rfl rfl) hP hD hS hK hA rfl hl.1 (Nat.le_of_ble_eq_true rfl) dL_law_1350 ⟨by show _ ≤ 600000; omega, by show _ ≤ 7302250; omega⟩ (fun H locs hP hD hS => ?_)
    refine lv_pop hx hb dL_law_1353 rfl ?_
    refine lv_aload_n hx hb dL_law_1354 rfl (lv_at hl 2 rfl) ?_
    refine lv_aload_n hx hb dL_law_1355 rfl (lv_at hl 0 rfl) ?_
    refine lv_iload_n hx hb dL_law_1356 rfl (lv_at hl 3 rfl) ?_
    refine lv_iconst (v := (1 : Int32)) hx hb dL_law_1357 (by decide) ?_
    refine lv_iadd hx hb dL_law_1358 ?_
    refine va_sld hx hb hX hbl hbA hS (zl_in h3 hL (by decide)) dL_law_1359 ?_
    refine lv_aload_n hx hb dL_law_1360 rfl (lv_at hl 0 rfl) ?_
    refine lv_iload_n hx hb dL_law_1361 rfl (lv_at hl 3 rfl) ?_
    refine lv_iconst (v := (2 : Int32)) hx hb dL_law_1362 (by decide) ?_
    refine lv_iadd hx hb dL_law_1363 ?_
    refine va_sld hx hb hX hbl hbA hS (zl_in h3 hL (by decide)) dL_law_1364 ?_
    refine lv_aload_n hx hb dL_law_1365 rfl (lv_at hl 0 rfl) ?_
    refine lv_iload_n hx hb dL_law_1366 rfl (lv_at hl 3 rfl) ?_
    refine lv_iconst (v := (3 : Int32)) hx hb dL_law_1367 (by decide) ?_
    refine lv_iadd hx hb dL_law_1368 ?_
    refine va_sld hx hb hX hbl hbA hS (zl_in h3 hL (by decide)) dL_law_1369 ?_
    refine lv_i2l (v := (xs (x3 + (3 : Int32)).toNatClampNeg).toInt64) hx hb dL_law_1370 rfl ?_
    refine lv_bipush (v := (32 : Int32)) hx hb dL_law_1371 (by decide) ?_
    refine lv_lshl (v := ((xs (x3 + (3 : Int32)).toNatClampNeg).toInt64) <<< ((32 : Int32).toInt64 &&& 63)) hx hb dL_law_1373 rfl ?_
    refine lv_aload_n hx hb dL_law_1374 rfl (lv_at hl 0 rfl) ?_
    refine lv_iload_n hx hb dL_law_1375 rfl (lv_at hl 3 rfl) ?_
    refine lv_iconst (v := (4 : Int32)) hx hb dL_law_1376 (by decide) ?_
    refine lv_iadd hx hb dL_law_1377 ?_
    refine va_sld hx hb hX hbl hbA hS (zl_in h3 hL (by decide)) dL_law_1378 ?_
    refine lv_i2l (v := (xs (x3 + (4 : Int32)).toNatClampNeg).toInt64) hx hb dL_law_1379 rfl ?_
    refine lv_ldc2 (v := (4294967295 : Int64)) hx hb hown (ht _ kw_1902) dL_law_1380 ?_
    refine lv_land hx hb dL_law_1383 ?_
    refine lv_lor hx hb dL_law_1384 ?_
    obtain ⟨R2, hf2, hJ2, hM2⟩ := K_X12_put l D cs k H.size am w hJ (xs (x3 + (1 : Int32)).toNatClampNeg) (xs (x3 + (2 : Int32)).toNatClampNeg) ((((xs (x3 + (3 : Int32)).toNatClampNeg).toInt64) <<< ((32 : Int32).toInt64 &&& 63)) ||| (((xs (x3 + (4 : Int32)).toNatClampNeg).toInt64) &&& (4294967295 : Int64)))
    refine zk_LMi (As := [.int (xs (x3 + (1 : Int32)).toNatClampNeg), .int (xs (x3 + (2 : Int32)).toNatClampNeg), .long ((((xs (x3 + (3 : Int32)).toNatClampNeg).toInt64) <<< ((32 : Int32).toInt64 &&& 63)) ||| (((xs (x3 + (4 : Int32)).toNatClampNeg).toInt64) &&& (4294967295 : Int64)))]) (rest := []) hE hO hM2 ⟨hx, hb, hml, hown, ht⟩ (cwV 3 ht gl_157 rfl rfl rfl (by decide +kernel) ⟨Nat.le_of_ble_eq_true rfl, Nat.le_of_ble_eq_true rfl⟩) (va_recv hK hP (ci := 12) (q0 := 0) rfl rfl) hP hD hS hK hA rfl hl.1 (Nat.le_of_ble_eq_true rfl) dL_law_1385 ⟨by show _ ≤ 600000; omega, by show _ ≤ 7302250; omega⟩ (fun H locs hP hD hS => ?_)
    refine lv_pop hx hb dL_law_1388 rfl ?_
    refine lv_goto (tgt := 1544) hx hb dL_law_1389 (by decide) ?_
    exact kk _ _ H locs ls _ _ hI2 hJ2 trivial (by omega) (by omega) hP hD hS (lv_sub hl [0, 1, 2, 3] rfl)
theorem dL_law_1392 : decode cL_law 1392 = .ok (.aload_n 1, 1) := by decide +kernel
theorem dL_law_1393 : decode cL_law 1393 = .ok (.aload_n 0, 1) := by decide +kernel
theorem dL_law_1394 : decode cL_law 1394 = .ok (.iload_n 3, 1) := by decide +kernel
theorem dL_law_1395 : decode cL_law 1395 = .ok (.iconst 1, 1) := by decide +kernel
theorem dL_law_1396 : decode cL_law 1396 = .ok (.iadd, 1) := by decide +kernel
theorem dL_law_1397 : decode cL_law 1397 = .ok (.iaload, 1) := by decide +kernel
theorem dL_law_1398 : decode cL_law 1398 = .ok (.aload_n 0, 1) := by decide +kernel
theorem dL_law_1399 : decode cL_law 1399 = .ok (.iload_n 3, 1) := by decide +kernel
theorem dL_law_1400 : decode cL_law 1400 = .ok (.iconst 2, 1) := by decide +kernel
theorem dL_law_1401 : decode cL_law 1401 = .ok (.iadd, 1) := by decide +kernel
theorem dL_law_1402 : decode cL_law 1402 = .ok (.iaload, 1) := by decide +kernel
theorem dL_law_1403 : decode cL_law 1403 = .ok (.invokevirtual 158, 3) := by decide +kernel
theorem dL_law_1406 : decode cL_law 1406 = .ok (.pop2, 1) := by decide +kernel
theorem dL_law_1407 : decode cL_law 1407 = .ok (.aload_n 2, 1) := by decide +kernel
theorem dL_law_1408 : decode cL_law 1408 = .ok (.aload_n 0, 1) := by decide +kernel
theorem dL_law_1409 : decode cL_law 1409 = .ok (.iload_n 3, 1) := by decide +kernel
theorem dL_law_1410 : decode cL_law 1410 = .ok (.iconst 1, 1) := by decide +kernel
theorem dL_law_1411 : decode cL_law 1411 = .ok (.iadd, 1) := by decide +kernel
theorem dL_law_1412 : decode cL_law 1412 = .ok (.iaload, 1) := by decide +kernel
theorem dL_law_1413 : decode cL_law 1413 = .ok (.aload_n 0, 1) := by decide +kernel
theorem dL_law_1414 : decode cL_law 1414 = .ok (.iload_n 3, 1) := by decide +kernel
theorem dL_law_1415 : decode cL_law 1415 = .ok (.iconst 2, 1) := by decide +kernel
theorem dL_law_1416 : decode cL_law 1416 = .ok (.iadd, 1) := by decide +kernel
theorem dL_law_1417 : decode cL_law 1417 = .ok (.iaload, 1) := by decide +kernel
theorem dL_law_1418 : decode cL_law 1418 = .ok (.invokevirtual 161, 3) := by decide +kernel
theorem dL_law_1421 : decode cL_law 1421 = .ok (.pop2, 1) := by decide +kernel
theorem dL_law_1422 : decode cL_law 1422 = .ok (.goto 122, 3) := by decide +kernel
set_option maxHeartbeats 8000000 in
set_option maxRecDepth 100000 in
theorem law_case_34 {p : Program} {l : Launch} {e : Env} {s : State} {m : MethodId} {below : List Frame} {meth : Method} {c : Code} {b L : Nat} {xs : Nat → Int32} {D : va_G} {cs : Nat → ClassId} {k : (Nat → Nat) × (Nat → Nat)} {ad am : Nat → Nat} (C0 : lw_At p s m meth c b L xs) (hK : va_K D classes (zT cs) s) (hO : zO s) (hE : zE k (fun q : Nat => s.heap.size ≤ q) s) (hL : L ≤ 3072) (x3 : Int32) (h3 : 0 ≤ x3.toInt ∧ x3.toInt + 6 ≤ (L : Int)) (z : ZT) (w : MT) (hI : IX ad cs z) (hJ : IM w) (hr : RL z w) (cells slots : Nat) (hc : cells + 2 ≤ 600000) (hs : slots + 122 ≤ 7302250) (H : Heap) (locs : List Loc) (ls : Array Slot) (hP : va_P D classes (WM am cs w ++ WX ad cs z) H) (hD : va_D (fun q : Nat => s.heap.size ≤ q) (WM am cs w ++ WX ad cs z)) (hS : va_S (fun q : Nat => s.heap.size ≤ q) s.heap H locs) (hl : lv_has ls 4 [(0, .ref b), (1, .ref (ad 0)), (2, .ref (am 41)), (3, .int x3)]) (kk : ∀ (z2 : ZT) (w2 : MT) (H : Heap) (locs : List Loc) (ls : Array Slot) (cells2 slots2 : Nat), IX ad cs z2 → IM w2 → RL z2 w2 → cells2 ≤ cells + 2 → slots2 ≤ slots + 122 → va_P D classes (WM am cs w2 ++ WX ad cs z2) H → va_D (fun q : Nat => s.heap.size ≤ q) (WM am cs w2 ++ WX ad cs z2) → va_S (fun q : Nat => s.heap.size ≤ q) s.heap H locs → lv_has ls 4 [(0, .ref b), (1, .ref (ad 0)), (2, .ref (am 41)), (3, .int x3)] → W p l e room_1 s m #[Value.ref b] below meth c H locs cells2 slots2 (lw_Z below #[Value.ref b] s) (F0 m 1544 ls [])) : W p l e room_1 s m #[Value.ref b] below meth c H locs cells slots (lw_Z below #[Value.ref b] s) (F0 m 1392 ls []) := by
  obtain ⟨hx, hb, hret, hml, hown, hts, hX, hbl, hlocks, hgv⟩ := id C0
  have hA : ∀ q : Nat, s.heap.size ≤ q → (fun q : Nat => s.heap.size ≤ q) q := fun _ h => h
  have hbA : ¬ (fun q : Nat => s.heap.size ≤ q) b := Nat.not_le.mpr hbl
  have ht : ∀ w ∈ zW, w.before #[Value.ref b] s = true := fun w hw => hts w (List.mem_filter.mp hw).1
  obtain ⟨j0, hj0, hp0⟩ := zk_pl (xs (x3 + (1 : Int32)).toNatClampNeg)
  rcases (show j0 = 0 ∨ j0 = 1 ∨ j0 = 2 ∨ j0 = 3 ∨ j0 = 4 ∨ j0 = 5 by omega) with rfl | rfl | rfl | rfl | rfl | rfl
  · refine lv_aload_n hx hb dL_law_1392 rfl (lv_at hl 1 rfl) ?_
    refine lv_aload_n hx hb dL_law_1393 rfl (lv_at hl 0 rfl) ?_
    refine lv_iload_n hx hb dL_law_1394 rfl (lv_at hl 3 rfl) ?_
    refine lv_iconst (v := (1 : Int32)) hx hb dL_law_1395 (by decide) ?_
    refine lv_iadd hx hb dL_law_1396 ?_
    refine va_sld hx hb hX hbl hbA hS (zl_in h3 hL (by decide)) dL_law_1397 ?_
    refine lv_aload_n hx hb dL_law_1398 rfl (lv_at hl 0 rfl) ?_
    refine lv_iload_n hx hb dL_law_1399 rfl (lv_at hl 3 rfl) ?_
    refine lv_iconst (v := (2 : Int32)) hx hb dL_law_1400 (by decide) ?_
    refine lv_iadd hx hb dL_law_1401 ?_
    refine va_sld hx hb hX hbl hbA hS (zl_in h3 hL (by decide)) dL_law_1402 ?_
    obtain ⟨R1, hf1, hI2, hM1⟩ := K_X11_element_0 l D cs k H.size ad z hI (xs (x3 + (1 : Int32)).toNatClampNeg) (xs (x3 + (2 : Int32)).toNatClampNeg) hp0
    refine zk_LXl (As := [.int (xs (x3 + (1 : Int32)).toNatClampNeg), .int (xs (x3 + (2 : Int32)).toNatClampNeg)]) (rest := []) hE hO hM1 ⟨hx, hb, hml, hown, ht⟩ (cwV 2 ht gl_158 rfl rfl rfl (by decide +kernel) ⟨Nat.le_of_ble_eq_true rfl, Nat.le_of_ble_eq_true rfl⟩) (va_recv hK hP (ci := 11) (q0 := 44) rfl rfl) hP hD hS hK hA rfl hl.1 (Nat.le_of_ble_eq_true rfl) dL_law_1403 ⟨by show _ ≤ 600000; omega, by show _ ≤ 7302250; omega⟩ (fun H locs hP hD hS => ?_)
    refine lv_pop2_2 hx hb dL_law_1406 rfl ?_
    refine lv_aload_n hx hb dL_law_1407 rfl (lv_at hl 2 rfl) ?_
    refine lv_aload_n hx hb dL_law_1408 rfl (lv_at hl 0 rfl) ?_
    refine lv_iload_n hx hb dL_law_1409 rfl (lv_at hl 3 rfl) ?_
    refine lv_iconst (v := (1 : Int32)) hx hb dL_law_1410 (by decide) ?_
    refine lv_iadd hx hb dL_law_1411 ?_
    refine va_sld hx hb hX hbl hbA hS (zl_in h3 hL (by decide)) dL_law_1412 ?_
    refine lv_aload_n hx hb dL_law_1413 rfl (lv_at hl 0 rfl) ?_
    refine lv_iload_n hx hb dL_law_1414 rfl (lv_at hl 3 rfl) ?_
    refine lv_iconst (v := (2 : Int32)) hx hb dL_law_1415 (by decide) ?_
    refine lv_iadd hx hb dL_law_1416 ?_
    refine va_sld hx hb hX hbl hbA hS (zl_in h3 hL (by decide)) dL_law_1417 ?_
    obtain ⟨R2, hf2, hJ2, hM2⟩ := K_X12_element l D cs k H.size am w hJ (xs (x3 + (1 : Int32)).toNatClampNeg) (xs (x3 + (2 : Int32)).toNatClampNeg)
    refine zk_LMl (As := [.int (xs (x3 + (1 : Int32)).toNatClampNeg), .int (xs (x3 + (2 : Int32)).toNatClampNeg)]) (rest := []) hE hO hM2 ⟨hx, hb, hml, hown, ht⟩ (cwV 2 ht gl_161 rfl rfl rfl (by decide +kernel) ⟨Nat.le_of_ble_eq_true rfl, Nat.le_of_ble_eq_true rfl⟩) (va_recv hK hP (ci := 12) (q0 := 0) rfl rfl) hP hD hS hK hA rfl hl.1 (Nat.le_of_ble_eq_true rfl) dL_law_1418 ⟨by show _ ≤ 600000; omega, by show _ ≤ 7302250; omega⟩ (fun H locs hP hD hS => ?_)
    refine lv_pop2_2 hx hb dL_law_1421 rfl ?_
    refine lv_goto (tgt := 1544) hx hb dL_law_1422 (by decide) ?_
    exact kk _ _ H locs ls _ _ hI2 hJ2 trivial (by omega) (by omega) hP hD hS (lv_sub hl [0, 1, 2, 3] rfl)
  · refine lv_aload_n hx hb dL_law_1392 rfl (lv_at hl 1 rfl) ?_
    refine lv_aload_n hx hb dL_law_1393 rfl (lv_at hl 0 rfl) ?_
    refine lv_iload_n hx hb dL_law_1394 rfl (lv_at hl 3 rfl) ?_
    refine lv_iconst (v := (1 : Int32)) hx hb dL_law_1395 (by decide) ?_
    refine lv_iadd hx hb dL_law_1396 ?_
    refine va_sld hx hb hX hbl hbA hS (zl_in h3 hL (by decide)) dL_law_1397 ?_
    refine lv_aload_n hx hb dL_law_1398 rfl (lv_at hl 0 rfl) ?_
    refine lv_iload_n hx hb dL_law_1399 rfl (lv_at hl 3 rfl) ?_
    refine lv_iconst (v := (2 : Int32)) hx hb dL_law_1400 (by decide) ?_
    refine lv_iadd hx hb dL_law_1401 ?_
    refine va_sld hx hb hX hbl hbA hS (zl_in h3 hL (by decide)) dL_law_1402 ?_
    obtain ⟨R1, hf1, hI2, hM1⟩ := K_X11_element_1 l D cs k H.size ad z hI (xs (x3 + (1 : Int32)).toNatClampNeg) (xs (x3 + (2 : Int32)).toNatClampNeg) hp0
    refine zk_LXl (As := [.int (xs (x3 + (1 : Int32)).toNatClampNeg), .int (xs (x3 + (2 : Int32)).toNatClampNeg)]) (rest := []) hE hO hM1 ⟨hx, hb, hml, hown, ht⟩ (cwV 2 ht gl_158 rfl rfl rfl (by decide +kernel) ⟨Nat.le_of_ble_eq_true rfl, Nat.le_of_ble_eq_true rfl⟩) (va_recv hK hP (ci := 11) (q0 := 44) rfl rfl) hP hD hS hK hA rfl hl.1 (Nat.le_of_ble_eq_true rfl) dL_law_1403 ⟨by show _ ≤ 600000; omega, by show _ ≤ 7302250; omega⟩ (fun H locs hP hD hS => ?_)
    refine lv_pop2_2 hx hb dL_law_1406 rfl ?_
    refine lv_aload_n hx hb dL_law_1407 rfl (lv_at hl 2 rfl) ?_
    refine lv_aload_n hx hb dL_law_1408 rfl (lv_at hl 0 rfl) ?_
    refine lv_iload_n hx hb dL_law_1409 rfl (lv_at hl 3 rfl) ?_
    refine lv_iconst (v := (1 : Int32)) hx hb dL_law_1410 (by decide) ?_
    refine lv_iadd hx hb dL_law_1411 ?_
    refine va_sld hx hb hX hbl hbA hS (zl_in h3 hL (by decide)) dL_law_1412 ?_
    refine lv_aload_n hx hb dL_law_1413 rfl (lv_at hl 0 rfl) ?_
    refine lv_iload_n hx hb dL_law_1414 rfl (lv_at hl 3 rfl) ?_
    refine lv_iconst (v := (2 : Int32)) hx hb dL_law_1415 (by decide) ?_
    refine lv_iadd hx hb dL_law_1416 ?_
    refine va_sld hx hb hX hbl hbA hS (zl_in h3 hL (by decide)) dL_law_1417 ?_
    obtain ⟨R2, hf2, hJ2, hM2⟩ := K_X12_element l D cs k H.size am w hJ (xs (x3 + (1 : Int32)).toNatClampNeg) (xs (x3 + (2 : Int32)).toNatClampNeg)
    refine zk_LMl (As := [.int (xs (x3 + (1 : Int32)).toNatClampNeg), .int (xs (x3 + (2 : Int32)).toNatClampNeg)]) (rest := []) hE hO hM2 ⟨hx, hb, hml, hown, ht⟩ (cwV 2 ht gl_161 rfl rfl rfl (by decide +kernel) ⟨Nat.le_of_ble_eq_true rfl, Nat.le_of_ble_eq_true rfl⟩) (va_recv hK hP (ci := 12) (q0 := 0) rfl rfl) hP hD hS hK hA rfl hl.1 (Nat.le_of_ble_eq_true rfl) dL_law_1418 ⟨by show _ ≤ 600000; omega, by show _ ≤ 7302250; omega⟩ (fun H locs hP hD hS => ?_)
    refine lv_pop2_2 hx hb dL_law_1421 rfl ?_
    refine lv_goto (tgt := 1544) hx hb dL_law_1422 (by decide) ?_
    exact kk _ _ H locs ls _ _ hI2 hJ2 trivial (by omega) (by omega) hP hD hS (lv_sub hl [0, 1, 2, 3] rfl)
  · refine lv_aload_n hx hb dL_law_1392 rfl (lv_at hl 1 rfl) ?_
    refine lv_aload_n hx hb dL_law_1393 rfl (lv_at hl 0 rfl) ?_
    refine lv_iload_n hx hb dL_law_1394 rfl (lv_at hl 3 rfl) ?_
    refine lv_iconst (v := (1 : Int32)) hx hb dL_law_1395 (by decide) ?_
    refine lv_iadd hx hb dL_law_1396 ?_
    refine va_sld hx hb hX hbl hbA hS (zl_in h3 hL (by decide)) dL_law_1397 ?_
    refine lv_aload_n hx hb dL_law_1398 rfl (lv_at hl 0 rfl) ?_
    refine lv_iload_n hx hb dL_law_1399 rfl (lv_at hl 3 rfl) ?_
    refine lv_iconst (v := (2 : Int32)) hx hb dL_law_1400 (by decide) ?_
    refine lv_iadd hx hb dL_law_1401 ?_
    refine va_sld hx hb hX hbl hbA hS (zl_in h3 hL (by decide)) dL_law_1402 ?_
    obtain ⟨R1, hf1, hI2, hM1⟩ := K_X11_element_2 l D cs k H.size ad z hI (xs (x3 + (1 : Int32)).toNatClampNeg) (xs (x3 + (2 : Int32)).toNatClampNeg) hp0
    refine zk_LXl (As := [.int (xs (x3 + (1 : Int32)).toNatClampNeg), .int (xs (x3 + (2 : Int32)).toNatClampNeg)]) (rest := []) hE hO hM1 ⟨hx, hb, hml, hown, ht⟩ (cwV 2 ht gl_158 rfl rfl rfl (by decide +kernel) ⟨Nat.le_of_ble_eq_true rfl, Nat.le_of_ble_eq_true rfl⟩) (va_recv hK hP (ci := 11) (q0 := 44) rfl rfl) hP hD hS hK hA rfl hl.1 (Nat.le_of_ble_eq_true rfl) dL_law_1403 ⟨by show _ ≤ 600000; omega, by show _ ≤ 7302250; omega⟩ (fun H locs hP hD hS => ?_)
    refine lv_pop2_2 hx hb dL_law_1406 rfl ?_
    refine lv_aload_n hx hb dL_law_1407 rfl (lv_at hl 2 rfl) ?_
    refine lv_aload_n hx hb dL_law_1408 rfl (lv_at hl 0 rfl) ?_
    refine lv_iload_n hx hb dL_law_1409 rfl (lv_at hl 3 rfl) ?_
    refine lv_iconst (v := (1 : Int32)) hx hb dL_law_1410 (by decide) ?_
    refine lv_iadd hx hb dL_law_1411 ?_
    refine va_sld hx hb hX hbl hbA hS (zl_in h3 hL (by decide)) dL_law_1412 ?_
    refine lv_aload_n hx hb dL_law_1413 rfl (lv_at hl 0 rfl) ?_
    refine lv_iload_n hx hb dL_law_1414 rfl (lv_at hl 3 rfl) ?_
    refine lv_iconst (v := (2 : Int32)) hx hb dL_law_1415 (by decide) ?_
    refine lv_iadd hx hb dL_law_1416 ?_
    refine va_sld hx hb hX hbl hbA hS (zl_in h3 hL (by decide)) dL_law_1417 ?_
    obtain ⟨R2, hf2, hJ2, hM2⟩ := K_X12_element l D cs k H.size am w hJ (xs (x3 + (1 : Int32)).toNatClampNeg) (xs (x3 + (2 : Int32)).toNatClampNeg)
    refine zk_LMl (As := [.int (xs (x3 + (1 : Int32)).toNatClampNeg), .int (xs (x3 + (2 : Int32)).toNatClampNeg)]) (rest := []) hE hO hM2 ⟨hx, hb, hml, hown, ht⟩ (cwV 2 ht gl_161 rfl rfl rfl (by decide +kernel) ⟨Nat.le_of_ble_eq_true rfl, Nat.le_of_ble_eq_true rfl⟩) (va_recv hK hP (ci := 12) (q0 := 0) rfl rfl) hP hD hS hK hA rfl hl.1 (Nat.le_of_ble_eq_true rfl) dL_law_1418 ⟨by show _ ≤ 600000; omega, by show _ ≤ 7302250; omega⟩ (fun H locs hP hD hS => ?_)
    refine lv_pop2_2 hx hb dL_law_1421 rfl ?_
    refine lv_goto (tgt := 1544) hx hb dL_law_1422 (by decide) ?_
    exact kk _ _ H locs ls _ _ hI2 hJ2 trivial (by omega) (by omega) hP hD hS (lv_sub hl [0, 1, 2, 3] rfl)
  · refine lv_aload_n hx hb dL_law_1392 rfl (lv_at hl 1 rfl) ?_
    refine lv_aload_n hx hb dL_law_1393 rfl (lv_at hl 0 rfl) ?_
    refine lv_iload_n hx hb dL_law_1394 rfl (lv_at hl 3 rfl) ?_
    refine lv_iconst (v := (1 : Int32)) hx hb dL_law_1395 (by decide) ?_
    refine lv_iadd hx hb dL_law_1396 ?_
    refine va_sld hx hb hX hbl hbA hS (zl_in h3 hL (by decide)) dL_law_1397 ?_
    refine lv_aload_n hx hb dL_law_1398 rfl (lv_at hl 0 rfl) ?_
    refine lv_iload_n hx hb dL_law_1399 rfl (lv_at hl 3 rfl) ?_
    refine lv_iconst (v := (2 : Int32)) hx hb dL_law_1400 (by decide) ?_
    refine lv_iadd hx hb dL_law_1401 ?_
    refine va_sld hx hb hX hbl hbA hS (zl_in h3 hL (by decide)) dL_law_1402 ?_
    obtain ⟨R1, hf1, hI2, hM1⟩ := K_X11_element_3 l D cs k H.size ad z hI (xs (x3 + (1 : Int32)).toNatClampNeg) (xs (x3 + (2 : Int32)).toNatClampNeg) hp0
    refine zk_LXl (As := [.int (xs (x3 + (1 : Int32)).toNatClampNeg), .int (xs (x3 + (2 : Int32)).toNatClampNeg)]) (rest := []) hE hO hM1 ⟨hx, hb, hml, hown, ht⟩ (cwV 2 ht gl_158 rfl rfl rfl (by decide +kernel) ⟨Nat.le_of_ble_eq_true rfl, Nat.le_of_ble_eq_true rfl⟩) (va_recv hK hP (ci := 11) (q0 := 44) rfl rfl) hP hD hS hK hA rfl hl.1 (Nat.le_of_ble_eq_true rfl) dL_law_1403 ⟨by show _ ≤ 600000; omega, by show _ ≤ 7302250; omega⟩ (fun H locs hP hD hS => ?_)
    refine lv_pop2_2 hx hb dL_law_1406 rfl ?_
    refine lv_aload_n hx hb dL_law_1407 rfl (lv_at hl 2 rfl) ?_
    refine lv_aload_n hx hb dL_law_1408 rfl (lv_at hl 0 rfl) ?_
    refine lv_iload_n hx hb dL_law_1409 rfl (lv_at hl 3 rfl) ?_
    refine lv_iconst (v := (1 : Int32)) hx hb dL_law_1410 (by decide) ?_
    refine lv_iadd hx hb dL_law_1411 ?_
    refine va_sld hx hb hX hbl hbA hS (zl_in h3 hL (by decide)) dL_law_1412 ?_
    refine lv_aload_n hx hb dL_law_1413 rfl (lv_at hl 0 rfl) ?_
    refine lv_iload_n hx hb dL_law_1414 rfl (lv_at hl 3 rfl) ?_
    refine lv_iconst (v := (2 : Int32)) hx hb dL_law_1415 (by decide) ?_
    refine lv_iadd hx hb dL_law_1416 ?_
    refine va_sld hx hb hX hbl hbA hS (zl_in h3 hL (by decide)) dL_law_1417 ?_
    obtain ⟨R2, hf2, hJ2, hM2⟩ := K_X12_element l D cs k H.size am w hJ (xs (x3 + (1 : Int32)).toNatClampNeg) (xs (x3 + (2 : Int32)).toNatClampNeg)
    refine zk_LMl (As := [.int (xs (x3 + (1 : Int32)).toNatClampNeg), .int (xs (x3 + (2 : Int32)).toNatClampNeg)]) (rest := []) hE hO hM2 ⟨hx, hb, hml, hown, ht⟩ (cwV 2 ht gl_161 rfl rfl rfl (by decide +kernel) ⟨Nat.le_of_ble_eq_true rfl, Nat.le_of_ble_eq_true rfl⟩) (va_recv hK hP (ci := 12) (q0 := 0) rfl rfl) hP hD hS hK hA rfl hl.1 (Nat.le_of_ble_eq_true rfl) dL_law_1418 ⟨by show _ ≤ 600000; omega, by show _ ≤ 7302250; omega⟩ (fun H locs hP hD hS => ?_)
    refine lv_pop2_2 hx hb dL_law_1421 rfl ?_
    refine lv_goto (tgt := 1544) hx hb dL_law_1422 (by decide) ?_
    exact kk _ _ H locs ls _ _ hI2 hJ2 trivial (by omega) (by omega) hP hD hS (lv_sub hl [0, 1, 2, 3] rfl)
  · refine lv_aload_n hx hb dL_law_1392 rfl (lv_at hl 1 rfl) ?_
    refine lv_aload_n hx hb dL_law_1393 rfl (lv_at hl 0 rfl) ?_
    refine lv_iload_n hx hb dL_law_1394 rfl (lv_at hl 3 rfl) ?_
    refine lv_iconst (v := (1 : Int32)) hx hb dL_law_1395 (by decide) ?_
    refine lv_iadd hx hb dL_law_1396 ?_
    refine va_sld hx hb hX hbl hbA hS (zl_in h3 hL (by decide)) dL_law_1397 ?_
    refine lv_aload_n hx hb dL_law_1398 rfl (lv_at hl 0 rfl) ?_
    refine lv_iload_n hx hb dL_law_1399 rfl (lv_at hl 3 rfl) ?_
    refine lv_iconst (v := (2 : Int32)) hx hb dL_law_1400 (by decide) ?_
    refine lv_iadd hx hb dL_law_1401 ?_
    refine va_sld hx hb hX hbl hbA hS (zl_in h3 hL (by decide)) dL_law_1402 ?_
    obtain ⟨R1, hf1, hI2, hM1⟩ := K_X11_element_4 l D cs k H.size ad z hI (xs (x3 + (1 : Int32)).toNatClampNeg) (xs (x3 + (2 : Int32)).toNatClampNeg) hp0
    refine zk_LXl (As := [.int (xs (x3 + (1 : Int32)).toNatClampNeg), .int (xs (x3 + (2 : Int32)).toNatClampNeg)]) (rest := []) hE hO hM1 ⟨hx, hb, hml, hown, ht⟩ (cwV 2 ht gl_158 rfl rfl rfl (by decide +kernel) ⟨Nat.le_of_ble_eq_true rfl, Nat.le_of_ble_eq_true rfl⟩) (va_recv hK hP (ci := 11) (q0 := 44) rfl rfl) hP hD hS hK hA rfl hl.1 (Nat.le_of_ble_eq_true rfl) dL_law_1403 ⟨by show _ ≤ 600000; omega, by show _ ≤ 7302250; omega⟩ (fun H locs hP hD hS => ?_)
    refine lv_pop2_2 hx hb dL_law_1406 rfl ?_
    refine lv_aload_n hx hb dL_law_1407 rfl (lv_at hl 2 rfl) ?_
    refine lv_aload_n hx hb dL_law_1408 rfl (lv_at hl 0 rfl) ?_
    refine lv_iload_n hx hb dL_law_1409 rfl (lv_at hl 3 rfl) ?_
    refine lv_iconst (v := (1 : Int32)) hx hb dL_law_1410 (by decide) ?_
    refine lv_iadd hx hb dL_law_1411 ?_
    refine va_sld hx hb hX hbl hbA hS (zl_in h3 hL (by decide)) dL_law_1412 ?_
    refine lv_aload_n hx hb dL_law_1413 rfl (lv_at hl 0 rfl) ?_
    refine lv_iload_n hx hb dL_law_1414 rfl (lv_at hl 3 rfl) ?_
    refine lv_iconst (v := (2 : Int32)) hx hb dL_law_1415 (by decide) ?_
    refine lv_iadd hx hb dL_law_1416 ?_
    refine va_sld hx hb hX hbl hbA hS (zl_in h3 hL (by decide)) dL_law_1417 ?_
    obtain ⟨R2, hf2, hJ2, hM2⟩ := K_X12_element l D cs k H.size am w hJ (xs (x3 + (1 : Int32)).toNatClampNeg) (xs (x3 + (2 : Int32)).toNatClampNeg)
    refine zk_LMl (As := [.int (xs (x3 + (1 : Int32)).toNatClampNeg), .int (xs (x3 + (2 : Int32)).toNatClampNeg)]) (rest := []) hE hO hM2 ⟨hx, hb, hml, hown, ht⟩ (cwV 2 ht gl_161 rfl rfl rfl (by decide +kernel) ⟨Nat.le_of_ble_eq_true rfl, Nat.le_of_ble_eq_true rfl⟩) (va_recv hK hP (ci := 12) (q0 := 0) rfl rfl) hP hD hS hK hA rfl hl.1 (Nat.le_of_ble_eq_true rfl) dL_law_1418 ⟨by show _ ≤ 600000; omega, by show _ ≤ 7302250; omega⟩ (fun H locs hP hD hS => ?_)
    refine lv_pop2_2 hx hb dL_law_1421 rfl ?_
    refine lv_goto (tgt := 1544) hx hb dL_law_1422 (by decide) ?_
    exact kk _ _ H locs ls _ _ hI2 hJ2 trivial (by omega) (by omega) hP hD hS (lv_sub hl [0, 1, 2, 3] rfl)
  · refine lv_aload_n hx hb dL_law_1392 rfl (lv_at hl 1 rfl) ?_
    refine lv_aload_n hx hb dL_law_1393 rfl (lv_at hl 0 rfl) ?_
    refine lv_iload_n hx hb dL_law_1394 rfl (lv_at hl 3 rfl) ?_
    refine lv_iconst (v := (1 : Int32)) hx hb dL_law_1395 (by decide) ?_
    refine lv_iadd hx hb dL_law_1396 ?_
    refine va_sld hx hb hX hbl hbA hS (zl_in h3 hL (by decide)) dL_law_1397 ?_
    refine lv_aload_n hx hb dL_law_1398 rfl (lv_at hl 0 rfl) ?_
    refine lv_iload_n hx hb dL_law_1399 rfl (lv_at hl 3 rfl) ?_
    refine lv_iconst (v := (2 : Int32)) hx hb dL_law_1400 (by decide) ?_
    refine lv_iadd hx hb dL_law_1401 ?_
    refine va_sld hx hb hX hbl hbA hS (zl_in h3 hL (by decide)) dL_law_1402 ?_
    obtain ⟨R1, hf1, hI2, hM1⟩ := K_X11_element_5 l D cs k H.size ad z hI (xs (x3 + (1 : Int32)).toNatClampNeg) (xs (x3 + (2 : Int32)).toNatClampNeg) hp0
    refine zk_LXl (As := [.int (xs (x3 + (1 : Int32)).toNatClampNeg), .int (xs (x3 + (2 : Int32)).toNatClampNeg)]) (rest := []) hE hO hM1 ⟨hx, hb, hml, hown, ht⟩ (cwV 2 ht gl_158 rfl rfl rfl (by decide +kernel) ⟨Nat.le_of_ble_eq_true rfl, Nat.le_of_ble_eq_true rfl⟩) (va_recv hK hP (ci := 11) (q0 := 44) rfl rfl) hP hD hS hK hA rfl hl.1 (Nat.le_of_ble_eq_true rfl) dL_law_1403 ⟨by show _ ≤ 600000; omega, by show _ ≤ 7302250; omega⟩ (fun H locs hP hD hS => ?_)
    refine lv_pop2_2 hx hb dL_law_1406 rfl ?_
    refine lv_aload_n hx hb dL_law_1407 rfl (lv_at hl 2 rfl) ?_
    refine lv_aload_n hx hb dL_law_1408 rfl (lv_at hl 0 rfl) ?_
    refine lv_iload_n hx hb dL_law_1409 rfl (lv_at hl 3 rfl) ?_
    refine lv_iconst (v := (1 : Int32)) hx hb dL_law_1410 (by decide) ?_
    refine lv_iadd hx hb dL_law_1411 ?_
    refine va_sld hx hb hX hbl hbA hS (zl_in h3 hL (by decide)) dL_law_1412 ?_
    refine lv_aload_n hx hb dL_law_1413 rfl (lv_at hl 0 rfl) ?_
    refine lv_iload_n hx hb dL_law_1414 rfl (lv_at hl 3 rfl) ?_
    refine lv_iconst (v := (2 : Int32)) hx hb dL_law_1415 (by decide) ?_
    refine lv_iadd hx hb dL_law_1416 ?_
    refine va_sld hx hb hX hbl hbA hS (zl_in h3 hL (by decide)) dL_law_1417 ?_
    obtain ⟨R2, hf2, hJ2, hM2⟩ := K_X12_element l D cs k H.size am w hJ (xs (x3 + (1 : Int32)).toNatClampNeg) (xs (x3 + (2 : Int32)).toNatClampNeg)
    refine zk_LMl (As := [.int (xs (x3 + (1 : Int32)).toNatClampNeg), .int (xs (x3 + (2 : Int32)).toNatClampNeg)]) (rest := []) hE hO hM2 ⟨hx, hb, hml, hown, ht⟩ (cwV 2 ht gl_161 rfl rfl rfl (by decide +kernel) ⟨Nat.le_of_ble_eq_true rfl, Nat.le_of_ble_eq_true rfl⟩) (va_recv hK hP (ci := 12) (q0 := 0) rfl rfl) hP hD hS hK hA rfl hl.1 (Nat.le_of_ble_eq_true rfl) dL_law_1418 ⟨by show _ ≤ 600000; omega, by show _ ≤ 7302250; omega⟩ (fun H locs hP hD hS => ?_)
    refine lv_pop2_2 hx hb dL_law_1421 rfl ?_
    refine lv_goto (tgt := 1544) hx hb dL_law_1422 (by decide) ?_
    exact kk _ _ H locs ls _ _ hI2 hJ2 trivial (by omega) (by omega) hP hD hS (lv_sub hl [0, 1, 2, 3] rfl)
