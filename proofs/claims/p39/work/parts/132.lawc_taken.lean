theorem dL_law_1488 : decode cL_law 1488 = .ok (.aload_n 1, 1) := zo_43 zh_cL_law_74 8 rfl
theorem dL_law_1489 : decode cL_law 1489 = .ok (.aload_n 0, 1) := zo_42 zh_cL_law_74 9 rfl
theorem dL_law_1490 : decode cL_law 1490 = .ok (.iload_n 3, 1) := zo_29 zh_cL_law_74 10 rfl
theorem dL_law_1491 : decode cL_law 1491 = .ok (.iconst 1, 1) := zo_4 zh_cL_law_74 11 rfl
theorem dL_law_1492 : decode cL_law 1492 = .ok (.iadd, 1) := zo_96 zh_cL_law_74 12 rfl
theorem dL_law_1493 : decode cL_law 1493 = .ok (.iaload, 1) := zo_46 zh_cL_law_74 13 rfl
theorem dL_law_1494 : decode cL_law 1494 = .ok (.aload_n 0, 1) := zo_42 zh_cL_law_74 14 rfl
theorem dL_law_1495 : decode cL_law 1495 = .ok (.iload_n 3, 1) := zo_29 zh_cL_law_74 15 rfl
theorem dL_law_1496 : decode cL_law 1496 = .ok (.iconst 2, 1) := zo_5 zh_cL_law_74 16 rfl
theorem dL_law_1497 : decode cL_law 1497 = .ok (.iadd, 1) := zo_96 zh_cL_law_74 17 rfl
theorem dL_law_1498 : decode cL_law 1498 = .ok (.iaload, 1) := zo_46 zh_cL_law_74 18 rfl
theorem dL_law_1499 : decode cL_law 1499 = .ok (.invokevirtual 167, 3) := zo_182 zh_cL_law_74 19 rfl
set_option maxRecDepth 100000 in
theorem zh_cL_law_75 : zck [0, 167, 87, 44, 42, 29, 4, 96, 46, 42, 29, 5, 96, 46, 182, 0, 170, 87, 167, 0, 26, 43] (zdu 1500 cL_law.data.toList) = true := by decide +kernel
theorem dL_law_1502 : decode cL_law 1502 = .ok (.pop, 1) := zo_87 zh_cL_law_75 2 rfl
theorem dL_law_1503 : decode cL_law 1503 = .ok (.aload_n 2, 1) := zo_44 zh_cL_law_75 3 rfl
theorem dL_law_1504 : decode cL_law 1504 = .ok (.aload_n 0, 1) := zo_42 zh_cL_law_75 4 rfl
theorem dL_law_1505 : decode cL_law 1505 = .ok (.iload_n 3, 1) := zo_29 zh_cL_law_75 5 rfl
theorem dL_law_1506 : decode cL_law 1506 = .ok (.iconst 1, 1) := zo_4 zh_cL_law_75 6 rfl
theorem dL_law_1507 : decode cL_law 1507 = .ok (.iadd, 1) := zo_96 zh_cL_law_75 7 rfl
theorem dL_law_1508 : decode cL_law 1508 = .ok (.iaload, 1) := zo_46 zh_cL_law_75 8 rfl
theorem dL_law_1509 : decode cL_law 1509 = .ok (.aload_n 0, 1) := zo_42 zh_cL_law_75 9 rfl
theorem dL_law_1510 : decode cL_law 1510 = .ok (.iload_n 3, 1) := zo_29 zh_cL_law_75 10 rfl
theorem dL_law_1511 : decode cL_law 1511 = .ok (.iconst 2, 1) := zo_5 zh_cL_law_75 11 rfl
theorem dL_law_1512 : decode cL_law 1512 = .ok (.iadd, 1) := zo_96 zh_cL_law_75 12 rfl
theorem dL_law_1513 : decode cL_law 1513 = .ok (.iaload, 1) := zo_46 zh_cL_law_75 13 rfl
theorem dL_law_1514 : decode cL_law 1514 = .ok (.invokevirtual 170, 3) := zo_182 zh_cL_law_75 14 rfl
theorem dL_law_1517 : decode cL_law 1517 = .ok (.pop, 1) := zo_87 zh_cL_law_75 17 rfl
theorem dL_law_1518 : decode cL_law 1518 = .ok (.goto 26, 3) := zo_p167 zh_cL_law_75 18 26 rfl rfl
set_option maxHeartbeats 8000000 in
set_option maxRecDepth 100000 in
theorem law_case_36 {p : Program} {l : Launch} {e : Env} {s : State} {m : MethodId} {below : List Frame} {meth : Method} {c : Code} {b L : Nat} {xs : Nat → Int32} {D : va_G} {cs : Nat → ClassId} {k : (Nat → Nat) × (Nat → Nat)} {ad am : Nat → Nat} (C0 : lw_At p s m meth c b L xs) (hK : va_K D classes (zT cs) s) (hO : zO s) (hE : zE k (fun q : Nat => s.heap.size ≤ q) s) (hL : L ≤ 3072) (x3 : Int32) (h3 : 0 ≤ x3.toInt ∧ x3.toInt + 6 ≤ (L : Int)) (z : ZT) (w : MT) (hI : IX ad cs z) (hJ : IM w) (hr : RL z w) (cells slots : Nat) (hc : cells + 2 ≤ 600000) (hs : slots + 122 ≤ 7302250) (H : Heap) (locs : List Loc) (ls : Array Slot) (hP : va_P D classes (WM am cs w ++ WX ad cs z) H) (hD : va_D (fun q : Nat => s.heap.size ≤ q) (WM am cs w ++ WX ad cs z)) (hS : va_S (fun q : Nat => s.heap.size ≤ q) s.heap H locs) (hl : lv_has ls 4 [(0, .ref b), (1, .ref (ad 0)), (2, .ref (am 41)), (3, .int x3)]) (kk : ∀ (z2 : ZT) (w2 : MT) (H : Heap) (locs : List Loc) (ls : Array Slot) (cells2 slots2 : Nat), IX ad cs z2 → IM w2 → RL z2 w2 → cells2 ≤ cells + 2 → slots2 ≤ slots + 122 → va_P D classes (WM am cs w2 ++ WX ad cs z2) H → va_D (fun q : Nat => s.heap.size ≤ q) (WM am cs w2 ++ WX ad cs z2) → va_S (fun q : Nat => s.heap.size ≤ q) s.heap H locs → lv_has ls 4 [(0, .ref b), (1, .ref (ad 0)), (2, .ref (am 41)), (3, .int x3)] → W p l e room_1 s m #[Value.ref b] below meth c H locs cells2 slots2 (lw_Z below #[Value.ref b] s) (F0 m 1544 ls [])) : W p l e room_1 s m #[Value.ref b] below meth c H locs cells slots (lw_Z below #[Value.ref b] s) (F0 m 1488 ls []) := by
  obtain ⟨hx, hb, hret, hml, hown, hts, hX, hbl, hlocks, hgv⟩ := id C0
  have hA : ∀ q : Nat, s.heap.size ≤ q → (fun q : Nat => s.heap.size ≤ q) q := fun _ h => h
  have hbA : ¬ (fun q : Nat => s.heap.size ≤ q) b := Nat.not_le.mpr hbl
  have ht : ∀ w ∈ zW, w.before #[Value.ref b] s = true := fun w hw => hts w (List.mem_filter.mp hw).1
  obtain ⟨j0, hj0, hp0⟩ := zk_pl (xs (x3 + (1 : Int32)).toNatClampNeg)
  rcases (show j0 = 0 ∨ j0 = 1 ∨ j0 = 2 ∨ j0 = 3 ∨ j0 = 4 ∨ j0 = 5 by omega) with rfl | rfl | rfl | rfl | rfl | rfl
  · refine lv_aload_n hx hb dL_law_1488 rfl (lv_at hl 1 rfl) ?_
    refine lv_aload_n hx hb dL_law_1489 rfl (lv_at hl 0 rfl) ?_
    refine lv_iload_n hx hb dL_law_1490 rfl (lv_at hl 3 rfl) ?_
    refine lv_iconst (v := (1 : Int32)) hx hb dL_law_1491 (by decide) ?_
    refine lv_iadd hx hb dL_law_1492 ?_
    refine va_sld hx hb hX hbl hbA hS (zl_in h3 hL (by decide)) dL_law_1493 ?_
    refine lv_aload_n hx hb dL_law_1494 rfl (lv_at hl 0 rfl) ?_
    refine lv_iload_n hx hb dL_law_1495 rfl (lv_at hl 3 rfl) ?_
    refine lv_iconst (v := (2 : Int32)) hx hb dL_law_1496 (by decide) ?_
    refine lv_iadd hx hb dL_law_1497 ?_
    refine va_sld hx hb hX hbl hbA hS (zl_in h3 hL (by decide)) dL_law_1498 ?_
    obtain ⟨R1, hf1, hI2, hM1⟩ := K_X11_taken_0 l D cs k H.size ad z hI (xs (x3 + (1 : Int32)).toNatClampNeg) (xs (x3 + (2 : Int32)).toNatClampNeg) hp0
    refine zk_LXi (As := [.int (xs (x3 + (1 : Int32)).toNatClampNeg), .int (xs (x3 + (2 : Int32)).toNatClampNeg)]) (rest := []) hE hO hM1 ⟨hx, hb, hml, hown, ht⟩ (cwV 2 ht gl_167 rfl rfl rfl (by decide +kernel) ⟨Nat.le_of_ble_eq_true rfl, Nat.le_of_ble_eq_true rfl⟩) (va_recv hK hP (ci := 11) (q0 := 44) rfl rfl) hP hD hS hK hA rfl hl.1 (Nat.le_of_ble_eq_true rfl) dL_law_1499 ⟨by show _ ≤ 600000; omega, by show _ ≤ 7302250; omega⟩ (fun H locs hP hD hS => ?_)
    refine lv_pop hx hb dL_law_1502 rfl ?_
    refine lv_aload_n hx hb dL_law_1503 rfl (lv_at hl 2 rfl) ?_
    refine lv_aload_n hx hb dL_law_1504 rfl (lv_at hl 0 rfl) ?_
    refine lv_iload_n hx hb dL_law_1505 rfl (lv_at hl 3 rfl) ?_
    refine lv_iconst (v := (1 : Int32)) hx hb dL_law_1506 (by decide) ?_
    refine lv_iadd hx hb dL_law_1507 ?_
    refine va_sld hx hb hX hbl hbA hS (zl_in h3 hL (by decide)) dL_law_1508 ?_
    refine lv_aload_n hx hb dL_law_1509 rfl (lv_at hl 0 rfl) ?_
    refine lv_iload_n hx hb dL_law_1510 rfl (lv_at hl 3 rfl) ?_
    refine lv_iconst (v := (2 : Int32)) hx hb dL_law_1511 (by decide) ?_
    refine lv_iadd hx hb dL_law_1512 ?_
    refine va_sld hx hb hX hbl hbA hS (zl_in h3 hL (by decide)) dL_law_1513 ?_
    obtain ⟨R2, hf2, hJ2, hM2⟩ := K_X12_taken l D cs k H.size am w hJ (xs (x3 + (1 : Int32)).toNatClampNeg) (xs (x3 + (2 : Int32)).toNatClampNeg)
    refine zk_LMi (As := [.int (xs (x3 + (1 : Int32)).toNatClampNeg), .int (xs (x3 + (2 : Int32)).toNatClampNeg)]) (rest := []) hE hO hM2 ⟨hx, hb, hml, hown, ht⟩ (cwV 2 ht gl_170 rfl rfl rfl (by decide +kernel) ⟨Nat.le_of_ble_eq_true rfl, Nat.le_of_ble_eq_true rfl⟩) (va_recv hK hP (ci := 12) (q0 := 0) rfl rfl) hP hD hS hK hA rfl hl.1 (Nat.le_of_ble_eq_true rfl) dL_law_1514 ⟨by show _ ≤ 600000; omega, by show _ ≤ 7302250; omega⟩ (fun H locs hP hD hS => ?_)
    refine lv_pop hx hb dL_law_1517 rfl ?_
    refine lv_goto (tgt := 1544) hx hb dL_law_1518 (by decide) ?_
    exact kk _ _ H locs ls _ _ hI2 hJ2 ⟨(rl_0 hr :), (rl_1 hr :), (rl_2 hr :), (rl_3 hr :), (rl_4 hr :), (rl_5 hr :), (rl_6 hr :), (rl_7 hr :), (rl_8 hr :), (rl_9 hr :), (rl_10 hr :), (rl_11 hr :), (rl_12 hr :), (rl_13 hr :), (rl_14 hr :), (rl_15 hr :), (rl_16 hr :), (rl_17 hr :), (rl_18 hr :), (rl_19 hr :), (rl_20 hr :), (rl_21 hr :), (rl_22 hr :), (rl_23 hr :), (rl_24 hr :), (rl_25 hr :), (rl_26 hr :), (rl_27 hr :), (rl_28 hr :), (rl_29 hr :), (rl_30 hr :), (rl_31 hr :), (rl_32 hr :), (rl_33 hr :)⟩ (by omega) (by omega) hP hD hS (lv_sub hl [0, 1, 2, 3] rfl)
  · refine lv_aload_n hx hb dL_law_1488 rfl (lv_at hl 1 rfl) ?_
    refine lv_aload_n hx hb dL_law_1489 rfl (lv_at hl 0 rfl) ?_
    refine lv_iload_n hx hb dL_law_1490 rfl (lv_at hl 3 rfl) ?_
    refine lv_iconst (v := (1 : Int32)) hx hb dL_law_1491 (by decide) ?_
    refine lv_iadd hx hb dL_law_1492 ?_
    refine va_sld hx hb hX hbl hbA hS (zl_in h3 hL (by decide)) dL_law_1493 ?_
    refine lv_aload_n hx hb dL_law_1494 rfl (lv_at hl 0 rfl) ?_
    refine lv_iload_n hx hb dL_law_1495 rfl (lv_at hl 3 rfl) ?_
    refine lv_iconst (v := (2 : Int32)) hx hb dL_law_1496 (by decide) ?_
    refine lv_iadd hx hb dL_law_1497 ?_
    refine va_sld hx hb hX hbl hbA hS (zl_in h3 hL (by decide)) dL_law_1498 ?_
    obtain ⟨R1, hf1, hI2, hM1⟩ := K_X11_taken_1 l D cs k H.size ad z hI (xs (x3 + (1 : Int32)).toNatClampNeg) (xs (x3 + (2 : Int32)).toNatClampNeg) hp0
    refine zk_LXi (As := [.int (xs (x3 + (1 : Int32)).toNatClampNeg), .int (xs (x3 + (2 : Int32)).toNatClampNeg)]) (rest := []) hE hO hM1 ⟨hx, hb, hml, hown, ht⟩ (cwV 2 ht gl_167 rfl rfl rfl (by decide +kernel) ⟨Nat.le_of_ble_eq_true rfl, Nat.le_of_ble_eq_true rfl⟩) (va_recv hK hP (ci := 11) (q0 := 44) rfl rfl) hP hD hS hK hA rfl hl.1 (Nat.le_of_ble_eq_true rfl) dL_law_1499 ⟨by show _ ≤ 600000; omega, by show _ ≤ 7302250; omega⟩ (fun H locs hP hD hS => ?_)
    refine lv_pop hx hb dL_law_1502 rfl ?_
    refine lv_aload_n hx hb dL_law_1503 rfl (lv_at hl 2 rfl) ?_
    refine lv_aload_n hx hb dL_law_1504 rfl (lv_at hl 0 rfl) ?_
    refine lv_iload_n hx hb dL_law_1505 rfl (lv_at hl 3 rfl) ?_
    refine lv_iconst (v := (1 : Int32)) hx hb dL_law_1506 (by decide) ?_
    refine lv_iadd hx hb dL_law_1507 ?_
    refine va_sld hx hb hX hbl hbA hS (zl_in h3 hL (by decide)) dL_law_1508 ?_
    refine lv_aload_n hx hb dL_law_1509 rfl (lv_at hl 0 rfl) ?_
    refine lv_iload_n hx hb dL_law_1510 rfl (lv_at hl 3 rfl) ?_
    refine lv_iconst (v := (2 : Int32)) hx hb dL_law_1511 (by decide) ?_
    refine lv_iadd hx hb dL_law_1512 ?_
    refine va_sld hx hb hX hbl hbA hS (zl_in h3 hL (by decide)) dL_law_1513 ?_
    obtain ⟨R2, hf2, hJ2, hM2⟩ := K_X12_taken l D cs k H.size am w hJ (xs (x3 + (1 : Int32)).toNatClampNeg) (xs (x3 + (2 : Int32)).toNatClampNeg)
    refine zk_LMi (As := [.int (xs (x3 + (1 : Int32)).toNatClampNeg), .int (xs (x3 + (2 : Int32)).toNatClampNeg)]) (rest := []) hE hO hM2 ⟨hx, hb, hml, hown, ht⟩ (cwV 2 ht gl_170 rfl rfl rfl (by decide +kernel) ⟨Nat.le_of_ble_eq_true rfl, Nat.le_of_ble_eq_true rfl⟩) (va_recv hK hP (ci := 12) (q0 := 0) rfl rfl) hP hD hS hK hA rfl hl.1 (Nat.le_of_ble_eq_true rfl) dL_law_1514 ⟨by show _ ≤ 600000; omega, by show _ ≤ 7302250; omega⟩ (fun H locs hP hD hS => ?_)
    refine lv_pop hx hb dL_law_1517 rfl ?_
    refine lv_goto (tgt := 1544) hx hb dL_law_1518 (by decide) ?_
    exact kk _ _ H locs ls _ _ hI2 hJ2 ⟨(rl_0 hr :), (rl_1 hr :), (rl_2 hr :), (rl_3 hr :), (rl_4 hr :), (rl_5 hr :), (rl_6 hr :), (rl_7 hr :), (rl_8 hr :), (rl_9 hr :), (rl_10 hr :), (rl_11 hr :), (rl_12 hr :), (rl_13 hr :), (rl_14 hr :), (rl_15 hr :), (rl_16 hr :), (rl_17 hr :), (rl_18 hr :), (rl_19 hr :), (rl_20 hr :), (rl_21 hr :), (rl_22 hr :), (rl_23 hr :), (rl_24 hr :), (rl_25 hr :), (rl_26 hr :), (rl_27 hr :), (rl_28 hr :), (rl_29 hr :), (rl_30 hr :), (rl_31 hr :), (rl_32 hr :), (rl_33 hr :)⟩ (by omega) (by omega) hP hD hS (lv_sub hl [0, 1, 2, 3] rfl)
  · refine lv_aload_n hx hb dL_law_1488 rfl (lv_at hl 1 rfl) ?_
    refine lv_aload_n hx hb dL_law_1489 rfl (lv_at hl 0 rfl) ?_
    refine lv_iload_n hx hb dL_law_1490 rfl (lv_at hl 3 rfl) ?_
    refine lv_iconst (v := (1 : Int32)) hx hb dL_law_1491 (by decide) ?_
    refine lv_iadd hx hb dL_law_1492 ?_
    refine va_sld hx hb hX hbl hbA hS (zl_in h3 hL (by decide)) dL_law_1493 ?_
    refine lv_aload_n hx hb dL_law_1494 rfl (lv_at hl 0 rfl) ?_
    refine lv_iload_n hx hb dL_law_1495 rfl (lv_at hl 3 rfl) ?_
    refine lv_iconst (v := (2 : Int32)) hx hb dL_law_1496 (by decide) ?_
    refine lv_iadd hx hb dL_law_1497 ?_
    refine va_sld hx hb hX hbl hbA hS (zl_in h3 hL (by decide)) dL_law_1498 ?_
    obtain ⟨R1, hf1, hI2, hM1⟩ := K_X11_taken_2 l D cs k H.size ad z hI (xs (x3 + (1 : Int32)).toNatClampNeg) (xs (x3 + (2 : Int32)).toNatClampNeg) hp0
    refine zk_LXi (As := [.int (xs (x3 + (1 : Int32)).toNatClampNeg), .int (xs (x3 + (2 : Int32)).toNatClampNeg)]) (rest := []) hE hO hM1 ⟨hx, hb, hml, hown, ht⟩ (cwV 2 ht gl_167 rfl rfl rfl (by decide +kernel) ⟨Nat.le_of_ble_eq_true rfl, Nat.le_of_ble_eq_true rfl⟩) (va_recv hK hP (ci := 11) (q0 := 44) rfl rfl) hP hD hS hK hA rfl hl.1 (Nat.le_of_ble_eq_true rfl) dL_law_1499 ⟨by show _ ≤ 600000; omega, by show _ ≤ 7302250; omega⟩ (fun H locs hP hD hS => ?_)
    refine lv_pop hx hb dL_law_1502 rfl ?_
    refine lv_aload_n hx hb dL_law_1503 rfl (lv_at hl 2 rfl) ?_
    refine lv_aload_n hx hb dL_law_1504 rfl (lv_at hl 0 rfl) ?_
    refine lv_iload_n hx hb dL_law_1505 rfl (lv_at hl 3 rfl) ?_
    refine lv_iconst (v := (1 : Int32)) hx hb dL_law_1506 (by decide) ?_
    refine lv_iadd hx hb dL_law_1507 ?_
    refine va_sld hx hb hX hbl hbA hS (zl_in h3 hL (by decide)) dL_law_1508 ?_
    refine lv_aload_n hx hb dL_law_1509 rfl (lv_at hl 0 rfl) ?_
    refine lv_iload_n hx hb dL_law_1510 rfl (lv_at hl 3 rfl) ?_
    refine lv_iconst (v := (2 : Int32)) hx hb dL_law_1511 (by decide) ?_
    refine lv_iadd hx hb dL_law_1512 ?_
    refine va_sld hx hb hX hbl hbA hS (zl_in h3 hL (by decide)) dL_law_1513 ?_
    obtain ⟨R2, hf2, hJ2, hM2⟩ := K_X12_taken l D cs k H.size am w hJ (xs (x3 + (1 : Int32)).toNatClampNeg) (xs (x3 + (2 : Int32)).toNatClampNeg)
    refine zk_LMi (As := [.int (xs (x3 + (1 : Int32)).toNatClampNeg), .int (xs (x3 + (2 : Int32)).toNatClampNeg)]) (rest := []) hE hO hM2 ⟨hx, hb, hml, hown, ht⟩ (cwV 2 ht gl_170 rfl rfl rfl (by decide +kernel) ⟨Nat.le_of_ble_eq_true rfl, Nat.le_of_ble_eq_true rfl⟩) (va_recv hK hP (ci := 12) (q0 := 0) rfl rfl) hP hD hS hK hA rfl hl.1 (Nat.le_of_ble_eq_true rfl) dL_law_1514 ⟨by show _ ≤ 600000; omega, by show _ ≤ 7302250; omega⟩ (fun H locs hP hD hS => ?_)
    refine lv_pop hx hb dL_law_1517 rfl ?_
    refine lv_goto (tgt := 1544) hx hb dL_law_1518 (by decide) ?_
    exact kk _ _ H locs ls _ _ hI2 hJ2 ⟨(rl_0 hr :), (rl_1 hr :), (rl_2 hr :), (rl_3 hr :), (rl_4 hr :), (rl_5 hr :), (rl_6 hr :), (rl_7 hr :), (rl_8 hr :), (rl_9 hr :), (rl_10 hr :), (rl_11 hr :), (rl_12 hr :), (rl_13 hr :), (rl_14 hr :), (rl_15 hr :), (rl_16 hr :), (rl_17 hr :), (rl_18 hr :), (rl_19 hr :), (rl_20 hr :), (rl_21 hr :), (rl_22 hr :), (rl_23 hr :), (rl_24 hr :), (rl_25 hr :), (rl_26 hr :), (rl_27 hr :), (rl_28 hr :), (rl_29 hr :), (rl_30 hr :), (rl_31 hr :), (rl_32 hr :), (rl_33 hr :)⟩ (by omega) (by omega) hP hD hS (lv_sub hl [0, 1, 2, 3] rfl)
  · refine lv_aload_n hx hb dL_law_1488 rfl (lv_at hl 1 rfl) ?_
    refine lv_aload_n hx hb dL_law_1489 rfl (lv_at hl 0 rfl) ?_
    refine lv_iload_n hx hb dL_law_1490 rfl (lv_at hl 3 rfl) ?_
    refine lv_iconst (v := (1 : Int32)) hx hb dL_law_1491 (by decide) ?_
    refine lv_iadd hx hb dL_law_1492 ?_
    refine va_sld hx hb hX hbl hbA hS (zl_in h3 hL (by decide)) dL_law_1493 ?_
    refine lv_aload_n hx hb dL_law_1494 rfl (lv_at hl 0 rfl) ?_
    refine lv_iload_n hx hb dL_law_1495 rfl (lv_at hl 3 rfl) ?_
    refine lv_iconst (v := (2 : Int32)) hx hb dL_law_1496 (by decide) ?_
    refine lv_iadd hx hb dL_law_1497 ?_
    refine va_sld hx hb hX hbl hbA hS (zl_in h3 hL (by decide)) dL_law_1498 ?_
    obtain ⟨R1, hf1, hI2, hM1⟩ := K_X11_taken_3 l D cs k H.size ad z hI (xs (x3 + (1 : Int32)).toNatClampNeg) (xs (x3 + (2 : Int32)).toNatClampNeg) hp0
    refine zk_LXi (As := [.int (xs (x3 + (1 : Int32)).toNatClampNeg), .int (xs (x3 + (2 : Int32)).toNatClampNeg)]) (rest := []) hE hO hM1 ⟨hx, hb, hml, hown, ht⟩ (cwV 2 ht gl_167 rfl rfl rfl (by decide +kernel) ⟨Nat.le_of_ble_eq_true rfl, Nat.le_of_ble_eq_true rfl⟩) (va_recv hK hP (ci := 11) (q0 := 44) rfl rfl) hP hD hS hK hA rfl hl.1 (Nat.le_of_ble_eq_true rfl) dL_law_1499 ⟨by show _ ≤ 600000; omega, by show _ ≤ 7302250; omega⟩ (fun H locs hP hD hS => ?_)
    refine lv_pop hx hb dL_law_1502 rfl ?_
    refine lv_aload_n hx hb dL_law_1503 rfl (lv_at hl 2 rfl) ?_
    refine lv_aload_n hx hb dL_law_1504 rfl (lv_at hl 0 rfl) ?_
    refine lv_iload_n hx hb dL_law_1505 rfl (lv_at hl 3 rfl) ?_
    refine lv_iconst (v := (1 : Int32)) hx hb dL_law_1506 (by decide) ?_
    refine lv_iadd hx hb dL_law_1507 ?_
    refine va_sld hx hb hX hbl hbA hS (zl_in h3 hL (by decide)) dL_law_1508 ?_
    refine lv_aload_n hx hb dL_law_1509 rfl (lv_at hl 0 rfl) ?_
    refine lv_iload_n hx hb dL_law_1510 rfl (lv_at hl 3 rfl) ?_
    refine lv_iconst (v := (2 : Int32)) hx hb dL_law_1511 (by decide) ?_
    refine lv_iadd hx hb dL_law_1512 ?_
    refine va_sld hx hb hX hbl hbA hS (zl_in h3 hL (by decide)) dL_law_1513 ?_
    obtain ⟨R2, hf2, hJ2, hM2⟩ := K_X12_taken l D cs k H.size am w hJ (xs (x3 + (1 : Int32)).toNatClampNeg) (xs (x3 + (2 : Int32)).toNatClampNeg)
    refine zk_LMi (As := [.int (xs (x3 + (1 : Int32)).toNatClampNeg), .int (xs (x3 + (2 : Int32)).toNatClampNeg)]) (rest := []) hE hO hM2 ⟨hx, hb, hml, hown, ht⟩ (cwV 2 ht gl_170 rfl rfl rfl (by decide +kernel) ⟨Nat.le_of_ble_eq_true rfl, Nat.le_of_ble_eq_true rfl⟩) (va_recv hK hP (ci := 12) (q0 := 0) rfl rfl) hP hD hS hK hA rfl hl.1 (Nat.le_of_ble_eq_true rfl) dL_law_1514 ⟨by show _ ≤ 600000; omega, by show _ ≤ 7302250; omega⟩ (fun H locs hP hD hS => ?_)
    refine lv_pop hx hb dL_law_1517 rfl ?_
    refine lv_goto (tgt := 1544) hx hb dL_law_1518 (by decide) ?_
    exact kk _ _ H locs ls _ _ hI2 hJ2 ⟨(rl_0 hr :), (rl_1 hr :), (rl_2 hr :), (rl_3 hr :), (rl_4 hr :), (rl_5 hr :), (rl_6 hr :), (rl_7 hr :), (rl_8 hr :), (rl_9 hr :), (rl_10 hr :), (rl_11 hr :), (rl_12 hr :), (rl_13 hr :), (rl_14 hr :), (rl_15 hr :), (rl_16 hr :), (rl_17 hr :), (rl_18 hr :), (rl_19 hr :), (rl_20 hr :), (rl_21 hr :), (rl_22 hr :), (rl_23 hr :), (rl_24 hr :), (rl_25 hr :), (rl_26 hr :), (rl_27 hr :), (rl_28 hr :), (rl_29 hr :), (rl_30 hr :), (rl_31 hr :), (rl_32 hr :), (rl_33 hr :)⟩ (by omega) (by omega) hP hD hS (lv_sub hl [0, 1, 2, 3] rfl)
  · refine lv_aload_n hx hb dL_law_1488 rfl (lv_at hl 1 rfl) ?_
    refine lv_aload_n hx hb dL_law_1489 rfl (lv_at hl 0 rfl) ?_
    refine lv_iload_n hx hb dL_law_1490 rfl (lv_at hl 3 rfl) ?_
    refine lv_iconst (v := (1 : Int32)) hx hb dL_law_1491 (by decide) ?_
    refine lv_iadd hx hb dL_law_1492 ?_
    refine va_sld hx hb hX hbl hbA hS (zl_in h3 hL (by decide)) dL_law_1493 ?_
    refine lv_aload_n hx hb dL_law_1494 rfl (lv_at hl 0 rfl) ?_
    refine lv_iload_n hx hb dL_law_1495 rfl (lv_at hl 3 rfl) ?_
    refine lv_iconst (v := (2 : Int32)) hx hb dL_law_1496 (by decide) ?_
    refine lv_iadd hx hb dL_law_1497 ?_
    refine va_sld hx hb hX hbl hbA hS (zl_in h3 hL (by decide)) dL_law_1498 ?_
    obtain ⟨R1, hf1, hI2, hM1⟩ := K_X11_taken_4 l D cs k H.size ad z hI (xs (x3 + (1 : Int32)).toNatClampNeg) (xs (x3 + (2 : Int32)).toNatClampNeg) hp0
    refine zk_LXi (As := [.int (xs (x3 + (1 : Int32)).toNatClampNeg), .int (xs (x3 + (2 : Int32)).toNatClampNeg)]) (rest := []) hE hO hM1 ⟨hx, hb, hml, hown, ht⟩ (cwV 2 ht gl_167 rfl rfl rfl (by decide +kernel) ⟨Nat.le_of_ble_eq_true rfl, Nat.le_of_ble_eq_true rfl⟩) (va_recv hK hP (ci := 11) (q0 := 44) rfl rfl) hP hD hS hK hA rfl hl.1 (Nat.le_of_ble_eq_true rfl) dL_law_1499 ⟨by show _ ≤ 600000; omega, by show _ ≤ 7302250; omega⟩ (fun H locs hP hD hS => ?_)
    refine lv_pop hx hb dL_law_1502 rfl ?_
    refine lv_aload_n hx hb dL_law_1503 rfl (lv_at hl 2 rfl) ?_
    refine lv_aload_n hx hb dL_law_1504 rfl (lv_at hl 0 rfl) ?_
    refine lv_iload_n hx hb dL_law_1505 rfl (lv_at hl 3 rfl) ?_
    refine lv_iconst (v := (1 : Int32)) hx hb dL_law_1506 (by decide) ?_
    refine lv_iadd hx hb dL_law_1507 ?_
    refine va_sld hx hb hX hbl hbA hS (zl_in h3 hL (by decide)) dL_law_1508 ?_
    refine lv_aload_n hx hb dL_law_1509 rfl (lv_at hl 0 rfl) ?_
    refine lv_iload_n hx hb dL_law_1510 rfl (lv_at hl 3 rfl) ?_
    refine lv_iconst (v := (2 : Int32)) hx hb dL_law_1511 (by decide) ?_
    refine lv_iadd hx hb dL_law_1512 ?_
    refine va_sld hx hb hX hbl hbA hS (zl_in h3 hL (by decide)) dL_law_1513 ?_
    obtain ⟨R2, hf2, hJ2, hM2⟩ := K_X12_taken l D cs k H.size am w hJ (xs (x3 + (1 : Int32)).toNatClampNeg) (xs (x3 + (2 : Int32)).toNatClampNeg)
    refine zk_LMi (As := [.int (xs (x3 + (1 : Int32)).toNatClampNeg), .int (xs (x3 + (2 : Int32)).toNatClampNeg)]) (rest := []) hE hO hM2 ⟨hx, hb, hml, hown, ht⟩ (cwV 2 ht gl_170 rfl rfl rfl (by decide +kernel) ⟨Nat.le_of_ble_eq_true rfl, Nat.le_of_ble_eq_true rfl⟩) (va_recv hK hP (ci := 12) (q0 := 0) rfl rfl) hP hD hS hK hA rfl hl.1 (Nat.le_of_ble_eq_true rfl) dL_law_1514 ⟨by show _ ≤ 600000; omega, by show _ ≤ 7302250; omega⟩ (fun H locs hP hD hS => ?_)
    refine lv_pop hx hb dL_law_1517 rfl ?_
    refine lv_goto (tgt := 1544) hx hb dL_law_1518 (by decide) ?_
    exact kk _ _ H locs ls _ _ hI2 hJ2 ⟨(rl_0 hr :), (rl_1 hr :), (rl_2 hr :), (rl_3 hr :), (rl_4 hr :), (rl_5 hr :), (rl_6 hr :), (rl_7 hr :), (rl_8 hr :), (rl_9 hr :), (rl_10 hr :), (rl_11 hr :), (rl_12 hr :), (rl_13 hr :), (rl_14 hr :), (rl_15 hr :), (rl_16 hr :), (rl_17 hr :), (rl_18 hr :), (rl_19 hr :), (rl_20 hr :), (rl_21 hr :), (rl_22 hr :), (rl_23 hr :), (rl_24 hr :), (rl_25 hr :), (rl_26 hr :), (rl_27 hr :), (rl_28 hr :), (rl_29 hr :), (rl_30 hr :), (rl_31 hr :), (rl_32 hr :), (rl_33 hr :)⟩ (by omega) (by omega) hP hD hS (lv_sub hl [0, 1, 2, 3] rfl)
  · refine lv_aload_n hx hb dL_law_1488 rfl (lv_at hl 1 rfl) ?_
    refine lv_aload_n hx hb dL_law_1489 rfl (lv_at hl 0 rfl) ?_
    refine lv_iload_n hx hb dL_law_1490 rfl (lv_at hl 3 rfl) ?_
    refine lv_iconst (v := (1 : Int32)) hx hb dL_law_1491 (by decide) ?_
    refine lv_iadd hx hb dL_law_1492 ?_
    refine va_sld hx hb hX hbl hbA hS (zl_in h3 hL (by decide)) dL_law_1493 ?_
    refine lv_aload_n hx hb dL_law_1494 rfl (lv_at hl 0 rfl) ?_
    refine lv_iload_n hx hb dL_law_1495 rfl (lv_at hl 3 rfl) ?_
    refine lv_iconst (v := (2 : Int32)) hx hb dL_law_1496 (by decide) ?_
    refine lv_iadd hx hb dL_law_1497 ?_
    refine va_sld hx hb hX hbl hbA hS (zl_in h3 hL (by decide)) dL_law_1498 ?_
    obtain ⟨R1, hf1, hI2, hM1⟩ := K_X11_taken_5 l D cs k H.size ad z hI (xs (x3 + (1 : Int32)).toNatClampNeg) (xs (x3 + (2 : Int32)).toNatClampNeg) hp0
    refine zk_LXi (As := [.int (xs (x3 + (1 : Int32)).toNatClampNeg), .int (xs (x3 + (2 : Int32)).toNatClampNeg)]) (rest := []) hE hO hM1 ⟨hx, hb, hml, hown, ht⟩ (cwV 2 ht gl_167 rfl rfl rfl (by decide +kernel) ⟨Nat.le_of_ble_eq_true rfl, Nat.le_of_ble_eq_true rfl⟩) (va_recv hK hP (ci := 11) (q0 := 44) rfl rfl) hP hD hS hK hA rfl hl.1 (Nat.le_of_ble_eq_true rfl) dL_law_1499 ⟨by show _ ≤ 600000; omega, by show _ ≤ 7302250; omega⟩ (fun H locs hP hD hS => ?_)
    refine lv_pop hx hb dL_law_1502 rfl ?_
    refine lv_aload_n hx hb dL_law_1503 rfl (lv_at hl 2 rfl) ?_
    refine lv_aload_n hx hb dL_law_1504 rfl (lv_at hl 0 rfl) ?_
    refine lv_iload_n hx hb dL_law_1505 rfl (lv_at hl 3 rfl) ?_
    refine lv_iconst (v := (1 : Int32)) hx hb dL_law_1506 (by decide) ?_
    refine lv_iadd hx hb dL_law_1507 ?_
    refine va_sld hx hb hX hbl hbA hS (zl_in h3 hL (by decide)) dL_law_1508 ?_
    refine lv_aload_n hx hb dL_law_1509 rfl (lv_at hl 0 rfl) ?_
    refine lv_iload_n hx hb dL_law_1510 rfl (lv_at hl 3 rfl) ?_
    refine lv_iconst (v := (2 : Int32)) hx hb dL_law_1511 (by decide) ?_
    refine lv_iadd hx hb dL_law_1512 ?_
    refine va_sld hx hb hX hbl hbA hS (zl_in h3 hL (by decide)) dL_law_1513 ?_
    obtain ⟨R2, hf2, hJ2, hM2⟩ := K_X12_taken l D cs k H.size am w hJ (xs (x3 + (1 : Int32)).toNatClampNeg) (xs (x3 + (2 : Int32)).toNatClampNeg)
    refine zk_LMi (As := [.int (xs (x3 + (1 : Int32)).toNatClampNeg), .int (xs (x3 + (2 : Int32)).toNatClampNeg)]) (rest := []) hE hO hM2 ⟨hx, hb, hml, hown, ht⟩ (cwV 2 ht gl_170 rfl rfl rfl (by decide +kernel) ⟨Nat.le_of_ble_eq_true rfl, Nat.le_of_ble_eq_true rfl⟩) (va_recv hK hP (ci := 12) (q0 := 0) rfl rfl) hP hD hS hK hA rfl hl.1 (Nat.le_of_ble_eq_true rfl) dL_law_1514 ⟨by show _ ≤ 600000; omega, by show _ ≤ 7302250; omega⟩ (fun H locs hP hD hS => ?_)
    refine lv_pop hx hb dL_law_1517 rfl ?_
    refine lv_goto (tgt := 1544) hx hb dL_law_1518 (by decide) ?_
    exact kk _ _ H locs ls _ _ hI2 hJ2 ⟨(rl_0 hr :), (rl_1 hr :), (rl_2 hr :), (rl_3 hr :), (rl_4 hr :), (rl_5 hr :), (rl_6 hr :), (rl_7 hr :), (rl_8 hr :), (rl_9 hr :), (rl_10 hr :), (rl_11 hr :), (rl_12 hr :), (rl_13 hr :), (rl_14 hr :), (rl_15 hr :), (rl_16 hr :), (rl_17 hr :), (rl_18 hr :), (rl_19 hr :), (rl_20 hr :), (rl_21 hr :), (rl_22 hr :), (rl_23 hr :), (rl_24 hr :), (rl_25 hr :), (rl_26 hr :), (rl_27 hr :), (rl_28 hr :), (rl_29 hr :), (rl_30 hr :), (rl_31 hr :), (rl_32 hr :), (rl_33 hr :)⟩ (by omega) (by omega) hP hD hS (lv_sub hl [0, 1, 2, 3] rfl)
set_option maxRecDepth 100000 in
theorem zh_cL_law_76 : zck [26, 43, 42, 29, 4, 96, 46, 182, 0, 171, 44, 42, 29, 4, 96, 46, 182, 0, 174, 159, 0, 5] (zdu 1520 cL_law.data.toList) = true := by decide +kernel
theorem dL_law_1521 : decode cL_law 1521 = .ok (.aload_n 1, 1) := zo_43 zh_cL_law_76 1 rfl
theorem dL_law_1522 : decode cL_law 1522 = .ok (.aload_n 0, 1) := zo_42 zh_cL_law_76 2 rfl
theorem dL_law_1523 : decode cL_law 1523 = .ok (.iload_n 3, 1) := zo_29 zh_cL_law_76 3 rfl
theorem dL_law_1524 : decode cL_law 1524 = .ok (.iconst 1, 1) := zo_4 zh_cL_law_76 4 rfl
theorem dL_law_1525 : decode cL_law 1525 = .ok (.iadd, 1) := zo_96 zh_cL_law_76 5 rfl
theorem dL_law_1526 : decode cL_law 1526 = .ok (.iaload, 1) := zo_46 zh_cL_law_76 6 rfl
theorem dL_law_1527 : decode cL_law 1527 = .ok (.invokevirtual 171, 3) := zo_182 zh_cL_law_76 7 rfl
theorem dL_law_1530 : decode cL_law 1530 = .ok (.aload_n 2, 1) := zo_44 zh_cL_law_76 10 rfl
theorem dL_law_1531 : decode cL_law 1531 = .ok (.aload_n 0, 1) := zo_42 zh_cL_law_76 11 rfl
theorem dL_law_1532 : decode cL_law 1532 = .ok (.iload_n 3, 1) := zo_29 zh_cL_law_76 12 rfl
theorem dL_law_1533 : decode cL_law 1533 = .ok (.iconst 1, 1) := zo_4 zh_cL_law_76 13 rfl
theorem dL_law_1534 : decode cL_law 1534 = .ok (.iadd, 1) := zo_96 zh_cL_law_76 14 rfl
theorem dL_law_1535 : decode cL_law 1535 = .ok (.iaload, 1) := zo_46 zh_cL_law_76 15 rfl
theorem dL_law_1536 : decode cL_law 1536 = .ok (.invokevirtual 174, 3) := zo_182 zh_cL_law_76 16 rfl
theorem dL_law_1539 : decode cL_law 1539 = .ok (.if_icmp .eq 5, 3) := zo_p159 zh_cL_law_76 19 5 rfl rfl
set_option maxHeartbeats 8000000 in
set_option maxRecDepth 100000 in
theorem law_case_37 {p : Program} {l : Launch} {e : Env} {s : State} {m : MethodId} {below : List Frame} {meth : Method} {c : Code} {b L : Nat} {xs : Nat → Int32} {D : va_G} {cs : Nat → ClassId} {k : (Nat → Nat) × (Nat → Nat)} {ad am : Nat → Nat} (C0 : lw_At p s m meth c b L xs) (hK : va_K D classes (zT cs) s) (hO : zO s) (hE : zE k (fun q : Nat => s.heap.size ≤ q) s) (hL : L ≤ 3072) (x3 : Int32) (h3 : 0 ≤ x3.toInt ∧ x3.toInt + 6 ≤ (L : Int)) (z : ZT) (w : MT) (hI : IX ad cs z) (hJ : IM w) (hr : RL z w) (cells slots : Nat) (hc : cells + 2 ≤ 600000) (hs : slots + 122 ≤ 7302250) (H : Heap) (locs : List Loc) (ls : Array Slot) (hP : va_P D classes (WM am cs w ++ WX ad cs z) H) (hD : va_D (fun q : Nat => s.heap.size ≤ q) (WM am cs w ++ WX ad cs z)) (hS : va_S (fun q : Nat => s.heap.size ≤ q) s.heap H locs) (hl : lv_has ls 4 [(0, .ref b), (1, .ref (ad 0)), (2, .ref (am 41)), (3, .int x3)]) (kk : ∀ (z2 : ZT) (w2 : MT) (H : Heap) (locs : List Loc) (ls : Array Slot) (cells2 slots2 : Nat), IX ad cs z2 → IM w2 → RL z2 w2 → cells2 ≤ cells + 2 → slots2 ≤ slots + 122 → va_P D classes (WM am cs w2 ++ WX ad cs z2) H → va_D (fun q : Nat => s.heap.size ≤ q) (WM am cs w2 ++ WX ad cs z2) → va_S (fun q : Nat => s.heap.size ≤ q) s.heap H locs → lv_has ls 4 [(0, .ref b), (1, .ref (ad 0)), (2, .ref (am 41)), (3, .int x3)] → W p l e room_1 s m #[Value.ref b] below meth c H locs cells2 slots2 (lw_Z below #[Value.ref b] s) (F0 m 1544 ls [])) : W p l e room_1 s m #[Value.ref b] below meth c H locs cells slots (lw_Z below #[Value.ref b] s) (F0 m 1521 ls []) := by
  obtain ⟨hx, hb, hret, hml, hown, hts, hX, hbl, hlocks, hgv⟩ := id C0
  have hA : ∀ q : Nat, s.heap.size ≤ q → (fun q : Nat => s.heap.size ≤ q) q := fun _ h => h
  have hbA : ¬ (fun q : Nat => s.heap.size ≤ q) b := Nat.not_le.mpr hbl
  have ht : ∀ w ∈ zW, w.before #[Value.ref b] s = true := fun w hw => hts w (List.mem_filter.mp hw).1
  refine lv_aload_n hx hb dL_law_1521 rfl (lv_at hl 1 rfl) ?_
  refine lv_aload_n hx hb dL_law_1522 rfl (lv_at hl 0 rfl) ?_
  refine lv_iload_n hx hb dL_law_1523 rfl (lv_at hl 3 rfl) ?_
  refine lv_iconst (v := (1 : Int32)) hx hb dL_law_1524 (by decide) ?_
  refine lv_iadd hx hb dL_law_1525 ?_
  refine va_sld hx hb hX hbl hbA hS (zl_in h3 hL (by decide)) dL_law_1526 ?_
  obtain ⟨R1, hf1, hI2, hM1⟩ := K_X11_count l D cs k H.size ad z hI (xs (x3 + (1 : Int32)).toNatClampNeg)
  refine zk_LXi (As := [.int (xs (x3 + (1 : Int32)).toNatClampNeg)]) (rest := []) hE hO hM1 ⟨hx, hb, hml, hown, ht⟩ (cwV 1 ht gl_171 rfl rfl rfl (by decide +kernel) ⟨Nat.le_of_ble_eq_true rfl, Nat.le_of_ble_eq_true rfl⟩) (va_recv hK hP (ci := 11) (q0 := 44) rfl rfl) hP hD hS hK hA rfl hl.1 (Nat.le_of_ble_eq_true rfl) dL_law_1527 ⟨by show _ ≤ 600000; omega, by show _ ≤ 7302250; omega⟩ (fun H locs hP hD hS => ?_)
  refine lv_aload_n hx hb dL_law_1530 rfl (lv_at hl 2 rfl) ?_
  refine lv_aload_n hx hb dL_law_1531 rfl (lv_at hl 0 rfl) ?_
  refine lv_iload_n hx hb dL_law_1532 rfl (lv_at hl 3 rfl) ?_
  refine lv_iconst (v := (1 : Int32)) hx hb dL_law_1533 (by decide) ?_
  refine lv_iadd hx hb dL_law_1534 ?_
  refine va_sld hx hb hX hbl hbA hS (zl_in h3 hL (by decide)) dL_law_1535 ?_
  obtain ⟨R2, hf2, hJ2, hM2⟩ := K_X12_count l D cs k H.size am w hJ (xs (x3 + (1 : Int32)).toNatClampNeg)
  have hf3 := hf2
  rw [← (rl_0 hr :), ← (rl_5 hr :), ← (rl_6 hr :), ← (rl_7 hr :), ← (rl_12 hr :), ← (rl_15 hr :), ← (rl_17 hr :)] at hf3
  have EQ := pw_count hf1 hf3
  refine zk_LMi (As := [.int (xs (x3 + (1 : Int32)).toNatClampNeg)]) (rest := [.int R1.1]) hE hO hM2 ⟨hx, hb, hml, hown, ht⟩ (cwV 1 ht gl_174 rfl rfl rfl (by decide +kernel) ⟨Nat.le_of_ble_eq_true rfl, Nat.le_of_ble_eq_true rfl⟩) (va_recv hK hP (ci := 12) (q0 := 0) rfl rfl) hP hD hS hK hA rfl hl.1 (Nat.le_of_ble_eq_true rfl) dL_law_1536 ⟨by show _ ≤ 600000; omega, by show _ ≤ 7302250; omega⟩ (fun H locs hP hD hS => ?_)
  refine lv_icmp_eq (tgt := 1544) hx hb dL_law_1539 (by decide) (fun cc => ?_) (fun cc => absurd EQ cc)
  exact kk _ _ H locs ls _ _ hI2 hJ2 ⟨(rl_0 hr :), (rl_1 hr :), (rl_2 hr :), (rl_3 hr :), (rl_4 hr :), (rl_5 hr :), (rl_6 hr :), (rl_7 hr :), (rl_8 hr :), (rl_9 hr :), (rl_10 hr :), (rl_11 hr :), (rl_12 hr :), (rl_13 hr :), (rl_14 hr :), (rl_15 hr :), (rl_16 hr :), (rl_17 hr :), (rl_18 hr :), (rl_19 hr :), (rl_20 hr :), (rl_21 hr :), (rl_22 hr :), (rl_23 hr :), (rl_24 hr :), (rl_25 hr :), (rl_26 hr :), (rl_27 hr :), (rl_28 hr :), (rl_29 hr :), (rl_30 hr :), (rl_31 hr :), (rl_32 hr :), (rl_33 hr :)⟩ (by omega) (by omega) hP hD hS (lv_sub hl [0, 1, 2, 3] rfl)
