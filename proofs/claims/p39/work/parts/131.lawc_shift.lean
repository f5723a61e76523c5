theorem dL_law_1425 : decode cL_law 1425 = .ok (.aload_n 1, 1) := zo_43 zh_cL_law_71 5 rfl
theorem dL_law_1426 : decode cL_law 1426 = .ok (.aload_n 0, 1) := zo_42 zh_cL_law_71 6 rfl
theorem dL_law_1427 : decode cL_law 1427 = .ok (.iload_n 3, 1) := zo_29 zh_cL_law_71 7 rfl
theorem dL_law_1428 : decode cL_law 1428 = .ok (.iconst 1, 1) := zo_4 zh_cL_law_71 8 rfl
theorem dL_law_1429 : decode cL_law 1429 = .ok (.iadd, 1) := zo_96 zh_cL_law_71 9 rfl
theorem dL_law_1430 : decode cL_law 1430 = .ok (.iaload, 1) := zo_46 zh_cL_law_71 10 rfl
theorem dL_law_1431 : decode cL_law 1431 = .ok (.aload_n 0, 1) := zo_42 zh_cL_law_71 11 rfl
theorem dL_law_1432 : decode cL_law 1432 = .ok (.iload_n 3, 1) := zo_29 zh_cL_law_71 12 rfl
theorem dL_law_1433 : decode cL_law 1433 = .ok (.iconst 2, 1) := zo_5 zh_cL_law_71 13 rfl
theorem dL_law_1434 : decode cL_law 1434 = .ok (.iadd, 1) := zo_96 zh_cL_law_71 14 rfl
theorem dL_law_1435 : decode cL_law 1435 = .ok (.iaload, 1) := zo_46 zh_cL_law_71 15 rfl
theorem dL_law_1436 : decode cL_law 1436 = .ok (.aload_n 0, 1) := zo_42 zh_cL_law_71 16 rfl
theorem dL_law_1437 : decode cL_law 1437 = .ok (.iload_n 3, 1) := zo_29 zh_cL_law_71 17 rfl
theorem dL_law_1438 : decode cL_law 1438 = .ok (.iconst 3, 1) := zo_6 zh_cL_law_71 18 rfl
theorem dL_law_1439 : decode cL_law 1439 = .ok (.iadd, 1) := zo_96 zh_cL_law_71 19 rfl
set_option maxRecDepth 100000 in
theorem zh_cL_law_72 : zck [46, 42, 29, 7, 96, 46, 42, 29, 8, 96, 46, 182, 0, 162, 87, 44, 42, 29, 4, 96, 46, 42] (zdu 1440 cL_law.data.toList) = true := by decide +kernel
theorem dL_law_1440 : decode cL_law 1440 = .ok (.iaload, 1) := zo_46 zh_cL_law_72 0 rfl
theorem dL_law_1441 : decode cL_law 1441 = .ok (.aload_n 0, 1) := zo_42 zh_cL_law_72 1 rfl
theorem dL_law_1442 : decode cL_law 1442 = .ok (.iload_n 3, 1) := zo_29 zh_cL_law_72 2 rfl
theorem dL_law_1443 : decode cL_law 1443 = .ok (.iconst 4, 1) := zo_7 zh_cL_law_72 3 rfl
theorem dL_law_1444 : decode cL_law 1444 = .ok (.iadd, 1) := zo_96 zh_cL_law_72 4 rfl
theorem dL_law_1445 : decode cL_law 1445 = .ok (.iaload, 1) := zo_46 zh_cL_law_72 5 rfl
theorem dL_law_1446 : decode cL_law 1446 = .ok (.aload_n 0, 1) := zo_42 zh_cL_law_72 6 rfl
theorem dL_law_1447 : decode cL_law 1447 = .ok (.iload_n 3, 1) := zo_29 zh_cL_law_72 7 rfl
theorem dL_law_1448 : decode cL_law 1448 = .ok (.iconst 5, 1) := zo_8 zh_cL_law_72 8 rfl
theorem dL_law_1449 : decode cL_law 1449 = .ok (.iadd, 1) := zo_96 zh_cL_law_72 9 rfl
theorem dL_law_1450 : decode cL_law 1450 = .ok (.iaload, 1) := zo_46 zh_cL_law_72 10 rfl
theorem dL_law_1451 : decode cL_law 1451 = .ok (.invokevirtual 162, 3) := zo_182 zh_cL_law_72 11 rfl
theorem dL_law_1454 : decode cL_law 1454 = .ok (.pop, 1) := zo_87 zh_cL_law_72 14 rfl
theorem dL_law_1455 : decode cL_law 1455 = .ok (.aload_n 2, 1) := zo_44 zh_cL_law_72 15 rfl
theorem dL_law_1456 : decode cL_law 1456 = .ok (.aload_n 0, 1) := zo_42 zh_cL_law_72 16 rfl
theorem dL_law_1457 : decode cL_law 1457 = .ok (.iload_n 3, 1) := zo_29 zh_cL_law_72 17 rfl
theorem dL_law_1458 : decode cL_law 1458 = .ok (.iconst 1, 1) := zo_4 zh_cL_law_72 18 rfl
theorem dL_law_1459 : decode cL_law 1459 = .ok (.iadd, 1) := zo_96 zh_cL_law_72 19 rfl
set_option maxRecDepth 100000 in
theorem zh_cL_law_73 : zck [46, 42, 29, 5, 96, 46, 42, 29, 6, 96, 46, 42, 29, 7, 96, 46, 42, 29, 8, 96, 46, 182] (zdu 1460 cL_law.data.toList) = true := by decide +kernel
theorem dL_law_1460 : decode cL_law 1460 = .ok (.iaload, 1) := zo_46 zh_cL_law_73 0 rfl
theorem dL_law_1461 : decode cL_law 1461 = .ok (.aload_n 0, 1) := zo_42 zh_cL_law_73 1 rfl
theorem dL_law_1462 : decode cL_law 1462 = .ok (.iload_n 3, 1) := zo_29 zh_cL_law_73 2 rfl
theorem dL_law_1463 : decode cL_law 1463 = .ok (.iconst 2, 1) := zo_5 zh_cL_law_73 3 rfl
theorem dL_law_1464 : decode cL_law 1464 = .ok (.iadd, 1) := zo_96 zh_cL_law_73 4 rfl
theorem dL_law_1465 : decode cL_law 1465 = .ok (.iaload, 1) := zo_46 zh_cL_law_73 5 rfl
theorem dL_law_1466 : decode cL_law 1466 = .ok (.aload_n 0, 1) := zo_42 zh_cL_law_73 6 rfl
theorem dL_law_1467 : decode cL_law 1467 = .ok (.iload_n 3, 1) := zo_29 zh_cL_law_73 7 rfl
theorem dL_law_1468 : decode cL_law 1468 = .ok (.iconst 3, 1) := zo_6 zh_cL_law_73 8 rfl
theorem dL_law_1469 : decode cL_law 1469 = .ok (.iadd, 1) := zo_96 zh_cL_law_73 9 rfl
theorem dL_law_1470 : decode cL_law 1470 = .ok (.iaload, 1) := zo_46 zh_cL_law_73 10 rfl
theorem dL_law_1471 : decode cL_law 1471 = .ok (.aload_n 0, 1) := zo_42 zh_cL_law_73 11 rfl
theorem dL_law_1472 : decode cL_law 1472 = .ok (.iload_n 3, 1) := zo_29 zh_cL_law_73 12 rfl
theorem dL_law_1473 : decode cL_law 1473 = .ok (.iconst 4, 1) := zo_7 zh_cL_law_73 13 rfl
theorem dL_law_1474 : decode cL_law 1474 = .ok (.iadd, 1) := zo_96 zh_cL_law_73 14 rfl
theorem dL_law_1475 : decode cL_law 1475 = .ok (.iaload, 1) := zo_46 zh_cL_law_73 15 rfl
theorem dL_law_1476 : decode cL_law 1476 = .ok (.aload_n 0, 1) := zo_42 zh_cL_law_73 16 rfl
theorem dL_law_1477 : decode cL_law 1477 = .ok (.iload_n 3, 1) := zo_29 zh_cL_law_73 17 rfl
theorem dL_law_1478 : decode cL_law 1478 = .ok (.iconst 5, 1) := zo_8 zh_cL_law_73 18 rfl
theorem dL_law_1479 : decode cL_law 1479 = .ok (.iadd, 1) := zo_96 zh_cL_law_73 19 rfl
set_option maxRecDepth 100000 in
theorem zh_cL_law_74 : zck [46, 182, 0, 166, 87, 167, 0, 59, 43, 42, 29, 4, 96, 46, 42, 29, 5, 96, 46, 182, 0, 167] (zdu 1480 cL_law.data.toList) = true := by decide +kernel
theorem dL_law_1480 : decode cL_law 1480 = .ok (.iaload, 1) := zo_46 zh_cL_law_74 0 rfl
theorem dL_law_1481 : decode cL_law 1481 = .ok (.invokevirtual 166, 3) := zo_182 zh_cL_law_74 1 rfl
theorem dL_law_1484 : decode cL_law 1484 = .ok (.pop, 1) := zo_87 zh_cL_law_74 4 rfl
theorem dL_law_1485 : decode cL_law 1485 = .ok (.goto 59, 3) := zo_p167 zh_cL_law_74 5 59 rfl rfl
set_option maxHeartbeats 8000000 in
set_option maxRecDepth 100000 in
theorem law_case_35 {p : Program} {l : Launch} {e : Env} {s : State} {m : MethodId} {below : List Frame} {meth : Method} {c : Code} {b L : Nat} {xs : Nat → Int32} {D : va_G} {cs : Nat → ClassId} {k : (Nat → Nat) × (Nat → Nat)} {ad am : Nat → Nat} (C0 : lw_At p s m meth c b L xs) (hK : va_K D classes (zT cs) s) (hO : zO s) (hE : zE k (fun q : Nat => s.heap.size ≤ q) s) (hL : L ≤ 3072) (x3 : Int32) (h3 : 0 ≤ x3.toInt ∧ x3.toInt + 6 ≤ (L : Int)) (z : ZT) (w : MT) (hI : IX ad cs z) (hJ : IM w) (hr : RL z w) (cells slots : Nat) (hc : cells + 2 ≤ 600000) (hs : slots + 122 ≤ 7302250) (H : Heap) (locs : List Loc) (ls : Array Slot) (hP : va_P D classes (WM am cs w ++ WX ad cs z) H) (hD : va_D (fun q : Nat => s.heap.size ≤ q) (WM am cs w ++ WX ad cs z)) (hS : va_S (fun q : Nat => s.heap.size ≤ q) s.heap H locs) (hl : lv_has ls 4 [(0, .ref b), (1, .ref (ad 0)), (2, .ref (am 41)), (3, .int x3)]) (kk : ∀ (z2 : ZT) (w2 : MT) (H : Heap) (locs : List Loc) (ls : Array Slot) (cells2 slots2 : Nat), IX ad cs z2 → IM w2 → RL z2 w2 → cells2 ≤ cells + 2 → slots2 ≤ slots + 122 → va_P D classes (WM am cs w2 ++ WX ad cs z2) H → va_D (fun q : Nat => s.heap.size ≤ q) (WM am cs w2 ++ WX ad cs z2) → va_S (fun q : Nat => s.heap.size ≤ q) s.heap H locs → lv_has ls 4 [(0, .ref b), (1, .ref (ad 0)), (2, .ref (am 41)), (3, .int x3)] → W p l e room_1 s m #[Value.ref b] below meth c H locs cells2 slots2 (lw_Z below #[Value.ref b] s) (F0 m 1544 ls [])) : W p l e room_1 s m #[Value.ref b] below meth c H locs cells slots (lw_Z below #[Value.ref b] s) (F0 m 1425 ls []) := by
  obtain ⟨hx, hb, hret, hml, hown, hts, hX, hbl, hlocks, hgv⟩ := id C0
  have hA : ∀ q : Nat, s.heap.size ≤ q → (fun q : Nat => s.heap.size ≤ q) q := fun _ h => h
  have hbA : ¬ (fun q : Nat => s.heap.size ≤ q) b := Nat.not_le.mpr hbl
  have ht : ∀ w ∈ zW, w.before #[Value.ref b] s = true := fun w hw => hts w (List.mem_filter.mp hw).1
  obtain ⟨j0, hj0, hp0⟩ := zk_pl (xs (x3 + (1 : Int32)).toNatClampNeg)
  rcases (show j0 = 0 ∨ j0 = 1 ∨ j0 = 2 ∨ j0 = 3 ∨ j0 = 4 ∨ j0 = 5 by omega) with rfl | rfl | rfl | rfl | rfl | rfl
  · obtain ⟨j1, hj1, hp1⟩ := zk_pl (xs (x3 + (3 : Int32)).toNatClampNeg)
    rcases (show j1 = 0 ∨ j1 = 1 ∨ j1 = 2 ∨ j1 = 3 ∨ j1 = 4 ∨ j1 = 5 by omega) with rfl | rfl | rfl | rfl | rfl | rfl
    · refine lv_aload_n hx hb dL_law_1425 rfl (lv_at hl 1 rfl) ?_
      refine lv_aload_n hx hb dL_law_1426 rfl (lv_at hl 0 rfl) ?_
      refine lv_iload_n hx hb dL_law_1427 rfl (lv_at hl 3 rfl) ?_
      refine lv_iconst (v := (1 : Int32)) hx hb dL_law_1428 (by decide) ?_
      refine lv_iadd hx hb dL_law_1429 ?_
      refine va_sld hx hb hX hbl hbA hS (zl_in h3 hL (by decide)) dL_law_1430 ?_
      refine lv_aload_n hx hb dL_law_1431 rfl (lv_at hl 0 rfl) ?_
      refine lv_iload_n hx hb dL_law_1432 rfl (lv_at hl 3 rfl) ?_
      refine lv_iconst (v := (2 : Int32)) hx hb dL_law_1433 (by decide) ?_
      refine lv_iadd hx hb dL_law_1434 ?_
      refine va_sld hx hb hX hbl hbA hS (zl_in h3 hL (by decide)) dL_law_1435 ?_
      refine lv_aload_n hx hb dL_law_1436 rfl (lv_at hl 0 rfl) ?_
      refine lv_iload_n hx hb dL_law_1437 rfl (lv_at hl 3 rfl) ?_
      refine lv_iconst (v := (3 : Int32)) hx hb dL_law_1438 (by decide) ?_
      refine lv_iadd hx hb dL_law_1439 ?_
      refine va_sld hx hb hX hbl hbA hS (zl_in h3 hL (by decide)) dL_law_1440 ?_
      refine lv_aload_n hx hb dL_law_1441 rfl (lv_at hl 0 rfl) ?_
      refine lv_iload_n hx hb dL_law_1442 rfl (lv_at hl 3 rfl) ?_
      refine lv_iconst (v := (4 : Int32)) hx hb dL_law_1443 (by decide) ?_
      refine lv_iadd hx hb dL_law_1444 ?_
      refine va_sld hx hb hX hbl hbA hS (zl_in h3 hL (by decide)) dL_law_1445 ?_
      refine lv_aload_n hx hb dL_law_1446 rfl (lv_at hl 0 rfl) ?_
      refine lv_iload_n hx hb dL_law_1447 rfl (lv_at hl 3 rfl) ?_
      refine lv_iconst (v := (5 : Int32)) hx hb dL_law_1448 (by decide) ?_
      refine lv_iadd hx hb dL_law_1449 ?_
      refine va_sld hx hb hX hbl hbA hS (zl_in h3 hL (by decide)) dL_law_1450 ?_
      obtain ⟨R1, hf1, hI2, hM1⟩ := K_X11_shift_0A l D cs k H.size ad z hI (xs (x3 + (1 : Int32)).toNatClampNeg) (xs (x3 + (2 : Int32)).toNatClampNeg) (xs (x3 + (3 : Int32)).toNatClampNeg) (xs (x3 + (4 : Int32)).toNatClampNeg) (xs (x3 + (5 : Int32)).toNatClampNeg) hp0 hp1
      refine zk_LXi (As := [.int (xs (x3 + (1 : Int32)).toNatClampNeg), .int (xs (x3 + (2 : Int32)).toNatClampNeg), .int (xs (x3 + (3 : Int32)).toNatClampNeg), .int (xs (x3 + (4 : Int32)).toNatClampNeg), .int (xs (x3 + (5 : Int32)).toNatClampNeg)]) (rest := []) hE hO hM1 ⟨hx, hb, hml, hown, ht⟩ (cwV 5 ht gl_162 rfl rfl rfl (by decide +kernel) ⟨Nat.le_of_ble_eq_true rfl, Nat.le_of_ble_eq_true rfl⟩) (va_recv hK hP (ci := 11) (q0 := 44) rfl rfl) hP hD hS hK hA rfl hl.1 (Nat.le_of_ble_eq_true rfl) dL_law_1451 ⟨by show _ ≤ 600000; omega, by show _ ≤ 7302250; omega⟩ (fun H locs hP hD hS => ?_)
      refine lv_pop hx hb dL_law_1454 rfl ?_
      refine lv_aload_n hx hb dL_law_1455 rfl (lv_at hl 2 rfl) ?_
      refine lv_aload_n hx hb dL_law_1456 rfl (lv_at hl 0 rfl) ?_
      refine lv_iload_n hx hb dL_law_1457 rfl (lv_at hl 3 rfl) ?_
      refine lv_iconst (v := (1 : Int32)) hx hb dL_law_1458 (by decide) ?_
      refine lv_iadd hx hb dL_law_1459 ?_
      refine va_sld hx hb hX hbl hbA hS (zl_in h3 hL (by decide)) dL_law_1460 ?_
      refine lv_aload_n hx hb dL_law_1461 rfl (lv_at hl 0 rfl) ?_
      refine lv_iload_n hx hb dL_law_1462 rfl (lv_at hl 3 rfl) ?_
      refine lv_iconst (v := (2 : Int32)) hx hb dL_law_1463 (by decide) ?_
      refine lv_iadd hx hb dL_law_1464 ?_
      refine va_sld hx hb hX hbl hbA hS (zl_in h3 hL (by decide)) dL_law_1465 ?_
      refine lv_aload_n hx hb dL_law_1466 rfl (lv_at hl 0 rfl) ?_
      refine lv_iload_n hx hb dL_law_1467 rfl (lv_at hl 3 rfl) ?_
      refine lv_iconst (v := (3 : Int32)) hx hb dL_law_1468 (by decide) ?_
      refine lv_iadd hx hb dL_law_1469 ?_
      refine va_sld hx hb hX hbl hbA hS (zl_in h3 hL (by decide)) dL_law_1470 ?_
      refine lv_aload_n hx hb dL_law_1471 rfl (lv_at hl 0 rfl) ?_
      refine lv_iload_n hx hb dL_law_1472 rfl (lv_at hl 3 rfl) ?_
      refine lv_iconst (v := (4 : Int32)) hx hb dL_law_1473 (by decide) ?_
      refine lv_iadd hx hb dL_law_1474 ?_
      refine va_sld hx hb hX hbl hbA hS (zl_in h3 hL (by decide)) dL_law_1475 ?_
      refine lv_aload_n hx hb dL_law_1476 rfl (lv_at hl 0 rfl) ?_
      refine lv_iload_n hx hb dL_law_1477 rfl (lv_at hl 3 rfl) ?_
      refine lv_iconst (v := (5 : Int32)) hx hb dL_law_1478 (by decide) ?_
      refine lv_iadd hx hb dL_law_1479 ?_
      refine va_sld hx hb hX hbl hbA hS (zl_in h3 hL (by decide)) dL_law_1480 ?_
      obtain ⟨R2, hf2, hJ2, hM2⟩ := K_X12_shift l D cs k H.size am w hJ (xs (x3 + (1 : Int32)).toNatClampNeg) (xs (x3 + (2 : Int32)).toNatClampNeg) (xs (x3 + (3 : Int32)).toNatClampNeg) (xs (x3 + (4 : Int32)).toNatClampNeg) (xs (x3 + (5 : Int32)).toNatClampNeg)
      have hf3 := hf2
      rw [← (rl_0 hr :), ← (rl_5 hr :), ← (rl_6 hr :), ← (rl_7 hr :), ← (rl_12 hr :), ← (rl_15 hr :), ← (rl_17 hr :)] at hf3
      obtain ⟨EQ, E1, E2⟩ := pw_shiftB hp0 hp1 (rl_23 hr :) (rl_23 hr :) (pw_shA hf1) hf3
      have EQ2 : RL (z.1, z.2.1, (fun n => zc n 2 R1.2 (z.2.2.1 n)), z.2.2.2.1, z.2.2.2.2.1, z.2.2.2.2.2.1, z.2.2.2.2.2.2.1, z.2.2.2.2.2.2.2) (w.1, w.2.1, (fun n => zc n 0 R2.2.1 (zc n 1 R2.2.2 (w.2.2 n)))) := ⟨(rl_0 hr :), (rl_1 hr :), (rl_2 hr :), (rl_3 hr :), (rl_4 hr :), (rl_5 hr :), (rl_6 hr :), (rl_7 hr :), (rl_8 hr :), (rl_9 hr :), (rl_10 hr :), (rl_11 hr :), (rl_12 hr :), (rl_13 hr :), (rl_14 hr :), (rl_15 hr :), (rl_16 hr :), (rl_17 hr :), (rl_18 hr :), (rl_19 hr :), (rl_20 hr :), (rl_21 hr :), (rl_22 hr :), E1, (PLR_fr (rl_24 hr :) (Int.le_refl _) rfl rfl (fun k k1 k2 => E2 k (by omega))), (PLR_fr (rl_25 hr :) (Int.le_refl _) rfl rfl (fun k k1 k2 => E2 k (by omega))), (PLR_fr (rl_26 hr :) (Int.le_refl _) rfl rfl (fun k k1 k2 => E2 k (by omega))), (PLR_fr (rl_27 hr :) (Int.le_refl _) rfl rfl (fun k k1 k2 => E2 k (by omega))), (PLR_fr (rl_28 hr :) (Int.le_refl _) rfl rfl (fun k k1 k2 => E2 k (by omega))), (rl_29 hr :), (rl_30 hr :), (rl_31 hr :), (rl_32 hr :), (rl_33 hr :)⟩
      refine zk_LMi (As := [.int (xs (x3 + (1 : Int32)).toNatClampNeg), .int (xs (x3 + (2 : Int32)).toNatClampNeg), .int (xs (x3 + (3 : Int32)).toNatClampNeg), .int (xs (x3 + (4 : Int32)).toNatClampNeg), .int (xs (x3 + (5 : Int32)).toNatClampNeg)]) (rest := []) hE hO hM2 ⟨hx, hb, hml, hown, ht⟩ (cwV 5 ht gl_166 rfl rfl rfl (by decide +kernel) ⟨Nat.le_of_ble_eq_true rfl, Nat.le_of_ble_eq_true rfl⟩) (va_recv hK hP (ci := 12) (q0 := 0) rfl rfl) hP hD hS hK hA rfl hl.1 (Nat.le_of_ble_eq_true rfl) dL_law_1481 ⟨by show _ ≤ 600000; omega, by show _ ≤ 7302250; omega⟩ (fun H locs hP hD hS => ?_)
      refine lv_pop hx hb dL_law_1484 rfl ?_
      refine lv_goto (tgt := 1544) hx hb dL_law_1485 (by decide) ?_
      exact kk _ _ H locs ls _ _ hI2 hJ2 EQ2 (by omega) (by omega) hP hD hS (lv_sub hl [0, 1, 2, 3] rfl)
    · refine lv_aload_n hx hb dL_law_1425 rfl (lv_at hl 1 rfl) ?_
      refine lv_aload_n hx hb dL_law_1426 rfl (lv_at hl 0 rfl) ?_
      refine lv_iload_n hx hb dL_law_1427 rfl (lv_at hl 3 rfl) ?_
      refine lv_iconst (v := (1 : Int32)) hx hb dL_law_1428 (by decide) ?_
      refine lv_iadd hx hb dL_law_1429 ?_
      refine va_sld hx hb hX hbl hbA hS (zl_in h3 hL (by decide)) dL_law_1430 ?_
      refine lv_aload_n hx hb dL_law_1431 rfl (lv_at hl 0 rfl) ?_
      refine lv_iload_n hx hb dL_law_1432 rfl (lv_at hl 3 rfl) ?_
      refine lv_iconst (v := (2 : Int32)) hx hb dL_law_1433 (by decide) ?_
      refine lv_iadd hx hb dL_law_1434 ?_
      refine va_sld hx hb hX hbl hbA hS (zl_in h3 hL (by decide)) dL_law_1435 ?_
      refine lv_aload_n hx hb dL_law_1436 rfl (lv_at hl 0 rfl) ?_
      refine lv_iload_n hx hb dL_law_1437 rfl (lv_at hl 3 rfl) ?_
      refine lv_iconst (v := (3 : Int32)) hx hb dL_law_1438 (by decide) ?_
      refine lv_iadd hx hb dL_law_1439 ?_
      refine va_sld hx hb hX hbl hbA hS (zl_in h3 hL (by decide)) dL_law_1440 ?_
      refine lv_aload_n hx hb dL_law_1441 rfl (lv_at hl 0 rfl) ?_
      refine lv_iload_n hx hb dL_law_1442 rfl (lv_at hl 3 rfl) ?_
      refine lv_iconst (v := (4 : Int32)) hx hb dL_law_1443 (by decide) ?_
      refine lv_iadd hx hb dL_law_1444 ?_
      refine va_sld hx hb hX hbl hbA hS (zl_in h3 hL (by decide)) dL_law_1445 ?_
      refine lv_aload_n hx hb dL_law_1446 rfl (lv_at hl 0 rfl) ?_
      refine lv_iload_n hx hb dL_law_1447 rfl (lv_at hl 3 rfl) ?_
      refine lv_iconst (v := (5 : Int32)) hx hb dL_law_1448 (by decide) ?_
      refine lv_iadd hx hb dL_law_1449 ?_
      refine va_sld hx hb hX hbl hbA hS (zl_in h3 hL (by decide)) dL_law_1450 ?_
      obtain ⟨R1, hf1, hI2, hM1⟩ := K_X11_shift_0_1 l D cs k H.size ad z hI (xs (x3 + (1 : Int32)).toNatClampNeg) (xs (x3 + (2 : Int32)).toNatClampNeg) (xs (x3 + (3 : Int32)).toNatClampNeg) (xs (x3 + (4 : Int32)).toNatClampNeg) (xs (x3 + (5 : Int32)).toNatClampNeg) hp0 hp1
      refine zk_LXi (As := [.int (xs (x3 + (1 : Int32)).toNatClampNeg), .int (xs (x3 + (2 : Int32)).toNatClampNeg), .int (xs (x3 + (3 : Int32)).toNatClampNeg), .int (xs (x3 + (4 : Int32)).toNatClampNeg), .int (xs (x3 + (5 : Int32)).toNatClampNeg)]) (rest := []) hE hO hM1 ⟨hx, hb, hml, hown, ht⟩ (cwV 5 ht gl_162 rfl rfl rfl (by decide +kernel) ⟨Nat.le_of_ble_eq_true rfl, Nat.le_of_ble_eq_true rfl⟩) (va_recv hK hP (ci := 11) (q0 := 44) rfl rfl) hP hD hS hK hA rfl hl.1 (Nat.le_of_ble_eq_true rfl) dL_law_1451 ⟨by show _ ≤ 600000; omega, by show _ ≤ 7302250; omega⟩ (fun H locs hP hD hS => ?_)
      refine lv_pop hx hb dL_law_1454 rfl ?_
      refine lv_aload_n hx hb dL_law_1455 rfl (lv_at hl 2 rfl) ?_
      refine lv_aload_n hx hb dL_law_1456 rfl (lv_at hl 0 rfl) ?_
      refine lv_iload_n hx hb dL_law_1457 rfl (lv_at hl 3 rfl) ?_
      refine lv_iconst (v := (1 : Int32)) hx hb dL_law_1458 (by decide) ?_
      refine lv_iadd hx hb dL_law_1459 ?_
      refine va_sld hx hb hX hbl hbA hS (zl_in h3 hL (by decide)) dL_law_1460 ?_
      refine lv_aload_n hx hb dL_law_1461 rfl (lv_at hl 0 rfl) ?_
      refine lv_iload_n hx hb dL_law_1462 rfl (lv_at hl 3 rfl) ?_
      refine lv_iconst (v := (2 : Int32)) hx hb dL_law_1463 (by decide) ?_
      refine lv_iadd hx hb dL_law_1464 ?_
      refine va_sld hx hb hX hbl hbA hS (zl_in h3 hL (by decide)) dL_law_1465 ?_
      refine lv_aload_n hx hb dL_law_1466 rfl (lv_at hl 0 rfl) ?_
      refine lv_iload_n hx hb dL_law_1467 rfl (lv_at hl 3 rfl) ?_
      refine lv_iconst (v := (3 : Int32)) hx hb dL_law_1468 (by decide) ?_
      refine lv_iadd hx hb dL_law_1469 ?_
      refine va_sld hx hb hX hbl hbA hS (zl_in h3 hL (by decide)) dL_law_1470 ?_
      refine lv_aload_n hx hb dL_law_1471 rfl (lv_at hl 0 rfl) ?_
      refine lv_iload_n hx hb dL_law_1472 rfl (lv_at hl 3 rfl) ?_
      refine lv_iconst (v := (4 : Int32)) hx hb dL_law_1473 (by decide) ?_
      refine lv_iadd hx hb dL_law_1474 ?_
      refine va_sld hx hb hX hbl hbA hS (zl_in h3 hL (by decide)) dL_law_1475 ?_
      refine lv_aload_n hx hb dL_law_1476 rfl (lv_at hl 0 rfl) ?_
      refine lv_iload_n hx hb dL_law_1477 rfl (lv_at hl 3 rfl) ?_
      refine lv_iconst (v := (5 : Int32)) hx hb dL_law_1478 (by decide) ?_
      refine lv_iadd hx hb dL_law_1479 ?_
      refine va_sld hx hb hX hbl hbA hS (zl_in h3 hL (by decide)) dL_law_1480 ?_
      obtain ⟨R2, hf2, hJ2, hM2⟩ := K_X12_shift l D cs k H.size am w hJ (xs (x3 + (1 : Int32)).toNatClampNeg) (xs (x3 + (2 : Int32)).toNatClampNeg) (xs (x3 + (3 : Int32)).toNatClampNeg) (xs (x3 + (4 : Int32)).toNatClampNeg) (xs (x3 + (5 : Int32)).toNatClampNeg)
      have hf3 := hf2
      rw [← (rl_0 hr :), ← (rl_5 hr :), ← (rl_6 hr :), ← (rl_7 hr :), ← (rl_12 hr :), ← (rl_15 hr :), ← (rl_17 hr :)] at hf3
      obtain ⟨EQ, E1, E2⟩ := pw_shiftB hp0 hp1 (rl_23 hr :) (rl_24 hr :) hf1 hf3
      have EQ2 : RL (z.1, z.2.1, (fun n => zc n 3 R1.2 (z.2.2.1 n)), z.2.2.2.1, z.2.2.2.2.1, z.2.2.2.2.2.1, z.2.2.2.2.2.2.1, z.2.2.2.2.2.2.2) (w.1, w.2.1, (fun n => zc n 0 R2.2.1 (zc n 1 R2.2.2 (w.2.2 n)))) := ⟨(rl_0 hr :), (rl_1 hr :), (rl_2 hr :), (rl_3 hr :), (rl_4 hr :), (rl_5 hr :), (rl_6 hr :), (rl_7 hr :), (rl_8 hr :), (rl_9 hr :), (rl_10 hr :), (rl_11 hr :), (rl_12 hr :), (rl_13 hr :), (rl_14 hr :), (rl_15 hr :), (rl_16 hr :), (rl_17 hr :), (rl_18 hr :), (rl_19 hr :), (rl_20 hr :), (rl_21 hr :), (rl_22 hr :), (PLR_fr (rl_23 hr :) (Int.le_refl _) rfl rfl (fun k k1 k2 => E2 k (by omega))), E1, (PLR_fr (rl_25 hr :) (Int.le_refl _) rfl rfl (fun k k1 k2 => E2 k (by omega))), (PLR_fr (rl_26 hr :) (Int.le_refl _) rfl rfl (fun k k1 k2 => E2 k (by omega))), (PLR_fr (rl_27 hr :) (Int.le_refl _) rfl rfl (fun k k1 k2 => E2 k (by omega))), (PLR_fr (rl_28 hr :) (Int.le_refl _) rfl rfl (fun k k1 k2 => E2 k (by omega))), (rl_29 hr :), (rl_30 hr :), (rl_31 hr :), (rl_32 hr :), (rl_33 hr :)⟩
      refine zk_LMi (As := [.int (xs (x3 + (1 : Int32)).toNatClampNeg), .int (xs (x3 + (2 : Int32)).toNatClampNeg), .int (xs (x3 + (3 : Int32)).toNatClampNeg), .int (xs (x3 + (4 : Int32)).toNatClampNeg), .int (xs (x3 + (5 : Int32)).toNatClampNeg)]) (rest := []) hE hO hM2 ⟨hx, hb, hml, hown, ht⟩ (cwV 5 ht gl_166 rfl rfl rfl (by decide +kernel) ⟨Nat.le_of_ble_eq_true rfl, Nat.le_of_ble_eq_true rfl⟩) (va_recv hK hP (ci := 12) (q0 := 0) rfl rfl) hP hD hS hK hA rfl hl.1 (Nat.le_of_ble_eq_true rfl) dL_law_1481 ⟨by show _ ≤ 600000; omega, by show _ ≤ 7302250; omega⟩ (fun H locs hP hD hS => ?_)
      refine lv_pop hx hb dL_law_1484 rfl ?_
      refine lv_goto (tgt := 1544) hx hb dL_law_1485 (by decide) ?_
      exact kk _ _ H locs ls _ _ hI2 hJ2 EQ2 (by omega) (by omega) hP hD hS (lv_sub hl [0, 1, 2, 3] rfl)
    · refine lv_aload_n hx hb dL_law_1425 rfl (lv_at hl 1 rfl) ?_
      refine lv_aload_n hx hb dL_law_1426 rfl (lv_at hl 0 rfl) ?_
      refine lv_iload_n hx hb dL_law_1427 rfl (lv_at hl 3 rfl) ?_
      refine lv_iconst (v := (1 : Int32)) hx hb dL_law_1428 (by decide) ?_
      refine lv_iadd hx hb dL_law_1429 ?_
      refine va_sld hx hb hX hbl hbA hS (zl_in h3 hL (by decide)) dL_law_1430 ?_
      refine lv_aload_n hx hb dL_law_1431 rfl (lv_at hl 0 rfl) ?_
      refine lv_iload_n hx hb dL_law_1432 rfl (lv_at hl 3 rfl) ?_
      refine lv_iconst (v := (2 : Int32)) hx hb dL_law_1433 (by decide) ?_
      refine lv_iadd hx hb dL_law_1434 ?_
      refine va_sld hx hb hX hbl hbA hS (zl_in h3 hL (by decide)) dL_law_1435 ?_
      refine lv_aload_n hx hb dL_law_1436 rfl (lv_at hl 0 rfl) ?_
      refine lv_iload_n hx hb dL_law_1437 rfl (lv_at hl 3 rfl) ?_
      refine lv_iconst (v := (3 : Int32)) hx hb dL_law_1438 (by decide) ?_
      refine lv_iadd hx hb dL_law_1439 ?_
      refine va_sld hx hb hX hbl hbA hS (zl_in h3 hL (by decide)) dL_law_1440 ?_
      refine lv_aload_n hx hb dL_law_1441 rfl (lv_at hl 0 rfl) ?_
      refine lv_iload_n hx hb dL_law_1442 rfl (lv_at hl 3 rfl) ?_
      refine lv_iconst (v := (4 : Int32)) hx hb dL_law_1443 (by decide) ?_
      refine lv_iadd hx hb dL_law_1444 ?_
      refine va_sld hx hb hX hbl hbA hS (zl_in h3 hL (by decide)) dL_law_1445 ?_
      refine lv_aload_n hx hb dL_law_1446 rfl (lv_at hl 0 rfl) ?_
      refine lv_iload_n hx hb dL_law_1447 rfl (lv_at hl 3 rfl) ?_
      refine lv_iconst (v := (5 : Int32)) hx hb dL_law_1448 (by decide) ?_
      refine lv_iadd hx hb dL_law_1449 ?_
      refine va_sld hx hb hX hbl hbA hS (zl_in h3 hL (by decide)) dL_law_1450 ?_
      obtain ⟨R1, hf1, hI2, hM1⟩ := K_X11_shift_0_2 l D cs k H.size ad z hI (xs (x3 + (1 : Int32)).toNatClampNeg) (xs (x3 + (2 : Int32)).toNatClampNeg) (xs (x3 + (3 : Int32)).toNatClampNeg) (xs (x3 + (4 : Int32)).toNatClampNeg) (xs (x3 + (5 : Int32)).toNatClampNeg) hp0 hp1
      refine zk_LXi (As := [.int (xs (x3 + (1 : Int32)).toNatClampNeg), .int (xs (x3 + (2 : Int32)).toNatClampNeg), .int (xs (x3 + (3 : Int32)).toNatClampNeg), .int (xs (x3 + (4 : Int32)).toNatClampNeg), .int (xs (x3 + (5 : Int32)).toNatClampNeg)]) (rest := []) hE hO hM1 ⟨hx, hb, hml, hown, ht⟩ (cwV 5 ht gl_162 rfl rfl rfl (by decide +kernel) ⟨Nat.le_of_ble_eq_true rfl, Nat.le_of_ble_eq_true rfl⟩) (va_recv hK hP (ci := 11) (q0 := 44) rfl rfl) hP hD hS hK hA rfl hl.1 (Nat.le_of_ble_eq_true rfl) dL_law_1451 ⟨by show _ ≤ 600000; omega, by show _ ≤ 7302250; omega⟩ (fun H locs hP hD hS => ?_)
      refine lv_pop hx hb dL_law_1454 rfl ?_
      refine lv_aload_n hx hb dL_law_1455 rfl (lv_at hl 2 rfl) ?_
      refine lv_aload_n hx hb dL_law_1456 rfl (lv_at hl 0 rfl) ?_
      refine lv_iload_n hx hb dL_law_1457 rfl (lv_at hl 3 rfl) ?_
      refine lv_iconst (v := (1 : Int32)) hx hb dL_law_1458 (by decide) ?_
      refine lv_iadd hx hb dL_law_1459 ?_
      refine va_sld hx hb hX hbl hbA hS (zl_in h3 hL (by decide)) dL_law_1460 ?_
      refine lv_aload_n hx hb dL_law_1461 rfl (lv_at hl 0 rfl) ?_
      refine lv_iload_n hx hb dL_law_1462 rfl (lv_at hl 3 rfl) ?_
      refine lv_iconst (v := (2 : Int32)) hx hb dL_law_1463 (by decide) ?_
      refine lv_iadd hx hb dL_law_1464 ?_
      refine va_sld hx hb hX hbl hbA hS (zl_in h3 hL (by decide)) dL_law_1465 ?_
      refine lv_aload_n hx hb dL_law_1466 rfl (lv_at hl 0 rfl) ?_
      refine lv_iload_n hx hb dL_law_1467 rfl (lv_at hl 3 rfl) ?_
      refine lv_iconst (v := (3 : Int32)) hx hb dL_law_1468 (by decide) ?_
      refine lv_iadd hx hb dL_law_1469 ?_
      refine va_sld hx hb hX hbl hbA hS (zl_in h3 hL (by decide)) dL_law_1470 ?_
      refine lv_aload_n hx hb dL_law_1471 rfl (lv_at hl 0 rfl) ?_
      refine lv_iload_n hx hb dL_law_1472 rfl (lv_at hl 3 rfl) ?_
      refine lv_iconst (v := (4 : Int32)) hx hb dL_law_1473 (by decide) ?_
      refine lv_iadd hx hb dL_law_1474 ?_
      refine va_sld hx hb hX hbl hbA hS (zl_in h3 hL (by decide)) dL_law_1475 ?_
      refine lv_aload_n hx hb dL_law_1476 rfl (lv_at hl 0 rfl) ?_
      refine lv_iload_n hx hb dL_law_1477 rfl (lv_at hl 3 rfl) ?_
      refine lv_iconst (v := (5 : Int32)) hx hb dL_law_1478 (by decide) ?_
      refine lv_iadd hx hb dL_law_1479 ?_
      refine va_sld hx hb hX hbl hbA hS (zl_in h3 hL (by decide)) dL_law_1480 ?_
      obtain ⟨R2, hf2, hJ2, hM2⟩ := K_X12_shift l D cs k H.size am w hJ (xs (x3 + (1 : Int32)).toNatClampNeg) (xs (x3 + (2 : Int32)).toNatClampNeg) (xs (x3 + (3 : Int32)).toNatClampNeg) (xs (x3 + (4 : Int32)).toNatClampNeg) (xs (x3 + (5 : Int32)).toNatClampNeg)
      have hf3 := hf2
      rw [← (rl_0 hr :), ← (rl_5 hr :), ← (rl_6 hr :), ← (rl_7 hr :), ← (rl_12 hr :), ← (rl_15 hr :), ← (rl_17 hr :)] at hf3
      obtain ⟨EQ, E1, E2⟩ := pw_shiftB hp0 hp1 (rl_23 hr :) (rl_25 hr :) hf1 hf3
      have EQ2 : RL (z.1, z.2.1, (fun n => zc n 4 R1.2 (z.2.2.1 n)), z.2.2.2.1, z.2.2.2.2.1, z.2.2.2.2.2.1, z.2.2.2.2.2.2.1, z.2.2.2.2.2.2.2) (w.1, w.2.1, (fun n => zc n 0 R2.2.1 (zc n 1 R2.2.2 (w.2.2 n)))) := ⟨(rl_0 hr :), (rl_1 hr :), (rl_2 hr :), (rl_3 hr :), (rl_4 hr :), (rl_5 hr :), (rl_6 hr :), (rl_7 hr :), (rl_8 hr :), (rl_9 hr :), (rl_10 hr :), (rl_11 hr :), (rl_12 hr :), (rl_13 hr :), (rl_14 hr :), (rl_15 hr :), (rl_16 hr :), (rl_17 hr :), (rl_18 hr :), (rl_19 hr :), (rl_20 hr :), (rl_21 hr :), (rl_22 hr :), (PLR_fr (rl_23 hr :) (Int.le_refl _) rfl rfl (fun k k1 k2 => E2 k (by omega))), (PLR_fr (rl_24 hr :) (Int.le_refl _) rfl rfl (fun k k1 k2 => E2 k (by omega))), E1, (PLR_fr (rl_26 hr :) (Int.le_refl _) rfl rfl (fun k k1 k2 => E2 k (by omega))), (PLR_fr (rl_27 hr :) (Int.le_refl _) rfl rfl (fun k k1 k2 => E2 k (by omega))), (PLR_fr (rl_28 hr :) (Int.le_refl _) rfl rfl (fun k k1 k2 => E2 k (by omega))), (rl_29 hr :), (rl_30 hr :), (rl_31 hr :), (rl_32 hr :), (rl_33 hr :)⟩
      refine zk_LMi (As := [.int (xs (x3 + (1 : Int32)).toNatClampNeg), .int (xs (x3 + (2 : Int32)).toNatClampNeg), .int (xs (x3 + (3 : Int32)).toNatClampNeg), .int (xs (x3 + (4 : Int32)).toNatClampNeg), .int (xs (x3 + (5 : Int32)).toNatClampNeg)]) (rest := []) hE hO hM2 ⟨hx, hb, hml, hown, ht⟩ (cwV 5 ht gl_166 rfl rfl rfl (by decide +kernel) ⟨Nat.le_of_ble_eq_true rfl, Nat.le_of_ble_eq_true rfl⟩) (va_recv hK hP (ci := 12) (q0 := 0) rfl rfl) hP hD hS hK hA rfl hl.1 (Nat.le_of_ble_eq_true rfl) dL_law_1481 ⟨by show _ ≤ 600000; omega, by show _ ≤ 7302250; omega⟩ (fun H locs hP hD hS => ?_)
      refine lv_pop hx hb dL_law_1484 rfl ?_
      refine lv_goto (tgt := 1544) hx hb dL_law_1485 (by decide) ?_
      exact kk _ _ H locs ls _ _ hI2 hJ2 EQ2 (by omega) (by omega) hP hD hS (lv_sub hl [0, 1, 2, 3] rfl)
    · refine lv_aload_n hx hb dL_law_1425 rfl (lv_at hl 1 rfl) ?_
      refine lv_aload_n hx hb dL_law_1426 rfl (lv_at hl 0 rfl) ?_
      refine lv_iload_n hx hb dL_law_1427 rfl (lv_at hl 3 rfl) ?_
      refine lv_iconst (v := (1 : Int32)) hx hb dL_law_1428 (by decide) ?_
      refine lv_iadd hx hb dL_law_1429 ?_
      refine va_sld hx hb hX hbl hbA hS (zl_in h3 hL (by decide)) dL_law_1430 ?_
      refine lv_aload_n hx hb dL_law_1431 rfl (lv_at hl 0 rfl) ?_
      refine lv_iload_n hx hb dL_law_1432 rfl (lv_at hl 3 rfl) ?_
      refine lv_iconst (v := (2 : Int32)) hx hb dL_law_1433 (by decide) ?_
      refine lv_iadd hx hb dL_law_1434 ?_
      refine va_sld hx hb hX hbl hbA hS (zl_in h3 hL (by decide)) dL_law_1435 ?_
      refine lv_aload_n hx hb dL_law_1436 rfl (lv_at hl 0 rfl) ?_
      refine lv_iload_n hx hb dL_law_1437 rfl (lv_at hl 3 rfl) ?_
      refine lv_iconst (v := (3 : Int32)) hx hb dL_law_1438 (by decide) ?_
      refine lv_iadd hx hb dL_law_1439 ?_
      refine va_sld hx hb hX hbl hbA hS (zl_in h3 hL (by decide)) dL_law_1440 ?_
      refine lv_aload_n hx hb dL_law_1441 rfl (lv_at hl 0 rfl) ?_
      refine lv_iload_n hx hb dL_law_1442 rfl (lv_at hl 3 rfl) ?_
      refine lv_iconst (v := (4 : Int32)) hx hb dL_law_1443 (by decide) ?_
      refine lv_iadd hx hb dL_law_1444 ?_
      refine va_sld hx hb hX hbl hbA hS (zl_in h3 hL (by decide)) dL_law_1445 ?_
      refine lv_aload_n hx hb dL_law_1446 rfl (lv_at hl 0 rfl) ?_
      refine lv_iload_n hx hb dL_law_1447 rfl (lv_at hl 3 rfl) ?_
      refine lv_iconst (v := (5 : Int32)) hx hb dL_law_1448 (by decide) ?_
      refine lv_iadd hx hb dL_law_1449 ?_
      refine va_sld hx hb hX hbl hbA hS (zl_in h3 hL (by decide)) dL_law_1450 ?_
      obtain ⟨R1, hf1, hI2, hM1⟩ := K_X11_shift_0_3 l D cs k H.size ad z hI (xs (x3 + (1 : Int32)).toNatClampNeg) (xs (x3 + (2 : Int32)).toNatClampNeg) (xs (x3 + (3 : Int32)).toNatClampNeg) (xs (x3 + (4 : Int32)).toNatClampNeg) (xs (x3 + (5 : Int32)).toNatClampNeg) hp0 hp1
      refine zk_LXi (As := [.int (xs (x3 + (1 : Int32)).toNatClampNeg), .int (xs (x3 + (2 : Int32)).toNatClampNeg), .int (xs (x3 + (3 : Int32)).toNatClampNeg), .int (xs (x3 + (4 : Int32)).toNatClampNeg), .int (xs (x3 + (5 : Int32)).toNatClampNeg)]) (rest := []) hE hO hM1 ⟨hx, hb, hml, hown, ht⟩ (cwV 5 ht gl_162 rfl rfl rfl (by decide +kernel) ⟨Nat.le_of_ble_eq_true rfl, Nat.le_of_ble_eq_true rfl⟩) (va_recv hK hP (ci := 11) (q0 := 44) rfl rfl) hP hD hS hK hA rfl hl.1 (Nat.le_of_ble_eq_true rfl) dL_law_1451 ⟨by show _ ≤ 600000; omega, by show _ ≤ 7302250; omega⟩ (fun H locs hP hD hS => ?_)
      refine lv_pop hx hb dL_law_1454 rfl ?_
      refine lv_aload_n hx hb dL_law_1455 rfl (lv_at hl 2 rfl) ?_
      refine lv_aload_n hx hb dL_law_1456 rfl (lv_at hl 0 rfl) ?_
      refine lv_iload_n hx hb dL_law_1457 rfl (lv_at hl 3 rfl) ?_
      refine lv_iconst (v := (1 : Int32)) hx hb dL_law_1458 (by decide) ?_
      refine lv_iadd hx hb dL_law_1459 ?_
      refine va_sld hx hb hX hbl hbA hS (zl_in h3 hL (by decide)) dL_law_1460 ?_
      refine lv_aload_n hx hb dL_law_1461 rfl (lv_at hl 0 rfl) ?_
      refine lv_iload_n hx hb dL_law_1462 rfl (lv_at hl 3 rfl) ?_
      refine lv_iconst (v := (2 : Int32)) hx hb dL_law_1463 (by decide) ?_
      refine lv_iadd hx hb dL_law_1464 ?_
      refine va_sld hx hb hX hbl hbA hS (zl_in h3 hL (by decide)) dL_law_1465 ?_
      refine lv_aload_n hx hb dL_law_1466 rfl (lv_at hl 0 rfl) ?_
      refine lv_iload_n hx hb dL_law_1467 rfl (lv_at hl 3 rfl) ?_
      refine lv_iconst (v := (3 : Int32)) hx hb dL_law_1468 (by decide) ?_
      refine lv_iadd hx hb dL_law_1469 ?_
      refine va_sld hx hb hX hbl hbA hS (zl_in h3 hL (by decide)) dL_law_1470 ?_
      refine lv_aload_n hx hb dL_law_1471 rfl (lv_at hl 0 rfl) ?_
      refine lv_iload_n hx hb dL_law_1472 rfl (lv_at hl 3 rfl) ?_
      refine lv_iconst (v := (4 : Int32)) hx hb dL_law_1473 (by decide) ?_
      refine lv_iadd hx hb dL_law_1474 ?_
      refine va_sld hx hb hX hbl hbA hS (zl_in h3 hL (by decide)) dL_law_1475 ?_
      refine lv_aload_n hx hb dL_law_1476 rfl (lv_at hl 0 rfl) ?_
      refine lv_iload_n hx hb dL_law_1477 rfl (lv_at hl 3 rfl) ?_
      refine lv_iconst (v := (5 : Int32)) hx hb dL_law_1478 (by decide) ?_
      refine lv_iadd hx hb dL_law_1479 ?_
      refine va_sld hx hb hX hbl hbA hS (zl_in h3 hL (by decide)) dL_law_1480 ?_
      obtain ⟨R2, hf2, hJ2, hM2⟩ := K_X12_shift l D cs k H.size am w hJ (xs (x3 + (1 : Int32)).toNatClampNeg) (xs (x3 + (2 : Int32)).toNatClampNeg) (xs (x3 + (3 : Int32)).toNatClampNeg) (xs (x3 + (4 : Int32)).toNatClampNeg) (xs (x3 + (5 : Int32)).toNatClampNeg)
      have hf3 := hf2
      rw [← (rl_0 hr :), ← (rl_5 hr :), ← (rl_6 hr :), ← (rl_7 hr :), ← (rl_12 hr :), ← (rl_15 hr :), ← (rl_17 hr :)] at hf3
      obtain ⟨EQ, E1, E2⟩ := pw_shiftB hp0 hp1 (rl_23 hr :) (rl_26 hr :) hf1 hf3
      have EQ2 : RL (z.1, z.2.1, (fun n => zc n 5 R1.2 (z.2.2.1 n)), z.2.2.2.1, z.2.2.2.2.1, z.2.2.2.2.2.1, z.2.2.2.2.2.2.1, z.2.2.2.2.2.2.2) (w.1, w.2.1, (fun n => zc n 0 R2.2.1 (zc n 1 R2.2.2 (w.2.2 n)))) := ⟨(rl_0 hr :), (rl_1 hr :), (rl_2 hr :), (rl_3 hr :), (rl_4 hr :), (rl_5 hr :), (rl_6 hr :), (rl_7 hr :), (rl_8 hr :), (rl_9 hr :), (rl_10 hr :), (rl_11 hr :), (rl_12 hr :), (rl_13 hr :), (rl_14 hr :), (rl_15 hr :), (rl_16 hr :), (rl_17 hr :), (rl_18 hr :), (rl_19 hr :), (rl_20 hr :), (rl_21 hr :), (rl_22 hr :), (PLR_fr (rl_23 hr :) (Int.le_refl _) rfl rfl (fun k k1 k2 => E2 k (by omega))), (PLR_fr (rl_24 hr :) (Int.le_refl _) rfl rfl (fun k k1 k2 => E2 k (by omega))), (PLR_fr (rl_25 hr :) (Int.le_refl _) rfl rfl (fun k k1 k2 => E2 k (by omega))), E1, (PLR_fr (rl_27 hr :) (Int.le_refl _) rfl rfl (fun k k1 k2 => E2 k (by omega))), (PLR_fr (rl_28 hr :) (Int.le_refl _) rfl rfl (fun k k1 k2 => E2 k (by omega))), (rl_29 hr :), (rl_30 hr :), (rl_31 hr :), (rl_32 hr :), (rl_33 hr :)⟩
      refine zk_LMi (As := [.int (xs (x3 + (1 : Int32)).toNatClampNeg), .int (xs (x3 + (2 : Int32)).toNatClampNeg), .int (xs (x3 + (3 : Int32)).toNatClampNeg), .int (xs (x3 + (4 : Int32)).toNatClampNeg), .int (xs (x3 + (5 : Int32)).toNatClampNeg)]) (rest := []) hE hO hM2 ⟨hx, hb, hml, hown, ht⟩ (cwV 5 ht gl_166 rfl rfl rfl (by decide +kernel) ⟨Nat.le_of_ble_eq_true rfl, Nat.le_of_ble_eq_true rfl⟩) (va_recv hK hP (ci := 12) (q0 := 0) rfl rfl) hP hD hS hK hA rfl hl.1 (Nat.le_of_ble_eq_true rfl) dL_law_1481 ⟨by show _ ≤ 600000; omega, by show _ ≤ 7302250; omega⟩ (fun H locs hP hD hS => ?_)
      refine lv_pop hx hb dL_law_1484 rfl ?_
      refine lv_goto (tgt := 1544) hx hb dL_law_1485 (by decide) ?_
      exact kk _ _ H locs ls _ _ hI2 hJ2 EQ2 (by omega) (by omega) hP hD hS (lv_sub hl [0, 1, 2, 3] rfl)
    · refine lv_aload_n hx hb dL_law_1425 rfl (lv_at hl 1 rfl) ?_
      refine lv_aload_n hx hb dL_law_1426 rfl (lv_at hl 0 rfl) ?_
      refine lv_iload_n hx hb dL_law_1427 rfl (lv_at hl 3 rfl) ?_
      refine lv_iconst (v := (1 : Int32)) hx hb dL_law_1428 (by decide) ?_
      refine lv_iadd hx hb dL_law_1429 ?_
      refine va_sld hx hb hX hbl hbA hS (zl_in h3 hL (by decide)) dL_law_1430 ?_
      refine lv_aload_n hx hb dL_law_1431 rfl (lv_at hl 0 rfl) ?_
      refine lv_iload_n hx hb dL_law_1432 rfl (lv_at hl 3 rfl) ?_
      refine lv_iconst (v := (2 : Int32)) hx hb dL_law_1433 (by decide) ?_
      refine lv_iadd hx hb dL_law_1434 ?_
      refine va_sld hx hb hX hbl hbA hS (zl_in h3 hL (by decide)) dL_law_1435 ?_
      refine lv_aload_n hx hb dL_law_1436 rfl (lv_at hl 0 rfl) ?_
      refine lv_iload_n hx hb dL_law_1437 rfl (lv_at hl 3 rfl) ?_
      refine lv_iconst (v := (3 : Int32)) hx hb dL_law_1438 (by decide) ?_
      refine lv_iadd hx hb dL_law_1439 ?_
      refine va_sld hx hb hX hbl hbA hS (zl_in h3 hL (by decide)) dL_law_1440 ?_
      refine lv_aload_n hx hb dL_law_1441 rfl (lv_at hl 0 rfl) ?_
      refine lv_iload_n hx hb dL_law_1442 rfl (lv_at hl 3 rfl) ?_
      refine lv_iconst (v := (4 : Int32)) hx hb dL_law_1443 (by decide) ?_
      refine lv_iadd hx hb dL_law_1444 ?_
      refine va_sld hx hb hX hbl hbA hS (zl_in h3 hL (by decide)) dL_law_1445 ?_
      refine lv_aload_n hx hb dL_law_1446 rfl (lv_at hl 0 rfl) ?_
      refine lv_iload_n hx hb dL_law_1447 rfl (lv_at hl 3 rfl) ?_
      refine lv_iconst (v := (5 : Int32)) hx hb dL_law_1448 (by decide) ?_
      refine lv_iadd hx hb dL_law_1449 ?_
      refine va_sld hx hb hX hbl hbA hS (zl_in h3 hL (by decide)) dL_law_1450 ?_
      obtain ⟨R1, hf1, hI2, hM1⟩ := K_X11_shift_0_4 l D cs k H.size ad z hI (xs (x3 + (1 : Int32)).toNatClampNeg) (xs (x3 + (2 : Int32)).toNatClampNeg) (xs (x3 + (3 : Int32)).toNatClampNeg) (xs (x3 + (4 : Int32)).toNatClampNeg) (xs (x3 + (5 : Int32)).toNatClampNeg) hp0 hp1
      refine zk_LXi (As := [.int (xs (x3 + (1 : Int32)).toNatClampNeg), .int (xs (x3 + (2 : Int32)).toNatClampNeg), .int (xs (x3 + (3 : Int32)).toNatClampNeg), .int (xs (x3 + (4 : Int32)).toNatClampNeg), .int (xs (x3 + (5 : Int32)).toNatClampNeg)]) (rest := []) hE hO hM1 ⟨hx, hb, hml, hown, ht⟩ (cwV 5 ht gl_162 rfl rfl rfl (by decide +kernel) ⟨Nat.le_of_ble_eq_true rfl, Nat.le_of_ble_eq_true rfl⟩) (va_recv hK hP (ci := 11) (q0 := 44) rfl rfl) hP hD hS hK hA rfl hl.1 (Nat.le_of_ble_eq_true rfl) dL_law_1451 ⟨by show _ ≤ 600000; omega, by show _ ≤ 7302250; omega⟩ (fun H locs hP hD hS => ?_)
      refine lv_pop hx hb dL_law_1454 rfl ?_
      refine lv_aload_n hx hb dL_law_1455 rfl (lv_at hl 2 rfl) ?_
      refine lv_aload_n hx hb dL_law_1456 rfl (lv_at hl 0 rfl) ?_
      refine lv_iload_n hx hb dL_law_1457 rfl (lv_at hl 3 rfl) ?_
      refine lv_iconst (v := (1 : Int32)) hx hb dL_law_1458 (by decide) ?_
      refine lv_iadd hx hb dL_law_1459 ?_
      refine va_sld hx hb hX hbl hbA hS (zl_in h3 hL (by decide)) dL_law_1460 ?_
      refine lv_aload_n hx hb dL_law_1461 rfl (lv_at hl 0 rfl) ?_
      refine lv_iload_n hx hb dL_law_1462 rfl (lv_at hl 3 rfl) ?_
      refine lv_iconst (v := (2 : Int32)) hx hb dL_law_1463 (by decide) ?_
      refine lv_iadd hx hb dL_law_1464 ?_
      refine va_sld hx hb hX hbl hbA hS (zl_in h3 hL (by decide)) dL_law_1465 ?_
      refine lv_aload_n hx hb dL_law_1466 rfl (lv_at hl 0 rfl) ?_
      refine lv_iload_n hx hb dL_law_1467 rfl (lv_at hl 3 rfl) ?_
      refine lv_iconst (v := (3 : Int32)) hx hb dL_law_1468 (by decide) ?_
      refine lv_iadd hx hb dL_law_1469 ?_
      refine va_sld hx hb hX hbl hbA hS (zl_in h3 hL (by decide)) dL_law_1470 ?_
      refine lv_aload_n hx hb dL_law_1471 rfl (lv_at hl 0 rfl) ?_
      refine lv_iload_n hx hb dL_law_1472 rfl (lv_at hl 3 rfl) ?_
      refine lv_iconst (v := (4 : Int32)) hx hb dL_law_1473 (by decide) ?_
      refine lv_iadd hx hb dL_law_1474 ?_
      refine va_sld hx hb hX hbl hbA hS (zl_in h3 hL (by decide)) dL_law_1475 ?_
      refine lv_aload_n hx hb dL_law_1476 rfl (lv_at hl 0 rfl) ?_
      refine lv_iload_n hx hb dL_law_1477 rfl (lv_at hl 3 rfl) ?_
      refine lv_iconst (v := (5 : Int32)) hx hb dL_law_1478 (by decide) ?_
      refine lv_iadd hx hb dL_law_1479 ?_
      refine va_sld hx hb hX hbl hbA hS (zl_in h3 hL (by decide)) dL_law_1480 ?_
      obtain ⟨R2, hf2, hJ2, hM2⟩ := K_X12_shift l D cs k H.size am w hJ (xs (x3 + (1 : Int32)).toNatClampNeg) (xs (x3 + (2 : Int32)).toNatClampNeg) (xs (x3 + (3 : Int32)).toNatClampNeg) (xs (x3 + (4 : Int32)).toNatClampNeg) (xs (x3 + (5 : Int32)).toNatClampNeg)
      have hf3 := hf2
      rw [← (rl_0 hr :), ← (rl_5 hr :), ← (rl_6 hr :), ← (rl_7 hr :), ← (rl_12 hr :), ← (rl_15 hr :), ← (rl_17 hr :)] at hf3
      obtain ⟨EQ, E1, E2⟩ := pw_shiftB hp0 hp1 (rl_23 hr :) (rl_27 hr :) hf1 hf3
      have EQ2 : RL (z.1, z.2.1, (fun n => zc n 6 R1.2 (z.2.2.1 n)), z.2.2.2.1, z.2.2.2.2.1, z.2.2.2.2.2.1, z.2.2.2.2.2.2.1, z.2.2.2.2.2.2.2) (w.1, w.2.1, (fun n => zc n 0 R2.2.1 (zc n 1 R2.2.2 (w.2.2 n)))) := ⟨(rl_0 hr :), (rl_1 hr :), (rl_2 hr :), (rl_3 hr :), (rl_4 hr :), (rl_5 hr :), (rl_6 hr :), (rl_7 hr :), (rl_8 hr :), (rl_9 hr :), (rl_10 hr :), (rl_11 hr :), (rl_12 hr :), (rl_13 hr :), (rl_14 hr :), (rl_15 hr :), (rl_16 hr :), (rl_17 hr :), (rl_18 hr :), (rl_19 hr :), (rl_20 hr :), (rl_21 hr :), (rl_22 hr :), (PLR_fr (rl_23 hr :) (Int.le_refl _) rfl rfl (fun k k1 k2 => E2 k (by omega))), (PLR_fr (rl_24 hr :) (Int.le_refl _) rfl rfl (fun k k1 k2 => E2 k (by omega))), (PLR_fr (rl_25 hr :) (Int.le_refl _) rfl rfl (fun k k1 k2 => E2 k (by omega))), (PLR_fr (rl_26 hr :) (Int.le_refl _) rfl rfl (fun k k1 k2 => E2 k (by omega))), E1, (PLR_fr (rl_28 hr :) (Int.le_refl _) rfl rfl (fun k k1 k2 => E2 k (by omega))), (rl_29 hr :), (rl_30 hr :), (rl_31 hr :), (rl_32 hr :), (rl_33 hr :)⟩
      refine zk_LMi (As := [.int (xs (x3 + (1 : Int32)).toNatClampNeg), .int (xs (x3 + (2 : Int32)).toNatClampNeg), .int (xs (x3 + (3 : Int32)).toNatClampNeg), .int (xs (x3 + (4 : Int32)).toNatClampNeg), .int (xs (x3 + (5 : Int32)).toNatClampNeg)]) (rest := []) hE hO hM2 ⟨hx, hb, hml, hown, ht⟩ (cwV 5 ht gl_166 rfl rfl rfl (by decide +kernel) ⟨Nat.le_of_ble_eq_true rfl, Nat.le_of_ble_eq_true rfl⟩) (va_recv hK hP (ci := 12) (q0 := 0) rfl rfl) hP hD hS hK hA rfl hl.1 (Nat.le_of_ble_eq_true rfl) dL_law_1481 ⟨by show _ ≤ 600000; omega, by show _ ≤ 7302250; omega⟩ (fun H locs hP hD hS => ?_)
      refine lv_pop hx hb dL_law_1484 rfl ?_
      refine lv_goto (tgt := 1544) hx hb dL_law_1485 (by decide) ?_
      exact kk _ _ H locs ls _ _ hI2 hJ2 EQ2 (by omega) (by omega) hP hD hS (lv_sub hl [0, 1, 2, 3] rfl)
    · refine lv_aload_n hx hb dL_law_1425 rfl (lv_at hl 1 rfl) ?_
      refine lv_aload_n hx hb dL_law_1426 rfl (lv_at hl 0 rfl) ?_
      refine lv_iload_n hx hb dL_law_1427 rfl (lv_at hl 3 rfl) ?_
      refine lv_iconst (v := (1 : Int32)) hx hb dL_law_1428 (by decide) ?_
      refine lv_iadd hx hb dL_law_1429 ?_
      refine va_sld hx hb hX hbl hbA hS (zl_in h3 hL (by decide)) dL_law_1430 ?_
      refine lv_aload_n hx hb dL_law_1431 rfl (lv_at hl 0 rfl) ?_
      refine lv_iload_n hx hb dL_law_1432 rfl (lv_at hl 3 rfl) ?_
      refine lv_iconst (v := (2 : Int32)) hx hb dL_law_1433 (by decide) ?_
      refine lv_iadd hx hb dL_law_1434 ?_
      refine va_sld hx hb hX hbl hbA hS (zl_in h3 hL (by decide)) dL_law_1435 ?_
      refine lv_aload_n hx hb dL_law_1436 rfl (lv_at hl 0 rfl) ?_
      refine lv_iload_n hx hb dL_law_1437 rfl (lv_at hl 3 rfl) ?_
      refine lv_iconst (v := (3 : Int32)) hx hb dL_law_1438 (by decide) ?_
      refine lv_iadd hx hb dL_law_1439 ?_
      refine va_sld hx hb hX hbl hbA hS (zl_in h3 hL (by decide)) dL_law_1440 ?_
      refine lv_aload_n hx hb dL_law_1441 rfl (lv_at hl 0 rfl) ?_
      refine lv_iload_n hx hb dL_law_1442 rfl (lv_at hl 3 rfl) ?_
      refine lv_iconst (v := (4 : Int32)) hx hb dL_law_1443 (by decide) ?_
      refine lv_iadd hx hb dL_law_1444 ?_
      refine va_sld hx hb hX hbl hbA hS (zl_in h3 hL (by decide)) dL_law_1445 ?_
      refine lv_aload_n hx hb dL_law_1446 rfl (lv_at hl 0 rfl) ?_
      refine lv_iload_n hx hb dL_law_1447 rfl (lv_at hl 3 rfl) ?_
      refine lv_iconst (v := (5 : Int32)) hx hb dL_law_1448 (by decide) ?_
      refine lv_iadd hx hb dL_law_1449 ?_
      refine va_sld hx hb hX hbl hbA hS (zl_in h3 hL (by decide)) dL_law_1450 ?_
      obtain ⟨R1, hf1, hI2, hM1⟩ := K_X11_shift_0_5 l D cs k H.size ad z hI (xs (x3 + (1 : Int32)).toNatClampNeg) (xs (x3 + (2 : Int32)).toNatClampNeg) (xs (x3 + (3 : Int32)).toNatClampNeg) (xs (x3 + (4 : Int32)).toNatClampNeg) (xs (x3 + (5 : Int32)).toNatClampNeg) hp0 hp1
      refine zk_LXi (As := [.int (xs (x3 + (1 : Int32)).toNatClampNeg), .int (xs (x3 + (2 : Int32)).toNatClampNeg), .int (xs (x3 + (3 : Int32)).toNatClampNeg), .int (xs (x3 + (4 : Int32)).toNatClampNeg), .int (xs (x3 + (5 : Int32)).toNatClampNeg)]) (rest := []) hE hO hM1 ⟨hx, hb, hml, hown, ht⟩ (cwV 5 ht gl_162 rfl rfl rfl (by decide +kernel) ⟨Nat.le_of_ble_eq_true rfl, Nat.le_of_ble_eq_true rfl⟩) (va_recv hK hP (ci := 11) (q0 := 44) rfl rfl) hP hD hS hK hA rfl hl.1 (Nat.le_of_ble_eq_true rfl) dL_law_1451 ⟨by show _ ≤ 600000; omega, by show _ ≤ 7302250; omega⟩ (fun H locs hP hD hS => ?_)
      refine lv_pop hx hb dL_law_1454 rfl ?_
      refine lv_aload_n hx hb dL_law_1455 rfl (lv_at hl 2 rfl) ?_
      refine lv_aload_n hx hb dL_law_1456 rfl (lv_at hl 0 rfl) ?_
      refine lv_iload_n hx hb dL_law_1457 rfl (lv_at hl 3 rfl) ?_
      refine lv_iconst (v := (1 : Int32)) hx hb dL_law_1458 (by decide) ?_
      refine lv_iadd hx hb dL_law_1459 ?_
      refine va_sld hx hb hX hbl hbA hS (zl_in h3 hL (by decide)) dL_law_1460 ?_
      refine lv_aload_n hx hb dL_law_1461 rfl (lv_at hl 0 rfl) ?_
      refine lv_iload_n hx hb dL_law_1462 rfl (lv_at hl 3 rfl) ?_
      refine lv_iconst (v := (2 : Int32)) hx hb dL_law_1463 (by decide) ?_
      refine lv_iadd hx hb dL_law_1464 ?_
      refine va_sld hx hb hX hbl hbA hS (zl_in h3 hL (by decide)) dL_law_1465 ?_
      refine lv_aload_n hx hb dL_law_1466 rfl (lv_at hl 0 rfl) ?_
      refine lv_iload_n hx hb dL_law_1467 rfl (lv_at hl 3 rfl) ?_
      refine lv_iconst (v := (3 : Int32)) hx hb dL_law_1468 (by decide) ?_
      refine lv_iadd hx hb dL_law_1469 ?_
      refine va_sld hx hb hX hbl hbA hS (zl_in h3 hL (by decide)) dL_law_1470 ?_
      refine lv_aload_n hx hb dL_law_1471 rfl (lv_at hl 0 rfl) ?_
      refine lv_iload_n hx hb dL_law_1472 rfl (lv_at hl 3 rfl) ?_
      refine lv_iconst (v := (4 : Int32)) hx hb dL_law_1473 (by decide) ?_
      refine lv_iadd hx hb dL_law_1474 ?_
      refine va_sld hx hb hX hbl hbA hS (zl_in h3 hL (by decide)) dL_law_1475 ?_
      refine lv_aload_n hx hb dL_law_1476 rfl (lv_at hl 0 rfl) ?_
      refine lv_iload_n hx hb dL_law_1477 rfl (lv_at hl 3 rfl) ?_
      refine lv_iconst (v := (5 : Int32)) hx hb dL_law_1478 (by decide) ?_
      refine lv_iadd hx hb dL_law_1479 ?_
      refine va_sld hx hb hX hbl hbA hS (zl_in h3 hL (by decide)) dL_law_1480 ?_
      obtain ⟨R2, hf2, hJ2, hM2⟩ := K_X12_shift l D cs k H.size am w hJ (xs (x3 + (1 : Int32)).toNatClampNeg) (xs (x3 + (2 : Int32)).toNatClampNeg) (xs (x3 + (3 : Int32)).toNatClampNeg) (xs (x3 + (4 : Int32)).toNatClampNeg) (xs (x3 + (5 : Int32)).toNatClampNeg)
      have hf3 := hf2
      rw [← (rl_0 hr :), ← (rl_5 hr :), ← (rl_6 hr :), ← (rl_7 hr :), ← (rl_12 hr :), ← (rl_15 hr :), ← (rl_17 hr :)] at hf3
      obtain ⟨EQ, E1, E2⟩ := pw_shiftB hp0 hp1 (rl_23 hr :) (rl_28 hr :) hf1 hf3
      have EQ2 : RL (z.1, z.2.1, (fun n => zc n 7 R1.2 (z.2.2.1 n)), z.2.2.2.1, z.2.2.2.2.1, z.2.2.2.2.2.1, z.2.2.2.2.2.2.1, z.2.2.2.2.2.2.2) (w.1, w.2.1, (fun n => zc n 0 R2.2.1 (zc n 1 R2.2.2 (w.2.2 n)))) := ⟨(rl_0 hr :), (rl_1 hr :), (rl_2 hr :), (rl_3 hr :), (rl_4 hr :), (rl_5 hr :), (rl_6 hr :), (rl_7 hr :), (rl_8 hr :), (rl_9 hr :), (rl_10 hr :), (rl_11 hr :), (rl_12 hr :), (rl_13 hr :), (rl_14 hr :), (rl_15 hr :), (rl_16 hr :), (rl_17 hr :), (rl_18 hr :), (rl_19 hr :), (rl_20 hr :), (rl_21 hr :), (rl_22 hr :), (PLR_fr (rl_23 hr :) (Int.le_refl _) rfl rfl (fun k k1 k2 => E2 k (by omega))), (PLR_fr (rl_24 hr :) (Int.le_refl _) rfl rfl (fun k k1 k2 => E2 k (by omega))), (PLR_fr (rl_25 hr :) (Int.le_refl _) rfl rfl (fun k k1 k2 => E2 k (by omega))), (PLR_fr (rl_26 hr :) (Int.le_refl _) rfl rfl (fun k k1 k2 => E2 k (by omega))), (PLR_fr (rl_27 hr :) (Int.le_refl _) rfl rfl (fun k k1 k2 => E2 k (by omega))), E1, (rl_29 hr :), (rl_30 hr :), (rl_31 hr :), (rl_32 hr :), (rl_33 hr :)⟩
      refine zk_LMi (As := [.int (xs (x3 + (1 : Int32)).toNatClampNeg), .int (xs (x3 + (2 : Int32)).toNatClampNeg), .int (xs (x3 + (3 : Int32)).toNatClampNeg), .int (xs (x3 + (4 : Int32)).toNatClampNeg), .int (xs (x3 + (5 : Int32)).toNatClampNeg)]) (rest := []) hE hO hM2 ⟨hx, hb, hml, hown, ht⟩ (cwV 5 ht gl_166 rfl rfl rfl (by decide +kernel) ⟨Nat.le_of_ble_eq_true rfl, Nat.le_of_ble_eq_true rfl⟩) (va_recv hK hP (ci := 12) (q0 := 0) rfl rfl) hP hD hS hK hA rfl hl.1 (Nat.le_of_ble_eq_true rfl) dL_law_1481 ⟨by show _ ≤ 600000; omega, by show _ ≤ 7302250; omega⟩ (fun H locs hP hD hS => ?_)
      refine lv_pop hx hb dL_law_1484 rfl ?_
      refine lv_goto (tgt := 1544) hx hb dL_law_1485 (by decide) ?_
      exact kk _ _ H locs ls _ _ hI2 hJ2 EQ2 (by omega) (by omega) hP hD hS (lv_sub hl [0, 1, 2, 3] rfl)
  · obtain ⟨j1, hj1, hp1⟩ := zk_pl (xs (x3 + (3 : Int32)).toNatClampNeg)
    rcases (show j1 = 0 ∨ j1 = 1 ∨ j1 = 2 ∨ j1 = 3 ∨ j1 = 4 ∨ j1 = 5 by omega) with rfl | rfl | rfl | rfl | rfl | rfl
    · refine lv_aload_n hx hb dL_law_1425 rfl (lv_at hl 1 rfl) ?_
      refine lv_aload_n hx hb dL_law_1426 rfl (lv_at hl 0 rfl) ?_
      refine lv_iload_n hx hb dL_law_1427 rfl (lv_at hl 3 rfl) ?_
      refine lv_iconst (v := (1 : Int32)) hx hb dL_law_1428 (by decide) ?_
      refine lv_iadd hx hb dL_law_1429 ?_
      refine va_sld hx hb hX hbl hbA hS (zl_in h3 hL (by decide)) dL_law_1430 ?_
      refine lv_aload_n hx hb dL_law_1431 rfl (lv_at hl 0 rfl) ?_
      refine lv_iload_n hx hb dL_law_1432 rfl (lv_at hl 3 rfl) ?_
      refine lv_iconst (v := (2 : Int32)) hx hb dL_law_1433 (by decide) ?_
      refine lv_iadd hx hb dL_law_1434 ?_
      refine va_sld hx hb hX hbl hbA hS (zl_in h3 hL (by decide)) dL_law_1435 ?_
      refine lv_aload_n hx hb dL_law_1436 rfl (lv_at hl 0 rfl) ?_
      refine lv_iload_n hx hb dL_law_1437 rfl (lv_at hl 3 rfl) ?_
      refine lv_iconst (v := (3 : Int32)) hx hb dL_law_1438 (by decide) ?_
      refine lv_iadd hx hb dL_law_1439 ?_
      refine va_sld hx hb hX hbl hbA hS (zl_in h3 hL (by decide)) dL_law_1440 ?_
      refine lv_aload_n hx hb dL_law_1441 rfl (lv_at hl 0 rfl) ?_
      refine lv_iload_n hx hb dL_law_1442 rfl (lv_at hl 3 rfl) ?_
      refine lv_iconst (v := (4 : Int32)) hx hb dL_law_1443 (by decide) ?_
      refine lv_iadd hx hb dL_law_1444 ?_
      refine va_sld hx hb hX hbl hbA hS (zl_in h3 hL (by decide)) dL_law_1445 ?_
      refine lv_aload_n hx hb dL_law_1446 rfl (lv_at hl 0 rfl) ?_
      refine lv_iload_n hx hb dL_law_1447 rfl (lv_at hl 3 rfl) ?_
      refine lv_iconst (v := (5 : Int32)) hx hb dL_law_1448 (by decide) ?_
      refine lv_iadd hx hb dL_law_1449 ?_
      refine va_sld hx hb hX hbl hbA hS (zl_in h3 hL (by decide)) dL_law_1450 ?_
      obtain ⟨R1, hf1, hI2, hM1⟩ := K_X11_shift_1_0 l D cs k H.size ad z hI (xs (x3 + (1 : Int32)).toNatClampNeg) (xs (x3 + (2 : Int32)).toNatClampNeg) (xs (x3 + (3 : Int32)).toNatClampNeg) (xs (x3 + (4 : Int32)).toNatClampNeg) (xs (x3 + (5 : Int32)).toNatClampNeg) hp0 hp1
      refine zk_LXi (As := [.int (xs (x3 + (1 : Int32)).toNatClampNeg), .int (xs (x3 + (2 : Int32)).toNatClampNeg), .int (xs (x3 + (3 : Int32)).toNatClampNeg), .int (xs (x3 + (4 : Int32)).toNatClampNeg), .int (xs (x3 + (5 : Int32)).toNatClampNeg)]) (rest := []) hE hO hM1 ⟨hx, hb, hml, hown, ht⟩ (cwV 5 ht gl_162 rfl rfl rfl (by decide +kernel) ⟨Nat.le_of_ble_eq_true rfl, Nat.le_of_ble_eq_true rfl⟩) (va_recv hK hP (ci := 11) (q0 := 44) rfl rfl) hP hD hS hK hA rfl hl.1 (Nat.le_of_ble_eq_true rfl) dL_law_1451 ⟨by show _ ≤ 600000; omega, by show _ ≤ 7302250; omega⟩ (fun H locs hP hD hS => ?_)
      refine lv_pop hx hb dL_law_1454 rfl ?_
      refine lv_aload_n hx hb dL_law_1455 rfl (lv_at hl 2 rfl) ?_
      refine lv_aload_n hx hb dL_law_1456 rfl (lv_at hl 0 rfl) ?_
      refine lv_iload_n hx hb dL_law_1457 rfl (lv_at hl 3 rfl) ?_
      refine lv_iconst (v := (1 : Int32)) hx hb dL_law_1458 (by decide) ?_
      refine lv_iadd hx hb dL_law_1459 ?_
      refine va_sld hx hb hX hbl hbA hS (zl_in h3 hL (by decide)) dL_law_1460 ?_
      refine lv_aload_n hx hb dL_law_1461 rfl (lv_at hl 0 rfl) ?_
      refine lv_iload_n hx hb dL_law_1462 rfl (lv_at hl 3 rfl) ?_
      refine lv_iconst (v := (2 : Int32)) hx hb dL_law_1463 (by decide) ?_
      refine lv_iadd hx hb dL_law_1464 ?_
      refine va_sld hx hb hX hbl hbA hS (zl_in h3 hL (by decide)) dL_law_1465 ?_
      refine lv_aload_n hx hb dL_law_1466 rfl (lv_at hl 0 rfl) ?_
      refine lv_iload_n hx hb dL_law_1467 rfl (lv_at hl 3 rfl) ?_
      refine lv_iconst (v := (3 : Int32)) hx hb dL_law_1468 (by decide) ?_
      refine lv_iadd hx hb dL_law_1469 ?_
      refine va_sld hx hb hX hbl hbA hS (zl_in h3 hL (by decide)) dL_law_1470 ?_
      refine lv_aload_n hx hb dL_law_1471 rfl (lv_at hl 0 rfl) ?_
      refine lv_iload_n hx hb dL_law_1472 rfl (lv_at hl 3 rfl) ?_
      refine lv_iconst (v := (4 : Int32)) hx hb dL_law_1473 (by decide) ?_
      refine lv_iadd hx hb dL_law_1474 ?_
      refine va_sld hx hb hX hbl hbA hS (zl_in h3 hL (by decide)) dL_law_1475 ?_
      refine lv_aload_n hx hb dL_law_1476 rfl (lv_at hl 0 rfl) ?_
      refine lv_iload_n hx hb dL_law_1477 rfl (lv_at hl 3 rfl) ?_
      refine lv_iconst (v := (5 : Int32)) hx hb dL_law_1478 (by decide) ?_
      refine lv_iadd hx hb dL_law_1479 ?_
      refine va_sld hx hb hX hbl hbA hS (zl_in h3 hL (by decide)) dL_law_1480 ?_
      obtain ⟨R2, hf2, hJ2, hM2⟩ := K_X12_shift l D cs k H.size am w hJ (xs (x3 + (1 : Int32)).toNatClampNeg) (xs (x3 + (2 : Int32)).toNatClampNeg) (xs (x3 + (3 : Int32)).toNatClampNeg) (xs (x3 + (4 : Int32)).toNatClampNeg) (xs (x3 + (5 : Int32)).toNatClampNeg)
      have hf3 := hf2
      rw [← (rl_0 hr :), ← (rl_5 hr :), ← (rl_6 hr :), ← (rl_7 hr :), ← (rl_12 hr :), ← (rl_15 hr :), ← (rl_17 hr :)] at hf3
      obtain ⟨EQ, E1, E2⟩ := pw_shiftB hp0 hp1 (rl_24 hr :) (rl_23 hr :) hf1 hf3
      have EQ2 : RL (z.1, z.2.1, (fun n => zc n 2 R1.2 (z.2.2.1 n)), z.2.2.2.1, z.2.2.2.2.1, z.2.2.2.2.2.1, z.2.2.2.2.2.2.1, z.2.2.2.2.2.2.2) (w.1, w.2.1, (fun n => zc n 0 R2.2.1 (zc n 1 R2.2.2 (w.2.2 n)))) := ⟨(rl_0 hr :), (rl_1 hr :), (rl_2 hr :), (rl_3 hr :), (rl_4 hr :), (rl_5 hr :), (rl_6 hr :), (rl_7 hr :), (rl_8 hr :), (rl_9 hr :), (rl_10 hr :), (rl_11 hr :), (rl_12 hr :), (rl_13 hr :), (rl_14 hr :), (rl_15 hr :), (rl_16 hr :), (rl_17 hr :), (rl_18 hr :), (rl_19 hr :), (rl_20 hr :), (rl_21 hr :), (rl_22 hr :), E1, (PLR_fr (rl_24 hr :) (Int.le_refl _) rfl rfl (fun k k1 k2 => E2 k (by omega))), (PLR_fr (rl_25 hr :) (Int.le_refl _) rfl rfl (fun k k1 k2 => E2 k (by omega))), (PLR_fr (rl_26 hr :) (Int.le_refl _) rfl rfl (fun k k1 k2 => E2 k (by omega))), (PLR_fr (rl_27 hr :) (Int.le_refl _) rfl rfl (fun k k1 k2 => E2 k (by omega))), (PLR_fr (rl_28 hr :) (Int.le_refl _) rfl rfl (fun k k1 k2 => E2 k (by omega))), (rl_29 hr :), (rl_30 hr :), (rl_31 hr :), (rl_32 hr :), (rl_33 hr :)⟩
      refine zk_LMi (As := [.int (xs (x3 + (1 : Int32)).toNatClampNeg), .int (xs (x3 + (2 : Int32)).toNatClampNeg), .int (xs (x3 + (3 : Int32)).toNatClampNeg), .int (xs (x3 + (4 : Int32)).toNatClampNeg), .int (xs (x3 + (5 : Int32)).toNatClampNeg)]) (rest := []) hE hO hM2 ⟨hx, hb, hml, hown, ht⟩ (cwV 5 ht gl_166 rfl rfl rfl (by decide +kernel) ⟨Nat.le_of_ble_eq_true rfl, Nat.le_of_ble_eq_true rfl⟩) (va_recv hK hP (ci := 12) (q0 := 0) rfl rfl) hP hD hS hK hA rfl hl.1 (Nat.le_of_ble_eq_true rfl) dL_law_1481 ⟨by show _ ≤ 600000; omega, by show _ ≤ 7302250; omega⟩ (fun H locs hP hD hS => ?_)
      refine lv_pop hx hb dL_law_1484 rfl ?_
      refine lv_goto (tgt := 1544) hx hb dL_law_1485 (by decide) ?_
      exact kk _ _ H locs ls _ _ hI2 hJ2 EQ2 (by omega) (by omega) hP hD hS (lv_sub hl [0, 1, 2, 3] rfl)
    · refine lv_aload_n hx hb dL_law_1425 rfl (lv_at hl 1 rfl) ?_
      refine lv_aload_n hx hb dL_law_1426 rfl (lv_at hl 0 rfl) ?_
      refine lv_iload_n hx hb dL_law_1427 rfl (lv_at hl 3 rfl) ?_
      refine lv_iconst (v := (1 : Int32)) hx hb dL_law_1428 (by decide) ?_
      refine lv_iadd hx hb dL_law_1429 ?_
      refine va_sld hx hb hX hbl hbA hS (zl_in h3 hL (by decide)) dL_law_1430 ?_
      refine lv_aload_n hx hb dL_law_1431 rfl (lv_at hl 0 rfl) ?_
      refine lv_iload_n hx hb dL_law_1432 rfl (lv_at hl 3 rfl) ?_
      refine lv_iconst (v := (2 : Int32)) hx hb dL_law_1433 (by decide) ?_
      refine lv_iadd hx hb dL_law_1434 ?_
      refine va_sld hx hb hX hbl hbA hS (zl_in h3 hL (by decide)) dL_law_1435 ?_
      refine lv_aload_n hx hb dL_law_1436 rfl (lv_at hl 0 rfl) ?_
      refine lv_iload_n hx hb dL_law_1437 rfl (lv_at hl 3 rfl) ?_
      refine lv_iconst (v := (3 : Int32)) hx hb dL_law_1438 (by decide) ?_
      refine lv_iadd hx hb dL_law_1439 ?_
      refine va_sld hx hb hX hbl hbA hS (zl_in h3 hL (by decide)) dL_law_1440 ?_
      refine lv_aload_n hx hb dL_law_1441 rfl (lv_at hl 0 rfl) ?_
      refine lv_iload_n hx hb dL_law_1442 rfl (lv_at hl 3 rfl) ?_
      refine lv_iconst (v := (4 : Int32)) hx hb dL_law_1443 (by decide) ?_
      refine lv_iadd hx hb dL_law_1444 ?_
      refine va_sld hx hb hX hbl hbA hS (zl_in h3 hL (by decide)) dL_law_1445 ?_
      refine lv_aload_n hx hb dL_law_1446 rfl (lv_at hl 0 rfl) ?_
      refine lv_iload_n hx hb dL_law_1447 rfl (lv_at hl 3 rfl) ?_
      refine lv_iconst (v := (5 : Int32)) hx hb dL_law_1448 (by decide) ?_
      refine lv_iadd hx hb dL_law_1449 ?_
      refine va_sld hx hb hX hbl hbA hS (zl_in h3 hL (by decide)) dL_law_1450 ?_
      obtain ⟨R1, hf1, hI2, hM1⟩ := K_X11_shift_1A l D cs k H.size ad z hI (xs (x3 + (1 : Int32)).toNatClampNeg) (xs (x3 + (2 : Int32)).toNatClampNeg) (xs (x3 + (3 : Int32)).toNatClampNeg) (xs (x3 + (4 : Int32)).toNatClampNeg) (xs (x3 + (5 : Int32)).toNatClampNeg) hp0 hp1
      refine zk_LXi (As := [.int (xs (x3 + (1 : Int32)).toNatClampNeg), .int (xs (x3 + (2 : Int32)).toNatClampNeg), .int (xs (x3 + (3 : Int32)).toNatClampNeg), .int (xs (x3 + (4 : Int32)).toNatClampNeg), .int (xs (x3 + (5 : Int32)).toNatClampNeg)]) (rest := []) hE hO hM1 ⟨hx, hb, hml, hown, ht⟩ (cwV 5 ht gl_162 rfl rfl rfl (by decide +kernel) ⟨Nat.le_of_ble_eq_true rfl, Nat.le_of_ble_eq_true rfl⟩) (va_recv hK hP (ci := 11) (q0 := 44) rfl rfl) hP hD hS hK hA rfl hl.1 (Nat.le_of_ble_eq_true rfl) dL_law_1451 ⟨by show _ ≤ 600000; omega, by show _ ≤ 7302250; omega⟩ (fun H locs hP hD hS => ?_)
      refine lv_pop hx hb dL_law_1454 rfl ?_
      refine lv_aload_n hx hb dL_law_1455 rfl (lv_at hl 2 rfl) ?_
      refine lv_aload_n hx hb dL_law_1456 rfl (lv_at hl 0 rfl) ?_
      refine lv_iload_n hx hb dL_law_1457 rfl (lv_at hl 3 rfl) ?_
      refine lv_iconst (v := (1 : Int32)) hx hb dL_law_1458 (by decide) ?_
      refine lv_iadd hx hb dL_law_1459 ?_
      refine va_sld hx hb hX hbl hbA hS (zl_in h3 hL (by decide)) dL_law_1460 ?_
      refine lv_aload_n hx hb dL_law_1461 rfl (lv_at hl 0 rfl) ?_
      refine lv_iload_n hx hb dL_law_1462 rfl (lv_at hl 3 rfl) ?_
      refine lv_iconst (v := (2 : Int32)) hx hb dL_law_1463 (by decide) ?_
      refine lv_iadd hx hb dL_law_1464 ?_
      refine va_sld hx hb hX hbl hbA hS (zl_in h3 hL (by decide)) dL_law_1465 ?_
      refine lv_aload_n hx hb dL_law_1466 rfl (lv_at hl 0 rfl) ?_
      refine lv_iload_n hx hb dL_law_1467 rfl (lv_at hl 3 rfl) ?_
      refine lv_iconst (v := (3 : Int32)) hx hb dL_law_1468 (by decide) ?_
      refine lv_iadd hx hb dL_law_1469 ?_
      refine va_sld hx hb hX hbl hbA hS (zl_in h3 hL (by decide)) dL_law_1470 ?_
      refine lv_aload_n hx hb dL_law_1471 rfl (lv_at hl 0 rfl) ?_
      refine lv_iload_n hx hb dL_law_1472 rfl (lv_at hl 3 rfl) ?_
      refine lv_iconst (v := (4 : Int32)) hx hb dL_law_1473 (by decide) ?_
      refine lv_iadd hx hb dL_law_1474 ?_
      refine va_sld hx hb hX hbl hbA hS (zl_in h3 hL (by decide)) dL_law_1475 ?_
      refine lv_aload_n hx hb dL_law_1476 rfl (lv_at hl 0 rfl) ?_
      refine lv_iload_n hx hb dL_law_1477 rfl (lv_at hl 3 rfl) ?_
      refine lv_iconst (v := (5 : Int32)) hx hb dL_law_1478 (by decide) ?_
      refine lv_iadd hx hb dL_law_1479 ?_
      refine va_sld hx hb hX hbl hbA hS (zl_in h3 hL (by decide)) dL_law_1480 ?_
      obtain ⟨R2, hf2, hJ2, hM2⟩ := K_X12_shift l D cs k H.size am w hJ (xs (x3 + (1 : Int32)).toNatClampNeg) (xs (x3 + (2 : Int32)).toNatClampNeg) (xs (x3 + (3 : Int32)).toNatClampNeg) (xs (x3 + (4 : Int32)).toNatClampNeg) (xs (x3 + (5 : Int32)).toNatClampNeg)
      have hf3 := hf2
      rw [← (rl_0 hr :), ← (rl_5 hr :), ← (rl_6 hr :), ← (rl_7 hr :), ← (rl_12 hr :), ← (rl_15 hr :), ← (rl_17 hr :)] at hf3
      obtain ⟨EQ, E1, E2⟩ := pw_shiftB hp0 hp1 (rl_24 hr :) (rl_24 hr :) (pw_shA hf1) hf3
      have EQ2 : RL (z.1, z.2.1, (fun n => zc n 3 R1.2 (z.2.2.1 n)), z.2.2.2.1, z.2.2.2.2.1, z.2.2.2.2.2.1, z.2.2.2.2.2.2.1, z.2.2.2.2.2.2.2) (w.1, w.2.1, (fun n => zc n 0 R2.2.1 (zc n 1 R2.2.2 (w.2.2 n)))) := ⟨(rl_0 hr :), (rl_1 hr :), (rl_2 hr :), (rl_3 hr :), (rl_4 hr :), (rl_5 hr :), (rl_6 hr :), (rl_7 hr :), (rl_8 hr :), (rl_9 hr :), (rl_10 hr :), (rl_11 hr :), (rl_12 hr :), (rl_13 hr :), (rl_14 hr :), (rl_15 hr :), (rl_16 hr :), (rl_17 hr :), (rl_18 hr :), (rl_19 hr :), (rl_20 hr :), (rl_21 hr :), (rl_22 hr :), (PLR_fr (rl_23 hr :) (Int.le_refl _) rfl rfl (fun k k1 k2 => E2 k (by omega))), E1, (PLR_fr (rl_25 hr :) (Int.le_refl _) rfl rfl (fun k k1 k2 => E2 k (by omega))), (PLR_fr (rl_26 hr :) (Int.le_refl _) rfl rfl (fun k k1 k2 => E2 k (by omega))), (PLR_fr (rl_27 hr :) (Int.le_refl _) rfl rfl (fun k k1 k2 => E2 k (by omega))), (PLR_fr (rl_28 hr :) (Int.le_refl _) rfl rfl (fun k k1 k2 => E2 k (by omega))), (rl_29 hr :), (rl_30 hr :), (rl_31 hr :), (rl_32 hr :), (rl_33 hr :)⟩
      refine zk_LMi (As := [.int (xs (x3 + (1 : Int32)).toNatClampNeg), .int (xs (x3 + (2 : Int32)).toNatClampNeg), .int (xs (x3 + (3 : Int32)).toNatClampNeg), .int (xs (x3 + (4 : Int32)).toNatClampNeg), .int (xs (x3 + (5 : Int32)).toNatClampNeg)]) (rest := []) hE hO hM2 ⟨hx, hb, hml, hown, ht⟩ (cwV 5 ht gl_166 rfl rfl rfl (by decide +kernel) ⟨Nat.le_of_ble_eq_true rfl, Nat.le_of_ble_eq_true rfl⟩) (va_recv hK hP (ci := 12) (q0 := 0) rfl rfl) hP hD hS hK hA rfl hl.1 (Nat.le_of_ble_eq_true rfl) dL_law_1481 ⟨by show _ ≤ 600000; omega, by show _ ≤ 7302250; omega⟩ (fun H locs hP hD hS => ?_)
      refine lv_pop hx hb dL_law_1484 rfl ?_
      refine lv_goto (tgt := 1544) hx hb dL_law_1485 (by decide) ?_
      exact kk _ _ H locs ls _ _ hI2 hJ2 EQ2 (by omega) (by omega) hP hD hS (lv_sub hl [0, 1, 2, 3] rfl)
    · refine lv_aload_n hx hb dL_law_1425 rfl (lv_at hl 1 rfl) ?_
      refine lv_aload_n hx hb dL_law_1426 rfl (lv_at hl 0 rfl) ?_
      refine lv_iload_n hx hb dL_law_1427 rfl (lv_at hl 3 rfl) ?_
      refine lv_iconst (v := (1 : Int32)) hx hb dL_law_1428 (by decide) ?_
      refine lv_iadd hx hb dL_law_1429 ?_
      refine va_sld hx hb hX hbl hbA hS (zl_in h3 hL (by decide)) dL_law_1430 ?_
      refine lv_aload_n hx hb dL_law_1431 rfl (lv_at hl 0 rfl) ?_
      refine lv_iload_n hx hb dL_law_1432 rfl (lv_at hl 3 rfl) ?_
      refine lv_iconst (v := (2 : Int32)) hx hb dL_law_1433 (by decide) ?_
      refine lv_iadd hx hb dL_law_1434 ?_
      refine va_sld hx hb hX hbl hbA hS (zl_in h3 hL (by decide)) dL_law_1435 ?_
      refine lv_aload_n hx hb dL_law_1436 rfl (lv_at hl 0 rfl) ?_
      refine lv_iload_n hx hb dL_law_1437 rfl (lv_at hl 3 rfl) ?_
      refine lv_iconst (v := (3 : Int32)) hx hb dL_law_1438 (by decide) ?_
      refine lv_iadd hx hb dL_law_1439 ?_
      refine va_sld hx hb hX hbl hbA hS (zl_in h3 hL (by decide)) dL_law_1440 ?_
      refine lv_aload_n hx hb dL_law_1441 rfl (lv_at hl 0 rfl) ?_
      refine lv_iload_n hx hb dL_law_1442 rfl (lv_at hl 3 rfl) ?_
      refine lv_iconst (v := (4 : Int32)) hx hb dL_law_1443 (by decide) ?_
      refine lv_iadd hx hb dL_law_1444 ?_
      refine va_sld hx hb hX hbl hbA hS (zl_in h3 hL (by decide)) dL_law_1445 ?_
      refine lv_aload_n hx hb dL_law_1446 rfl (lv_at hl 0 rfl) ?_
      refine lv_iload_n hx hb dL_law_1447 rfl (lv_at hl 3 rfl) ?_
      refine lv_iconst (v := (5 : Int32)) hx hb dL_law_1448 (by decide) ?_
      refine lv_iadd hx hb dL_law_1449 ?_
      refine va_sld hx hb hX hbl hbA hS (zl_in h3 hL (by decide)) dL_law_1450 ?_
      obtain ⟨R1, hf1, hI2, hM1⟩ := K_X11_shift_1_2 l D cs k H.size ad z hI (xs (x3 + (1 : Int32)).toNatClampNeg) (xs (x3 + (2 : Int32)).toNatClampNeg) (xs (x3 + (3 : Int32)).toNatClampNeg) (xs (x3 + (4 : Int32)).toNatClampNeg) (xs (x3 + (5 : Int32)).toNatClampNeg) hp0 hp1
      refine zk_LXi (As := [.int (xs (x3 + (1 : Int32)).toNatClampNeg), .int (xs (x3 + (2 : Int32)).toNatClampNeg), .int (xs (x3 + (3 : Int32)).toNatClampNeg), .int (xs (x3 + (4 : Int32)).toNatClampNeg), .int (xs (x3 + (5 : Int32)).toNatClampNeg)]) (rest := []) hE hO hM1 ⟨hx, hb, hml, hown, ht⟩ (cwV 5 ht gl_162 rfl rfl rfl (by decide +kernel) ⟨Nat.le_of_ble_eq_true rfl, Nat.le_of_ble_eq_true rfl⟩) (va_recv hK hP (ci := 11) (q0 := 44) rfl rfl) hP hD hS hK hA rfl hl.1 (Nat.le_of_ble_eq_true rfl) dL_law_1451 ⟨by show _ ≤ 600000; omega, by show _ ≤ 7302250; omega⟩ (fun H locs hP hD hS => ?_)
      refine lv_pop hx hb dL_law_1454 rfl ?_
      refine lv_aload_n hx hb dL_law_1455 rfl (lv_at hl 2 rfl) ?_
      refine lv_aload_n hx hb dL_law_1456 rfl (lv_at hl 0 rfl) ?_
      refine lv_iload_n hx hb dL_law_1457 rfl (lv_at hl 3 rfl) ?_
      refine lv_iconst (v := (1 : Int32)) hx hb dL_law_1458 (by decide) ?_
      refine lv_iadd hx hb dL_law_1459 ?_
      refine va_sld hx hb hX hbl hbA hS (zl_in h3 hL (by decide)) dL_law_1460 ?_
      refine lv_aload_n hx hb dL_law_1461 rfl (lv_at hl 0 rfl) ?_
      refine lv_iload_n hx hb dL_law_1462 rfl (lv_at hl 3 rfl) ?_
      refine lv_iconst (v := (2 : Int32)) hx hb dL_law_1463 (by decide) ?_
      refine lv_iadd hx hb dL_law_1464 ?_
      refine va_sld hx hb hX hbl hbA hS (zl_in h3 hL (by decide)) dL_law_1465 ?_
      refine lv_aload_n hx hb dL_law_1466 rfl (lv_at hl 0 rfl) ?_
      refine lv_iload_n hx hb dL_law_1467 rfl (lv_at hl 3 rfl) ?_
      refine lv_iconst (v := (3 : Int32)) hx hb dL_law_1468 (by decide) ?_
      refine lv_iadd hx hb dL_law_1469 ?_
      refine va_sld hx hb hX hbl hbA hS (zl_in h3 hL (by decide)) dL_law_1470 ?_
      refine lv_aload_n hx hb dL_law_1471 rfl (lv_at hl 0 rfl) ?_
      refine lv_iload_n hx hb dL_law_1472 rfl (lv_at hl 3 rfl) ?_
      refine lv_iconst (v := (4 : Int32)) hx hb dL_law_1473 (by decide) ?_
      refine lv_iadd hx hb dL_law_1474 ?_
      refine va_sld hx hb hX hbl hbA hS (zl_in h3 hL (by decide)) dL_law_1475 ?_
      refine lv_aload_n hx hb dL_law_1476 rfl (lv_at hl 0 rfl) ?_
      refine lv_iload_n hx hb dL_law_1477 rfl (lv_at hl 3 rfl) ?_
      refine lv_iconst (v := (5 : Int32)) hx hb dL_law_1478 (by decide) ?_
      refine lv_iadd hx hb dL_law_1479 ?_
      refine va_sld hx hb hX hbl hbA hS (zl_in h3 hL (by decide)) dL_law_1480 ?_
      obtain ⟨R2, hf2, hJ2, hM2⟩ := K_X12_shift l D cs k H.size am w hJ (xs (x3 + (1 : Int32)).toNatClampNeg) (xs (x3 + (2 : Int32)).toNatClampNeg) (xs (x3 + (3 : Int32)).toNatClampNeg) (xs (x3 + (4 : Int32)).toNatClampNeg) (xs (x3 + (5 : Int32)).toNatClampNeg)
      have hf3 := hf2
      rw [← (rl_0 hr :), ← (rl_5 hr :), ← (rl_6 hr :), ← (rl_7 hr :), ← (rl_12 hr :), ← (rl_15 hr :), ← (rl_17 hr :)] at hf3
      obtain ⟨EQ, E1, E2⟩ := pw_shiftB hp0 hp1 (rl_24 hr :) (rl_25 hr :) hf1 hf3
      have EQ2 : RL (z.1, z.2.1, (fun n => zc n 4 R1.2 (z.2.2.1 n)), z.2.2.2.1, z.2.2.2.2.1, z.2.2.2.2.2.1, z.2.2.2.2.2.2.1, z.2.2.2.2.2.2.2) (w.1, w.2.1, (fun n => zc n 0 R2.2.1 (zc n 1 R2.2.2 (w.2.2 n)))) := ⟨(rl_0 hr :), (rl_1 hr :), (rl_2 hr :), (rl_3 hr :), (rl_4 hr :), (rl_5 hr :), (rl_6 hr :), (rl_7 hr :), (rl_8 hr :), (rl_9 hr :), (rl_10 hr :), (rl_11 hr :), (rl_12 hr :), (rl_13 hr :), (rl_14 hr :), (rl_15 hr :), (rl_16 hr :), (rl_17 hr :), (rl_18 hr :), (rl_19 hr :), (rl_20 hr :), (rl_21 hr :), (rl_22 hr :), (PLR_fr (rl_23 hr :) (Int.le_refl _) rfl rfl (fun k k1 k2 => E2 k (by omega))), (PLR_fr (rl_24 hr :) (Int.le_refl _) rfl rfl (fun k k1 k2 => E2 k (by omega))), E1, (PLR_fr (rl_26 hr :) (Int.le_refl _) rfl rfl (fun k k1 k2 => E2 k (by omega))), (PLR_fr (rl_27 hr :) (Int.le_refl _) rfl rfl (fun k k1 k2 => E2 k (by omega))), (PLR_fr (rl_28 hr :) (Int.le_refl _) rfl rfl (fun k k1 k2 => E2 k (by omega))), (rl_29 hr :), (rl_30 hr :), (rl_31 hr :), (rl_32 hr :), (rl_33 hr :)⟩
      refine zk_LMi (As := [.int (xs (x3 + (1 : Int32)).toNatClampNeg), .int (xs (x3 + (2 : Int32)).toNatClampNeg), .int (xs (x3 + (3 : Int32)).toNatClampNeg), .int (xs (x3 + (4 : Int32)).toNatClampNeg), .int (xs (x3 + (5 : Int32)).toNatClampNeg)]) (rest := []) hE hO hM2 ⟨hx, hb, hml, hown, ht⟩ (cwV 5 ht gl_166 rfl rfl rfl (by decide +kernel) ⟨Nat.le_of_ble_eq_true rfl, Nat.le_of_ble_eq_true rfl⟩) (va_recv hK hP (ci := 12) (q0 := 0) rfl rfl) hP hD hS hK hA rfl hl.1 (Nat.le_of_ble_eq_true rfl) dL_law_1481 ⟨by show _ ≤ 600000; omega, by show _ ≤ 7302250; omega⟩ (fun H locs hP hD hS => ?_)
      refine lv_pop hx hb dL_law_1484 rfl ?_
      refine lv_goto (tgt := 1544) hx hb dL_law_1485 (by decide) ?_
      exact kk _ _ H locs ls _ _ hI2 hJ2 EQ2 (by omega) (by omega) hP hD hS (lv_sub hl [0, 1, 2, 3] rfl)
    · refine lv_aload_n hx hb dL_law_1425 rfl (lv_at hl 1 rfl) ?_
      refine lv_aload_n hx hb dL_law_1426 rfl (lv_at hl 0 rfl) ?_
      refine lv_iload_n hx hb dL_law_1427 rfl (lv_at hl 3 rfl) ?_
      refine lv_iconst (v := (1 : Int32)) hx hb dL_law_1428 (by decide) ?_
      refine lv_iadd hx hb dL_law_1429 ?_
      refine va_sld hx hb hX hbl hbA hS (zl_in h3 hL (by decide)) dL_law_1430 ?_
      refine lv_aload_n hx hb dL_law_1431 rfl (lv_at hl 0 rfl) ?_
      refine lv_iload_n hx hb dL_law_1432 rfl (lv_at hl 3 rfl) ?_
      refine lv_iconst (v := (2 : Int32)) hx hb dL_law_1433 (by decide) ?_
      refine lv_iadd hx hb dL_law_1434 ?_
      refine va_sld hx hb hX hbl hbA hS (zl_in h3 hL (by decide)) dL_law_1435 ?_
      refine lv_aload_n hx hb dL_law_1436 rfl (lv_at hl 0 rfl) ?_
      refine lv_iload_n hx hb dL_law_1437 rfl (lv_at hl 3 rfl) ?_
      refine lv_iconst (v := (3 : Int32)) hx hb dL_law_1438 (by decide) ?_
      refine lv_iadd hx hb dL_law_1439 ?_
      refine va_sld hx hb hX hbl hbA hS (zl_in h3 hL (by decide)) dL_law_1440 ?_
      refine lv_aload_n hx hb dL_law_1441 rfl (lv_at hl 0 rfl) ?_
      refine lv_iload_n hx hb dL_law_1442 rfl (lv_at hl 3 rfl) ?_
      refine lv_iconst (v := (4 : Int32)) hx hb dL_law_1443 (by decide) ?_
      refine lv_iadd hx hb dL_law_1444 ?_
      refine va_sld hx hb hX hbl hbA hS (zl_in h3 hL (by decide)) dL_law_1445 ?_
      refine lv_aload_n hx hb dL_law_1446 rfl (lv_at hl 0 rfl) ?_
      refine lv_iload_n hx hb dL_law_1447 rfl (lv_at hl 3 rfl) ?_
      refine lv_iconst (v := (5 : Int32)) hx hb dL_law_1448 (by decide) ?_
      refine lv_iadd hx hb dL_law_1449 ?_
      refine va_sld hx hb hX hbl hbA hS (zl_in h3 hL (by decide)) dL_law_1450 ?_
      obtain ⟨R1, hf1, hI2, hM1⟩ := K_X11_shift_1_3 l D cs k H.size ad z hI (xs (x3 + (1 : Int32)).toNatClampNeg) (xs (x3 + (2 : Int32)).toNatClampNeg) (xs (x3 + (3 : Int32)).toNatClampNeg) (xs (x3 + (4 : Int32)).toNatClampNeg) (xs (x3 + (5 : Int32)).toNatClampNeg) hp0 hp1
      refine zk_LXi (As := [.int (xs (x3 + (1 : Int32)).toNatClampNeg), .int (xs (x3 + (2 : Int32)).toNatClampNeg), .int (xs (x3 + (3 : Int32)).toNatClampNeg), .int (xs (x3 + (4 : Int32)).toNatClampNeg), .int (xs (x3 + (5 : Int32)).toNatClampNeg)]) (rest := []) hE hO hM1 ⟨hx, hb, hml, hown, ht⟩ (cwV 5 ht gl_162 rfl rfl rfl (by decide +kernel) ⟨Nat.le_of_ble_eq_true rfl, Nat.le_of_ble_eq_true rfl⟩) (va_recv hK hP (ci := 11) (q0 := 44) rfl rfl) hP hD hS hK hA rfl hl.1 (Nat.le_of_ble_eq_true rfl) dL_law_1451 ⟨by show _ ≤ 600000; omega, by show _ ≤ 7302250; omega⟩ (fun H locs hP hD hS => ?_)
      refine lv_pop hx hb dL_law_1454 rfl ?_
      refine lv_aload_n hx hb dL_law_1455 rfl (lv_at hl 2 rfl) ?_
      refine lv_aload_n hx hb dL_law_1456 rfl (lv_at hl 0 rfl) ?_
      refine lv_iload_n hx hb dL_law_1457 rfl (lv_at hl 3 rfl) ?_
      refine lv_iconst (v := (1 : Int32)) hx hb dL_law_1458 (by decide) ?_
      refine lv_iadd hx hb dL_law_1459 ?_
      refine va_sld hx hb hX hbl hbA hS (zl_in h3 hL (by decide)) dL_law_1460 ?_
      refine lv_aload_n hx hb dL_law_1461 rfl (lv_at hl 0 rfl) ?_
      refine lv_iload_n hx hb dL_law_1462 rfl (lv_at hl 3 rfl) ?_
      refine lv_iconst (v := (2 : Int32)) hx hb dL_law_1463 (by decide) ?_
      refine lv_iadd hx hb dL_law_1464 ?_
      refine va_sld hx hb hX hbl hbA hS (zl_in h3 hL (by decide)) dL_law_1465 ?_
      refine lv_aload_n hx hb dL_law_1466 rfl (lv_at hl 0 rfl) ?_
      refine lv_iload_n hx hb dL_law_1467 rfl (lv_at hl 3 rfl) ?_
      refine lv_iconst (v := (3 : Int32)) hx hb dL_law_1468 (by decide) ?_
      refine lv_iadd hx hb dL_law_1469 ?_
      refine va_sld hx hb hX hbl hbA hS (zl_in h3 hL (by decide)) dL_law_1470 ?_
      refine lv_aload_n hx hb dL_law_1471 rfl (lv_at hl 0 rfl) ?_
      refine lv_iload_n hx hb dL_law_1472 rfl (lv_at hl 3 rfl) ?_
      refine lv_iconst (v := (4 : Int32)) hx hb dL_law_1473 (by decide) ?_
      refine lv_iadd hx hb dL_law_1474 ?_
      refine va_sld hx hb hX hbl hbA hS (zl_in h3 hL (by decide)) dL_law_1475 ?_
      refine lv_aload_n hx hb dL_law_1476 rfl (lv_at hl 0 rfl) ?_
      refine lv_iload_n hx hb dL_law_1477 rfl (lv_at hl 3 rfl) ?_
      refine lv_iconst (v := (5 : Int32)) hx hb dL_law_1478 (by decide) ?_
      refine lv_iadd hx hb dL_law_1479 ?_
      refine va_sld hx hb hX hbl hbA hS (zl_in h3 hL (by decide)) dL_law_1480 ?_
      obtain ⟨R2, hf2, hJ2, hM2⟩ := K_X12_shift l D cs k H.size am w hJ (xs (x3 + (1 : Int32)).toNatClampNeg) (xs (x3 + (2 : Int32)).toNatClampNeg) (xs (x3 + (3 : Int32)).toNatClampNeg) (xs (x3 + (4 : Int32)).toNatClampNeg) (xs (x3 + (5 : Int32)).toNatClampNeg)
      have hf3 := hf2
      rw [← (rl_0 hr :), ← (rl_5 hr :), ← (rl_6 hr :), ← (rl_7 hr :), ← (rl_12 hr :), ← (rl_15 hr :), ← (rl_17 hr :)] at hf3
      obtain ⟨EQ, E1, E2⟩ := pw_shiftB hp0 hp1 (rl_24 hr :) (rl_26 hr :) hf1 hf3
      have EQ2 : RL (z.1, z.2.1, (fun n => zc n 5 R1.2 (z.2.2.1 n)), z.2.2.2.1, z.2.2.2.2.1, z.2.2.2.2.2.1, z.2.2.2.2.2.2.1, z.2.2.2.2.2.2.2) (w.1, w.2.1, (fun n => zc n 0 R2.2.1 (zc n 1 R2.2.2 (w.2.2 n)))) := ⟨(rl_0 hr :), (rl_1 hr :), (rl_2 hr :), (rl_3 hr :), (rl_4 hr :), (rl_5 hr :), (rl_6 hr :), (rl_7 hr :), (rl_8 hr :), (rl_9 hr :), (rl_10 hr :), (rl_11 hr :), (rl_12 hr :), (rl_13 hr :), (rl_14 hr :), (rl_15 hr :), (rl_16 hr :), (rl_17 hr :), (rl_18 hr :), (rl_19 hr :), (rl_20 hr :), (rl_21 hr :), (rl_22 hr :), (PLR_fr (rl_23 hr :) (Int.le_refl _) rfl rfl (fun k k1 k2 => E2 k (by omega))), (PLR_fr (rl_24 hr :) (Int.le_refl _) rfl rfl (fun k k1 k2 => E2 k (by omega))), (PLR_fr (rl_25 hr :) (Int.le_refl _) rfl rfl (fun k k1 k2 => E2 k (by omega))), E1, (PLR_fr (rl_27 hr :) (Int.le_refl _) rfl rfl (fun k k1 k2 => E2 k (by omega))), (PLR_fr (rl_28 hr :) (Int.le_refl _) rfl rfl (fun k k1 k2 => E2 k (by omega))), (rl_29 hr :), (rl_30 hr :), (rl_31 hr :), (rl_32 hr :), (rl_33 hr :)⟩
      refine zk_LMi (As := [.int (xs (x3 + (1 : Int32)).toNatClampNeg), .int (xs (x3 + (2 : Int32)).toNatClampNeg), .int (xs (x3 + (3 : Int32)).toNatClampNeg), .int (xs (x3 + (4 : Int32)).toNatClampNeg), .int (xs (x3 + (5 : Int32)).toNatClampNeg)]) (rest := []) hE hO hM2 ⟨hx, hb, hml, hown, ht⟩ (cwV 5 ht gl_166 rfl rfl rfl (by decide +kernel) ⟨Nat.le_of_ble_eq_true rfl, Nat.le_of_ble_eq_true rfl⟩) (va_recv hK hP (ci := 12) (q0 := 0) rfl rfl) hP hD hS hK hA rfl hl.1 (Nat.le_of_ble_eq_true rfl) dL_law_1481 ⟨by show _ ≤ 600000; omega, by show _ ≤ 7302250; omega⟩ (fun H locs hP hD hS => ?_)
      refine lv_pop hx hb dL_law_1484 rfl ?_
      refine lv_goto (tgt := 1544) hx hb dL_law_1485 (by decide) ?_
      exact kk _ _ H locs ls _ _ hI2 hJ2 EQ2 (by omega) (by omega) hP hD hS (lv_sub hl [0, 1, 2, 3] rfl)
    · refine lv_aload_n hx hb dL_law_1425 rfl (lv_at hl 1 rfl) ?_
      refine lv_aload_n hx hb dL_law_1426 rfl (lv_at hl 0 rfl) ?_
      refine lv_iload_n hx hb dL_law_1427 rfl (lv_at hl 3 rfl) ?_
      refine lv_iconst (v := (1 : Int32)) hx hb dL_law_1428 (by decide) ?_
      refine lv_iadd hx hb dL_law_1429 ?_
      refine va_sld hx hb hX hbl hbA hS (zl_in h3 hL (by decide)) dL_law_1430 ?_
      refine lv_aload_n hx hb dL_law_1431 rfl (lv_at hl 0 rfl) ?_
      refine lv_iload_n hx hb dL_law_1432 rfl (lv_at hl 3 rfl) ?_
      refine lv_iconst (v := (2 : Int32)) hx hb dL_law_1433 (by decide) ?_
      refine lv_iadd hx hb dL_law_1434 ?_
      refine va_sld hx hb hX hbl hbA hS (zl_in h3 hL (by decide)) dL_law_1435 ?_
      refine lv_aload_n hx hb dL_law_1436 rfl (lv_at hl 0 rfl) ?_
      refine lv_iload_n hx hb dL_law_1437 rfl (lv_at hl 3 rfl) ?_
      refine lv_iconst (v := (3 : Int32)) hx hb dL_law_1438 (by decide) ?_
      refine lv_iadd hx hb dL_law_1439 ?_
      refine va_sld hx hb hX hbl hbA hS (zl_in h3 hL (by decide)) dL_law_1440 ?_
      refine lv_aload_n hx hb dL_law_1441 rfl (lv_at hl 0 rfl) ?_
      refine lv_iload_n hx hb dL_law_1442 rfl (lv_at hl 3 rfl) ?_
      refine lv_iconst (v := (4 : Int32)) hx hb dL_law_1443 (by decide) ?_
      refine lv_iadd hx hb dL_law_1444 ?_
      refine va_sld hx hb hX hbl hbA hS (zl_in h3 hL (by decide)) dL_law_1445 ?_
      refine lv_aload_n hx hb dL_law_1446 rfl (lv_at hl 0 rfl) ?_
      refine lv_iload_n hx hb dL_law_1447 rfl (lv_at hl 3 rfl) ?_
      refine lv_iconst (v := (5 : Int32)) hx hb dL_law_1448 (by decide) ?_
      refine lv_iadd hx hb dL_law_1449 ?_
      refine va_sld hx hb hX hbl hbA hS (zl_in h3 hL (by decide)) dL_law_1450 ?_
      obtain ⟨R1, hf1, hI2, hM1⟩ := K_X11_shift_1_4 l D cs k H.size ad z hI (xs (x3 + (1 : Int32)).toNatClampNeg) (xs (x3 + (2 : Int32)).toNatClampNeg) (xs (x3 + (3 : Int32)).toNatClampNeg) (xs (x3 + (4 : Int32)).toNatClampNeg) (xs (x3 + (5 : Int32)).toNatClampNeg) hp0 hp1
      refine zk_LXi (As := [.int (xs (x3 + (1 : Int32)).toNatClampNeg), .int (xs (x3 + (2 : Int32)).toNatClampNeg), .int (xs (x3 + (3 : Int32)).toNatClampNeg), .int (xs (x3 + (4 : Int32)).toNatClampNeg), .int (xs (x3 + (5 : Int32)).toNatClampNeg)]) (rest := []) hE hO hM1 ⟨hx, hb, hml, hown, ht⟩ (cwV 5 ht gl_162 rfl rfl rfl (by decide +kernel) ⟨Nat.le_of_ble_eq_true rfl, Nat.le_of_ble_eq_true rfl⟩) (va_recv hK hP (ci := 11) (q0 := 44) rfl rfl) hP hD hS hK hA rfl hl.1 (Nat.le_of_ble_eq_true rfl) dL_law_1451 ⟨by show _ ≤ 600000; omega, by show _ ≤ 7302250; omega⟩ (fun H locs hP hD hS => ?_)
      refine lv_pop hx hb dL_law_1454 rfl ?_
      refine lv_aload_n hx hb dL_law_1455 rfl (lv_at hl 2 rfl) ?_
      refine lv_aload_n hx hb dL_law_1456 rfl (lv_at hl 0 rfl) ?_
      refine lv_iload_n hx hb dL_law_1457 rfl (lv_at hl 3 rfl) ?_
      refine lv_iconst (v := (1 : Int32)) hx hb dL_law_1458 (by decide) ?_
      refine lv_iadd hx hb dL_law_1459 ?_
      refine va_sld hx hb hX hbl hbA hS (zl_in h3 hL (by decide)) dL_law_1460 ?_
      refine lv_aload_n hx hb dL_law_1461 rfl (lv_at hl 0 rfl) ?_
      refine lv_iload_n hx hb dL_law_1462 rfl (lv_at hl 3 rfl) ?_
      refine lv_iconst (v := (2 : Int32)) hx hb dL_law_1463 (by decide) ?_
      refine lv_iadd hx hb dL_law_1464 ?_
      refine va_sld hx hb hX hbl hbA hS (zl_in h3 hL (by decide)) dL_law_1465 ?_
      refine lv_aload_n hx hb dL_law_1466 rfl (lv_at hl 0 rfl) ?_
      refine lv_iload_n hx hb dL_law_1467 rfl (lv_at hl 3 rfl) ?_
      refine lv_iconst (v := (3 : Int32)) hx hb dL_law_1468 (by decide) ?_
      refine lv_iadd hx hb dL_law_1469 ?_
      refine va_sld hx hb hX hbl hbA hS (zl_in h3 hL (by decide)) dL_law_1470 ?_
      refine lv_aload_n hx hb dL_law_1471 rfl (lv_at hl 0 rfl) ?_
      refine lv_iload_n hx hb dL_law_1472 rfl (lv_at hl 3 rfl) ?_
      refine lv_iconst (v := (4 : Int32)) hx hb dL_law_1473 (by decide) ?_
      refine lv_iadd hx hb dL_law_1474 ?_
      refine va_sld hx hb hX hbl hbA hS (zl_in h3 hL (by decide)) dL_law_1475 ?_
      refine lv_aload_n hx hb dL_law_1476 rfl (lv_at hl 0 rfl) ?_
      refine lv_iload_n hx hb dL_law_1477 rfl (lv_at hl 3 rfl) ?_
      refine lv_iconst (v := (5 : Int32)) hx hb dL_law_1478 (by decide) ?_
      refine lv_iadd hx hb dL_law_1479 ?_
      refine va_sld hx hb hX hbl hbA hS (zl_in h3 hL (by decide)) dL_law_1480 ?_
      obtain ⟨R2, hf2, hJ2, hM2⟩ := K_X12_shift l D cs k H.size am w hJ (xs (x3 + (1 : Int32)).toNatClampNeg) (xs (x3 + (2 : Int32)).toNatClampNeg) (xs (x3 + (3 : Int32)).toNatClampNeg) (xs (x3 + (4 : Int32)).toNatClampNeg) (xs (x3 + (5 : Int32)).toNatClampNeg)
      have hf3 := hf2
      rw [← (rl_0 hr :), ← (rl_5 hr :), ← (rl_6 hr :), ← (rl_7 hr :), ← (rl_12 hr :), ← (rl_15 hr :), ← (rl_17 hr :)] at hf3
      obtain ⟨EQ, E1, E2⟩ := pw_shiftB hp0 hp1 (rl_24 hr :) (rl_27 hr :) hf1 hf3
      have EQ2 : RL (z.1, z.2.1, (fun n => zc n 6 R1.2 (z.2.2.1 n)), z.2.2.2.1, z.2.2.2.2.1, z.2.2.2.2.2.1, z.2.2.2.2.2.2.1, z.2.2.2.2.2.2.2) (w.1, w.2.1, (fun n => zc n 0 R2.2.1 (zc n 1 R2.2.2 (w.2.2 n)))) := ⟨(rl_0 hr :), (rl_1 hr :), (rl_2 hr :), (rl_3 hr :), (rl_4 hr :), (rl_5 hr :), (rl_6 hr :), (rl_7 hr :), (rl_8 hr :), (rl_9 hr :), (rl_10 hr :), (rl_11 hr :), (rl_12 hr :), (rl_13 hr :), (rl_14 hr :), (rl_15 hr :), (rl_16 hr :), (rl_17 hr :), (rl_18 hr :), (rl_19 hr :), (rl_20 hr :), (rl_21 hr :), (rl_22 hr :), (PLR_fr (rl_23 hr :) (Int.le_refl _) rfl rfl (fun k k1 k2 => E2 k (by omega))), (PLR_fr (rl_24 hr :) (Int.le_refl _) rfl rfl (fun k k1 k2 => E2 k (by omega))), (PLR_fr (rl_25 hr :) (Int.le_refl _) rfl rfl (fun k k1 k2 => E2 k (by omega))), (PLR_fr (rl_26 hr :) (Int.le_refl _) rfl rfl (fun k k1 k2 => E2 k (by omega))), E1, (PLR_fr (rl_28 hr :) (Int.le_refl _) rfl rfl (fun k k1 k2 => E2 k (by omega))), (rl_29 hr :), (rl_30 hr :), (rl_31 hr :), (rl_32 hr :), (rl_33 hr :)⟩
      refine zk_LMi (As := [.int (xs (x3 + (1 : Int32)).toNatClampNeg), .int (xs (x3 + (2 : Int32)).toNatClampNeg), .int (xs (x3 + (3 : Int32)).toNatClampNeg), .int (xs (x3 + (4 : Int32)).toNatClampNeg), .int (xs (x3 + (5 : Int32)).toNatClampNeg)]) (rest := []) hE hO hM2 ⟨hx, hb, hml, hown, ht⟩ (cwV 5 ht gl_166 rfl rfl rfl (by decide +kernel) ⟨Nat.le_of_ble_eq_true rfl, Nat.le_of_ble_eq_true rfl⟩) (va_recv hK hP (ci := 12) (q0 := 0) rfl rfl) hP hD hS hK hA rfl hl.1 (Nat.le_of_ble_eq_true rfl) dL_law_1481 ⟨by show _ ≤ 600000; omega, by show _ ≤ 7302250; omega⟩ (fun H locs hP hD hS => ?_)
      refine lv_pop hx hb dL_law_1484 rfl ?_
      refine lv_goto (tgt := 1544) hx hb dL_law_1485 (by decide) ?_
      exact kk _ _ H locs ls _ _ hI2 hJ2 EQ2 (by omega) (by omega) hP hD hS (lv_sub hl [0, 1, 2, 3] rfl)
    · refine lv_aload_n hx hb dL_law_1425 rfl (lv_at hl 1 rfl) ?_
      refine lv_aload_n hx hb dL_law_1426 rfl (lv_at hl 0 rfl) ?_
      refine lv_iload_n hx hb dL_law_1427 rfl (lv_at hl 3 rfl) ?_
      refine lv_iconst (v := (1 : Int32)) hx hb dL_law_1428 (by decide) ?_
      refine lv_iadd hx hb dL_law_1429 ?_
      refine va_sld hx hb hX hbl hbA hS (zl_in h3 hL (by decide)) dL_law_1430 ?_
      refine lv_aload_n hx hb dL_law_1431 rfl (lv_at hl 0 rfl) ?_
      refine lv_iload_n hx hb dL_law_1432 rfl (lv_at hl 3 rfl) ?_
      refine lv_iconst (v := (2 : Int32)) hx hb dL_law_1433 (by decide) ?_
      refine lv_iadd hx hb dL_law_1434 ?_
      refine va_sld hx hb hX hbl hbA hS (zl_in h3 hL (by decide)) dL_law_1435 ?_
      refine lv_aload_n hx hb dL_law_1436 rfl (lv_at hl 0 rfl) ?_
      refine lv_iload_n hx hb dL_law_1437 rfl (lv_at hl 3 rfl) ?_
      refine lv_iconst (v := (3 : Int32)) hx hb dL_law_1438 (by decide) ?_
      refine lv_iadd hx hb dL_law_1439 ?_
      refine va_sld hx hb hX hbl hbA hS (zl_in h3 hL (by decide)) dL_law_1440 ?_
      refine lv_aload_n hx hb dL_law_1441 rfl (lv_at hl 0 rfl) ?_
      refine lv_iload_n hx hb dL_law_1442 rfl (lv_at hl 3 rfl) ?_
      refine lv_iconst (v := (4 : Int32)) hx hb dL_law_1443 (by decide) ?_
      refine lv_iadd hx hb dL_law_1444 ?_
      refine va_sld hx hb hX hbl hbA hS (zl_in h3 hL (by decide)) dL_law_1445 ?_
      refine lv_aload_n hx hb dL_law_1446 rfl (lv_at hl 0 rfl) ?_
      refine lv_iload_n hx hb dL_law_1447 rfl (lv_at hl 3 rfl) ?_
      refine lv_iconst (v := (5 : Int32)) hx hb dL_law_1448 (by decide) ?_
      refine lv_iadd hx hb dL_law_1449 ?_
      refine va_sld hx hb hX hbl hbA hS (zl_in h3 hL (by decide)) dL_law_1450 ?_
      obtain ⟨R1, hf1, hI2, hM1⟩ := K_X11_shift_1_5 l D cs k H.size ad z hI (xs (x3 + (1 : Int32)).toNatClampNeg) (xs (x3 + (2 : Int32)).toNatClampNeg) (xs (x3 + (3 : Int32)).toNatClampNeg) (xs (x3 + (4 : Int32)).toNatClampNeg) (xs (x3 + (5 : Int32)).toNatClampNeg) hp0 hp1
      refine zk_LXi (As := [.int (xs (x3 + (1 : Int32)).toNatClampNeg), .int (xs (x3 + (2 : Int32)).toNatClampNeg), .int (xs (x3 + (3 : Int32)).toNatClampNeg), .int (xs (x3 + (4 : Int32)).toNatClampNeg), .int (xs (x3 + (5 : Int32)).toNatClampNeg)]) (rest := []) hE hO hM1 ⟨hx, hb, hml, hown, ht⟩ (cwV 5 ht gl_162 rfl rfl rfl (by decide +kernel) ⟨Nat.le_of_ble_eq_true rfl, Nat.le_of_ble_eq_true rfl⟩) (va_recv hK hP (ci := 11) (q0 := 44) rfl rfl) hP hD hS hK hA rfl hl.1 (Nat.le_of_ble_eq_true rfl) dL_law_1451 ⟨by show _ ≤ 600000; omega, by show _ ≤ 7302250; omega⟩ (fun H locs hP hD hS => ?_)
      refine lv_pop hx hb dL_law_1454 rfl ?_
      refine lv_aload_n hx hb dL_law_1455 rfl (lv_at hl 2 rfl) ?_
      refine lv_aload_n hx hb dL_law_1456 rfl (lv_at hl 0 rfl) ?_
      refine lv_iload_n hx hb dL_law_1457 rfl (lv_at hl 3 rfl) ?_
      refine lv_iconst (v := (1 : Int32)) hx hb dL_law_1458 (by decide) ?_
      refine lv_iadd hx hb dL_law_1459 ?_
      refine va_sld hx hb hX hbl hbA hS (zl_in h3 hL (by decide)) dL_law_1460 ?_
      refine lv_aload_n hx hb dL_law_1461 rfl (lv_at hl 0 rfl) ?_
      refine lv_iload_n hx hb dL_law_1462 rfl (lv_at hl 3 rfl) ?_
      refine lv_iconst (v := (2 : Int32)) hx hb dL_law_1463 (by decide) ?_
      refine lv_iadd hx hb dL_law_1464 ?_
      refine va_sld hx hb hX hbl hbA hS (zl_in h3 hL (by decide)) dL_law_1465 ?_
      refine lv_aload_n hx hb dL_law_1466 rfl (lv_at hl 0 rfl) ?_
      refine lv_iload_n hx hb dL_law_1467 rfl (lv_at hl 3 rfl) ?_
      refine lv_iconst (v := (3 : Int32)) hx hb dL_law_1468 (by decide) ?_
      refine lv_iadd hx hb dL_law_1469 ?_
      refine va_sld hx hb hX hbl hbA hS (zl_in h3 hL (by decide)) dL_law_1470 ?_
      refine lv_aload_n hx hb dL_law_1471 rfl (lv_at hl 0 rfl) ?_
      refine lv_iload_n hx hb dL_law_1472 rfl (lv_at hl 3 rfl) ?_
      refine lv_iconst (v := (4 : Int32)) hx hb dL_law_1473 (by decide) ?_
      refine lv_iadd hx hb dL_law_1474 ?_
      refine va_sld hx hb hX hbl hbA hS (zl_in h3 hL (by decide)) dL_law_1475 ?_
      refine lv_aload_n hx hb dL_law_1476 rfl (lv_at hl 0 rfl) ?_
      refine lv_iload_n hx hb dL_law_1477 rfl (lv_at hl 3 rfl) ?_
      refine lv_iconst (v := (5 : Int32)) hx hb dL_law_1478 (by decide) ?_
      refine lv_iadd hx hb dL_law_1479 ?_
      refine va_sld hx hb hX hbl hbA hS (zl_in h3 hL (by decide)) dL_law_1480 ?_
      obtain ⟨R2, hf2, hJ2, hM2⟩ := K_X12_shift l D cs k H.size am w hJ (xs (x3 + (1 : Int32)).toNatClampNeg) (xs (x3 + (2 : Int32)).toNatClampNeg) (xs (x3 + (3 : Int32)).toNatClampNeg) (xs (x3 + (4 : Int32)).toNatClampNeg) (xs (x3 + (5 : Int32)).toNatClampNeg)
      have hf3 := hf2
      rw [← (rl_0 hr :), ← (rl_5 hr :), ← (rl_6 hr :), ← (rl_7 hr :), ← (rl_12 hr :), ← (rl_15 hr :), ← (rl_17 hr :)] at hf3
      obtain ⟨EQ, E1, E2⟩ := pw_shiftB hp0 hp1 (rl_24 hr :) (rl_28 hr :) hf1 hf3
      have EQ2 : RL (z.1, z.2.1, (fun n => zc n 7 R1.2 (z.2.2.1 n)), z.2.2.2.1, z.2.2.2.2.1, z.2.2.2.2.2.1, z.2.2.2.2.2.2.1, z.2.2.2.2.2.2.2) (w.1, w.2.1, (fun n => zc n 0 R2.2.1 (zc n 1 R2.2.2 (w.2.2 n)))) := ⟨(rl_0 hr :), (rl_1 hr :), (rl_2 hr :), (rl_3 hr :), (rl_4 hr :), (rl_5 hr :), (rl_6 hr :), (rl_7 hr :), (rl_8 hr :), (rl_9 hr :), (rl_10 hr :), (rl_11 hr :), (rl_12 hr :), (rl_13 hr :), (rl_14 hr :), (rl_15 hr :), (rl_16 hr :), (rl_17 hr :), (rl_18 hr :), (rl_19 hr :), (rl_20 hr :), (rl_21 hr :), (rl_22 hr :), (PLR_fr (rl_23 hr :) (Int.le_refl _) rfl rfl (fun k k1 k2 => E2 k (by omega))), (PLR_fr (rl_24 hr :) (Int.le_refl _) rfl rfl (fun k k1 k2 => E2 k (by omega))), (PLR_fr (rl_25 hr :) (Int.le_refl _) rfl rfl (fun k k1 k2 => E2 k (by omega))), (PLR_fr (rl_26 hr :) (Int.le_refl _) rfl rfl (fun k k1 k2 => E2 k (by omega))), (PLR_fr (rl_27 hr :) (Int.le_refl _) rfl rfl (fun k k1 k2 => E2 k (by omega))), E1, (rl_29 hr :), (rl_30 hr :), (rl_31 hr :), (rl_32 hr :), (rl_33 hr :)⟩
      refine zk_LMi (As := [.int (xs (x3 + (1 : Int32)).toNatClampNeg), .int (xs (x3 + (2 : Int32)).toNatClampNeg), .int (xs (x3 + (3 : Int32)).toNatClampNeg), .int (xs (x3 + (4 : Int32)).toNatClampNeg), .int (xs (x3 + (5 : Int32)).toNatClampNeg)]) (rest := []) hE hO hM2 ⟨hx, hb, hml, hown, ht⟩ (cwV 5 ht gl_166 rfl rfl rfl (by decide +kernel) ⟨Nat.le_of_ble_eq_true rfl, Nat.le_of_ble_eq_true rfl⟩) (va_recv hK hP (ci := 12) (q0 := 0) rfl rfl) hP hD hS hK hA rfl hl.1 (Nat.le_of_ble_eq_true rfl) dL_law_1481 ⟨by show _ ≤ 600000; omega, by show _ ≤ 7302250; omega⟩ (fun H locs hP hD hS => ?_)
      refine lv_pop hx hb dL_law_1484 rfl ?_
      refine lv_goto (tgt := 1544) hx hb dL_law_1485 (by decide) ?_
      exact kk _ _ H locs ls _ _ hI2 hJ2 EQ2 (by omega) (by omega) hP hD hS (lv_sub hl [0, 1, 2, 3] rfl)
  · obtain ⟨j1, hj1, hp1⟩ := zk_pl (xs (x3 + (3 : Int32)).toNatClampNeg)
    rcases (show j1 = 0 ∨ j1 = 1 ∨ j1 = 2 ∨ j1 = 3 ∨ j1 = 4 ∨ j1 = 5 by omega) with rfl | rfl | rfl | rfl | rfl | rfl
    · refine lv_aload_n hx hb dL_law_1425 rfl (lv_at hl 1 rfl) ?_
      refine lv_aload_n hx hb dL_law_1426 rfl (lv_at hl 0 rfl) ?_
      refine lv_iload_n hx hb dL_law_1427 rfl (lv_at hl 3 rfl) ?_
      refine lv_iconst (v := (1 : Int32)) hx hb dL_law_1428 (by decide) ?_
      refine lv_iadd hx hb dL_law_1429 ?_
      refine va_sld hx hb hX hbl hbA hS (zl_in h3 hL (by decide)) dL_law_1430 ?_
      refine lv_aload_n hx hb dL_law_1431 rfl (lv_at hl 0 rfl) ?_
      refine lv_iload_n hx hb dL_law_1432 rfl (lv_at hl 3 rfl) ?_
      refine lv_iconst (v := (2 : Int32)) hx hb dL_law_1433 (by decide) ?_
      refine lv_iadd hx hb dL_law_1434 ?_
      refine va_sld hx hb hX hbl hbA hS (zl_in h3 hL (by decide)) dL_law_1435 ?_
      refine lv_aload_n hx hb dL_law_1436 rfl (lv_at hl 0 rfl) ?_
      refine lv_iload_n hx hb dL_law_1437 rfl (lv_at hl 3 rfl) ?_
      refine lv_iconst (v := (3 : Int32)) hx hb dL_law_1438 (by decide) ?_
      refine lv_iadd hx hb dL_law_1439 ?_
      refine va_sld hx hb hX hbl hbA hS (zl_in h3 hL (by decide)) dL_law_1440 ?_
      refine lv_aload_n hx hb dL_law_1441 rfl (lv_at hl 0 rfl) ?_
      refine lv_iload_n hx hb dL_law_1442 rfl (lv_at hl 3 rfl) ?_
      refine lv_iconst (v := (4 : Int32)) hx hb dL_law_1443 (by decide) ?_
      refine lv_iadd hx hb dL_law_1444 ?_
      refine va_sld hx hb hX hbl hbA hS (zl_in h3 hL (by decide)) dL_law_1445 ?_
      refine lv_aload_n hx hb dL_law_1446 rfl (lv_at hl 0 rfl) ?_
      refine lv_iload_n hx hb dL_law_1447 rfl (lv_at hl 3 rfl) ?_
      refine lv_iconst (v := (5 : Int32)) hx hb dL_law_1448 (by decide) ?_
      refine lv_iadd hx hb dL_law_1449 ?_
      refine va_sld hx hb hX hbl hbA hS (zl_in h3 hL (by decide)) dL_law_1450 ?_
      obtain ⟨R1, hf1, hI2, hM1⟩ := K_X11_shift_2_0 l D cs k H.size ad z hI (xs (x3 + (1 : Int32)).toNatClampNeg) (xs (x3 + (2 : Int32)).toNatClampNeg) (xs (x3 + (3 : Int32)).toNatClampNeg) (xs (x3 + (4 : Int32)).toNatClampNeg) (xs (x3 + (5 : Int32)).toNatClampNeg) hp0 hp1
      refine zk_LXi (As := [.int (xs (x3 + (1 : Int32)).toNatClampNeg), .int (xs (x3 + (2 : Int32)).toNatClampNeg), .int (xs (x3 + (3 : Int32)).toNatClampNeg), .int (xs (x3 + (4 : Int32)).toNatClampNeg), .int (xs (x3 + (5 : Int32)).toNatClampNeg)]) (rest := []) hE hO hM1 ⟨hx, hb, hml, hown, ht⟩ (cwV 5 ht gl_162 rfl rfl rfl (by decide +kernel) ⟨Nat.le_of_ble_eq_true rfl, Nat.le_of_ble_eq_true rfl⟩) (va_recv hK hP (ci := 11) (q0 := 44) rfl rfl) hP hD hS hK hA rfl hl.1 (Nat.le_of_ble_eq_true rfl) dL_law_1451 ⟨by show _ ≤ 600000; omega, by show _ ≤ 7302250; omega⟩ (fun H locs hP hD hS => ?_)
      refine lv_pop hx hb dL_law_1454 rfl ?_
      refine lv_aload_n hx hb dL_law_1455 rfl (lv_at hl 2 rfl) ?_
      refine lv_aload_n hx hb dL_law_1456 rfl (lv_at hl 0 rfl) ?_
      refine lv_iload_n hx hb dL_law_1457 rfl (lv_at hl 3 rfl) ?_
      refine lv_iconst (v := (1 : Int32)) hx hb dL_law_1458 (by decide) ?_
      refine lv_iadd hx hb dL_law_1459 ?_
      refine va_sld hx hb hX hbl hbA hS (zl_in h3 hL (by decide)) dL_law_1460 ?_
      refine lv_aload_n hx hb dL_law_1461 rfl (lv_at hl 0 rfl) ?_
      refine lv_iload_n hx hb dL_law_1462 rfl (lv_at hl 3 rfl) ?_
      refine lv_iconst (v := (2 : Int32)) hx hb dL_law_1463 (by decide) ?_
      refine lv_iadd hx hb dL_law_1464 ?_
      refine va_sld hx hb hX hbl hbA hS (zl_in h3 hL (by decide)) dL_law_1465 ?_
      refine lv_aload_n hx hb dL_law_1466 rfl (lv_at hl 0 rfl) ?_
      refine lv_iload_n hx hb dL_law_1467 rfl (lv_at hl 3 rfl) ?_
      refine lv_iconst (v := (3 : Int32)) hx hb dL_law_1468 (by decide) ?_
      refine lv_iadd hx hb dL_law_1469 ?_
      refine va_sld hx hb hX hbl hbA hS (zl_in h3 hL (by decide)) dL_law_1470 ?_
      refine lv_aload_n hx hb dL_law_1471 rfl (lv_at hl 0 rfl) ?_
      refine lv_iload_n hx hb dL_law_1472 rfl (lv_at hl 3 rfl) ?_
      refine lv_iconst (v := (4 : Int32)) hx hb dL_law_1473 (by decide) ?_
      refine lv_iadd hx hb dL_law_1474 ?_
      refine va_sld hx hb hX hbl hbA hS (zl_in h3 hL (by decide)) dL_law_1475 ?_
      refine lv_aload_n hx hb dL_law_1476 rfl (lv_at hl 0 rfl) ?_
      refine lv_iload_n hx hb dL_law_1477 rfl (lv_at hl 3 rfl) ?_
      refine lv_iconst (v := (5 : Int32)) hx hb dL_law_1478 (by decide) ?_
      refine lv_iadd hx hb dL_law_1479 ?_
      refine va_sld hx hb hX hbl hbA hS (zl_in h3 hL (by decide)) dL_law_1480 ?_
      obtain ⟨R2, hf2, hJ2, hM2⟩ := K_X12_shift l D cs k H.size am w hJ (xs (x3 + (1 : Int32)).toNatClampNeg) (xs (x3 + (2 : Int32)).toNatClampNeg) (xs (x3 + (3 : Int32)).toNatClampNeg) (xs (x3 + (4 : Int32)).toNatClampNeg) (xs (x3 + (5 : Int32)).toNatClampNeg)
      have hf3 := hf2
      rw [← (rl_0 hr :), ← (rl_5 hr :), ← (rl_6 hr :), ← (rl_7 hr :), ← (rl_12 hr :), ← (rl_15 hr :), ← (rl_17 hr :)] at hf3
      obtain ⟨EQ, E1, E2⟩ := pw_shiftB hp0 hp1 (rl_25 hr :) (rl_23 hr :) hf1 hf3
      have EQ2 : RL (z.1, z.2.1, (fun n => zc n 2 R1.2 (z.2.2.1 n)), z.2.2.2.1, z.2.2.2.2.1, z.2.2.2.2.2.1, z.2.2.2.2.2.2.1, z.2.2.2.2.2.2.2) (w.1, w.2.1, (fun n => zc n 0 R2.2.1 (zc n 1 R2.2.2 (w.2.2 n)))) := ⟨(rl_0 hr :), (rl_1 hr :), (rl_2 hr :), (rl_3 hr :), (rl_4 hr :), (rl_5 hr :), (rl_6 hr :), (rl_7 hr :), (rl_8 hr :), (rl_9 hr :), (rl_10 hr :), (rl_11 hr :), (rl_12 hr :), (rl_13 hr :), (rl_14 hr :), (rl_15 hr :), (rl_16 hr :), (rl_17 hr :), (rl_18 hr :), (rl_19 hr :), (rl_20 hr :), (rl_21 hr :), (rl_22 hr :), E1, (PLR_fr (rl_24 hr :) (Int.le_refl _) rfl rfl (fun k k1 k2 => E2 k (by omega))), (PLR_fr (rl_25 hr :) (Int.le_refl _) rfl rfl (fun k k1 k2 => E2 k (by omega))), (PLR_fr (rl_26 hr :) (Int.le_refl _) rfl rfl (fun k k1 k2 => E2 k (by omega))), (PLR_fr (rl_27 hr :) (Int.le_refl _) rfl rfl (fun k k1 k2 => E2 k (by omega))), (PLR_fr (rl_28 hr :) (Int.le_refl _) rfl rfl (fun k k1 k2 => E2 k (by omega))), (rl_29 hr :), (rl_30 hr :), (rl_31 hr :), (rl_32 hr :), (rl_33 hr :)⟩
      refine zk_LMi (As := [.int (xs (x3 + (1 : Int32)).toNatClampNeg), .int (xs (x3 + (2 : Int32)).toNatClampNeg), .int (xs (x3 + (3 : Int32)).toNatClampNeg), .int (xs (x3 + (4 : Int32)).toNatClampNeg), .int (xs (x3 + (5 : Int32)).toNatClampNeg)]) (rest := []) hE hO hM2 ⟨hx, hb, hml, hown, ht⟩ (cwV 5 ht gl_166 rfl rfl rfl (by decide +kernel) ⟨Nat.le_of_ble_eq_true rfl, Nat.le_of_ble_eq_true rfl⟩) (va_recv hK hP (ci := 12) (q0 := 0) rfl rfl) hP hD hS hK hA rfl hl.1 (Nat.le_of_ble_eq_true rfl) dL_law_1481 ⟨by show _ ≤ 600000; omega, by show _ ≤ 7302250; omega⟩ (fun H locs hP hD hS => ?_)
      refine lv_pop hx hb dL_law_1484 rfl ?_
      refine lv_goto (tgt := 1544) hx hb dL_law_1485 (by decide) ?_
      exact kk _ _ H locs ls _ _ hI2 hJ2 EQ2 (by omega) (by omega) hP hD hS (lv_sub hl [0, 1, 2, 3] rfl)
    · refine lv_aload_n hx hb dL_law_1425 rfl (lv_at hl 1 rfl) ?_
      refine lv_aload_n hx hb dL_law_1426 rfl (lv_at hl 0 rfl) ?_
      refine lv_iload_n hx hb dL_law_1427 rfl (lv_at hl 3 rfl) ?_
      refine lv_iconst (v := (1 : Int32)) hx hb dL_law_1428 (by decide) ?_
      refine lv_iadd hx hb dL_law_1429 ?_
      refine va_sld hx hb hX hbl hbA hS (zl_in h3 hL (by decide)) dL_law_1430 ?_
      refine lv_aload_n hx hb dL_law_1431 rfl (lv_at hl 0 rfl) ?_
      refine lv_iload_n hx hb dL_law_1432 rfl (lv_at hl 3 rfl) ?_
      refine lv_iconst (v := (2 : Int32)) hx hb dL_law_1433 (by decide) ?_
      refine lv_iadd hx hb dL_law_1434 ?_
      refine va_sld hx hb hX hbl hbA hS (zl_in h3 hL (by decide)) dL_law_1435 ?_
      refine lv_aload_n hx hb dL_law_1436 rfl (lv_at hl 0 rfl) ?_
      refine lv_iload_n hx hb dL_law_1437 rfl (lv_at hl 3 rfl) ?_
      refine lv_iconst (v := (3 : Int32)) hx hb dL_law_1438 (by decide) ?_
      refine lv_iadd hx hb dL_law_1439 ?_
      refine va_sld hx hb hX hbl hbA hS (zl_in h3 hL (by decide)) dL_law_1440 ?_
      refine lv_aload_n hx hb dL_law_1441 rfl (lv_at hl 0 rfl) ?_
      refine lv_iload_n hx hb dL_law_1442 rfl (lv_at hl 3 rfl) ?_
      refine lv_iconst (v := (4 : Int32)) hx hb dL_law_1443 (by decide) ?_
      refine lv_iadd hx hb dL_law_1444 ?_
      refine va_sld hx hb hX hbl hbA hS (zl_in h3 hL (by decide)) dL_law_1445 ?_
      refine lv_aload_n hx hb dL_law_1446 rfl (lv_at hl 0 rfl) ?_
      refine lv_iload_n hx hb dL_law_1447 rfl (lv_at hl 3 rfl) ?_
      refine lv_iconst (v := (5 : Int32)) hx hb dL_law_1448 (by decide) ?_
      refine lv_iadd hx hb dL_law_1449 ?_
      refine va_sld hx hb hX hbl hbA hS (zl_in h3 hL (by decide)) dL_law_1450 ?_
      obtain ⟨R1, hf1, hI2, hM1⟩ := K_X11_shift_2_1 l D cs k H.size ad z hI (xs (x3 + (1 : Int32)).toNatClampNeg) (xs (x3 + (2 : Int32)).toNatClampNeg) (xs (x3 + (3 : Int32)).toNatClampNeg) (xs (x3 + (4 : Int32)).toNatClampNeg) (xs (x3 + (5 : Int32)).toNatClampNeg) hp0 hp1
      refine zk_LXi (As := [.int (xs (x3 + (1 : Int32)).toNatClampNeg), .int (xs (x3 + (2 : Int32)).toNatClampNeg), .int (xs (x3 + (3 : Int32)).toNatClampNeg), .int (xs (x3 + (4 : Int32)).toNatClampNeg), .int (xs (x3 + (5 : Int32)).toNatClampNeg)]) (rest := []) hE hO hM1 ⟨hx, hb, hml, hown, ht⟩ (cwV 5 ht gl_162 rfl rfl rfl (by decide +kernel) ⟨Nat.le_of_ble_eq_true rfl, Nat.le_of_ble_eq_true rfl⟩) (va_recv hK hP (ci := 11) (q0 := 44) rfl rfl) hP hD hS hK hA rfl hl.1 (Nat.le_of_ble_eq_true rfl) dL_law_1451 ⟨by show _ ≤ 600000; omega, by show _ ≤ 7302250; omega⟩ (fun H locs hP hD hS => ?_)
      refine lv_pop hx hb dL_law_1454 rfl ?_
      refine lv_aload_n hx hb dL_law_1455 rfl (lv_at hl 2 rfl) ?_
      refine lv_aload_n hx hb dL_law_1456 rfl (lv_at hl 0 rfl) ?_
      refine lv_iload_n hx hb dL_law_1457 rfl (lv_at hl 3 rfl) ?_
      refine lv_iconst (v := (1 : Int32)) hx hb dL_law_1458 (by decide) ?_
      refine lv_iadd hx hb dL_law_1459 ?_
      refine va_sld hx hb hX hbl hbA hS (zl_in h3 hL (by decide)) dL_law_1460 ?_
      refine lv_aload_n hx hb dL_law_1461 rfl (lv_at hl 0 rfl) ?_
      refine lv_iload_n hx hb dL_law_1462 rfl (lv_at hl 3 rfl) ?_
      refine lv_iconst (v := (2 : Int32)) hx hb dL_law_1463 (by decide) ?_
      refine lv_iadd hx hb dL_law_1464 ?_
      refine va_sld hx hb hX hbl hbA hS (zl_in h3 hL (by decide)) dL_law_1465 ?_
      refine lv_aload_n hx hb dL_law_1466 rfl (lv_at hl 0 rfl) ?_
      refine lv_iload_n hx hb dL_law_1467 rfl (lv_at hl 3 rfl) ?_
      refine lv_iconst (v := (3 : Int32)) hx hb dL_law_1468 (by decide) ?_
      refine lv_iadd hx hb dL_law_1469 ?_
      refine va_sld hx hb hX hbl hbA hS (zl_in h3 hL (by decide)) dL_law_1470 ?_
      refine lv_aload_n hx hb dL_law_1471 rfl (lv_at hl 0 rfl) ?_
      refine lv_iload_n hx hb dL_law_1472 rfl (lv_at hl 3 rfl) ?_
      refine lv_iconst (v := (4 : Int32)) hx hb dL_law_1473 (by decide) ?_
      refine lv_iadd hx hb dL_law_1474 ?_
      refine va_sld hx hb hX hbl hbA hS (zl_in h3 hL (by decide)) dL_law_1475 ?_
      refine lv_aload_n hx hb dL_law_1476 rfl (lv_at hl 0 rfl) ?_
      refine lv_iload_n hx hb dL_law_1477 rfl (lv_at hl 3 rfl) ?_
      refine lv_iconst (v := (5 : Int32)) hx hb dL_law_1478 (by decide) ?_
      refine lv_iadd hx hb dL_law_1479 ?_
      refine va_sld hx hb hX hbl hbA hS (zl_in h3 hL (by decide)) dL_law_1480 ?_
      obtain ⟨R2, hf2, hJ2, hM2⟩ := K_X12_shift l D cs k H.size am w hJ (xs (x3 + (1 : Int32)).toNatClampNeg) (xs (x3 + (2 : Int32)).toNatClampNeg) (xs (x3 + (3 : Int32)).toNatClampNeg) (xs (x3 + (4 : Int32)).toNatClampNeg) (xs (x3 + (5 : Int32)).toNatClampNeg)
      have hf3 := hf2
      rw [← (rl_0 hr :), ← (rl_5 hr :), ← (rl_6 hr :), ← (rl_7 hr :), ← (rl_12 hr :), ← (rl_15 hr :), ← (rl_17 hr :)] at hf3
      obtain ⟨EQ, E1, E2⟩ := pw_shiftB hp0 hp1 (rl_25 hr :) (rl_24 hr :) hf1 hf3
      have EQ2 : RL (z.1, z.2.1, (fun n => zc n 3 R1.2 (z.2.2.1 n)), z.2.2.2.1, z.2.2.2.2.1, z.2.2.2.2.2.1, z.2.2.2.2.2.2.1, z.2.2.2.2.2.2.2) (w.1, w.2.1, (fun n => zc n 0 R2.2.1 (zc n 1 R2.2.2 (w.2.2 n)))) := ⟨(rl_0 hr :), (rl_1 hr :), (rl_2 hr :), (rl_3 hr :), (rl_4 hr :), (rl_5 hr :), (rl_6 hr :), (rl_7 hr :), (rl_8 hr :), (rl_9 hr :), (rl_10 hr :), (rl_11 hr :), (rl_12 hr :), (rl_13 hr :), (rl_14 hr :), (rl_15 hr :), (rl_16 hr :), (rl_17 hr :), (rl_18 hr :), (rl_19 hr :), (rl_20 hr :), (rl_21 hr :), (rl_22 hr :), (PLR_fr (rl_23 hr :) (Int.le_refl _) rfl rfl (fun k k1 k2 => E2 k (by omega))), E1, (PLR_fr (rl_25 hr :) (Int.le_refl _) rfl rfl (fun k k1 k2 => E2 k (by omega))), (PLR_fr (rl_26 hr :) (Int.le_refl _) rfl rfl (fun k k1 k2 => E2 k (by omega))), (PLR_fr (rl_27 hr :) (Int.le_refl _) rfl rfl (fun k k1 k2 => E2 k (by omega))), (PLR_fr (rl_28 hr :) (Int.le_refl _) rfl rfl (fun k k1 k2 => E2 k (by omega))), (rl_29 hr :), (rl_30 hr :), (rl_31 hr :), (rl_32 hr :), (rl_33 hr :)⟩
      refine zk_LMi (As := [.int (xs (x3 + (1 : Int32)).toNatClampNeg), .int (xs (x3 + (2 : Int32)).toNatClampNeg), .int (xs (x3 + (3 : Int32)).toNatClampNeg), .int (xs (x3 + (4 : Int32)).toNatClampNeg), .int (xs (x3 + (5 : Int32)).toNatClampNeg)]) (rest := []) hE hO hM2 ⟨hx, hb, hml, hown, ht⟩ (cwV 5 ht gl_166 rfl rfl rfl (by decide +kernel) ⟨Nat.le_of_ble_eq_true rfl, Nat.le_of_ble_eq_true rfl⟩) (va_recv hK hP (ci := 12) (q0 := 0) rfl rfl) hP hD hS hK hA rfl hl.1 (Nat.le_of_ble_eq_true rfl) dL_law_1481 ⟨by show _ ≤ 600000; omega, by show _ ≤ 7302250; omega⟩ (fun H locs hP hD hS => ?_)
      refine lv_pop hx hb dL_law_1484 rfl ?_
      refine lv_goto (tgt := 1544) hx hb dL_law_1485 (by decide) ?_
      exact kk _ _ H locs ls _ _ hI2 hJ2 EQ2 (by omega) (by omega) hP hD hS (lv_sub hl [0, 1, 2, 3] rfl)
    · refine lv_aload_n hx hb dL_law_1425 rfl (lv_at hl 1 rfl) ?_
      refine lv_aload_n hx hb dL_law_1426 rfl (lv_at hl 0 rfl) ?_
      refine lv_iload_n hx hb dL_law_1427 rfl (lv_at hl 3 rfl) ?_
      refine lv_iconst (v := (1 : Int32)) hx hb dL_law_1428 (by decide) ?_
      refine lv_iadd hx hb dL_law_1429 ?_
      refine va_sld hx hb hX hbl hbA hS (zl_in h3 hL (by decide)) dL_law_1430 ?_
      refine lv_aload_n hx hb dL_law_1431 rfl (lv_at hl 0 rfl) ?_
      refine lv_iload_n hx hb dL_law_1432 rfl (lv_at hl 3 rfl) ?_
      refine lv_iconst (v := (2 : Int32)) hx hb dL_law_1433 (by decide) ?_
      refine lv_iadd hx hb dL_law_1434 ?_
      refine va_sld hx hb hX hbl hbA hS (zl_in h3 hL (by decide)) dL_law_1435 ?_
      refine lv_aload_n hx hb dL_law_1436 rfl (lv_at hl 0 rfl) ?_
      refine lv_iload_n hx hb dL_law_1437 rfl (lv_at hl 3 rfl) ?_
      refine lv_iconst (v := (3 : Int32)) hx hb dL_law_1438 (by decide) ?_
      refine lv_iadd hx hb dL_law_1439 ?_
      refine va_sld hx hb hX hbl hbA hS (zl_in h3 hL (by decide)) dL_law_1440 ?_
      refine lv_aload_n hx hb dL_law_1441 rfl (lv_at hl 0 rfl) ?_
      refine lv_iload_n hx hb dL_law_1442 rfl (lv_at hl 3 rfl) ?_
      refine lv_iconst (v := (4 : Int32)) hx hb dL_law_1443 (by decide) ?_
      refine lv_iadd hx hb dL_law_1444 ?_
      refine va_sld hx hb hX hbl hbA hS (zl_in h3 hL (by decide)) dL_law_1445 ?_
      refine lv_aload_n hx hb dL_law_1446 rfl (lv_at hl 0 rfl) ?_
      refine lv_iload_n hx hb dL_law_1447 rfl (lv_at hl 3 rfl) ?_
      refine lv_iconst (v := (5 : Int32)) hx hb dL_law_1448 (by decide) ?_
      refine lv_iadd hx hb dL_law_1449 ?_
      refine va_sld hx hb hX hbl hbA hS (zl_in h3 hL (by decide)) dL_law_1450 ?_
      obtain ⟨R1, hf1, hI2, hM1⟩ := K_X11_shift_2A l D cs k H.size ad z hI (xs (x3 + (1 : Int32)).toNatClampNeg) (xs (x3 + (2 : Int32)).toNatClampNeg) (xs (x3 + (3 : Int32)).toNatClampNeg) (xs (x3 + (4 : Int32)).toNatClampNeg) (xs (x3 + (5 : Int32)).toNatClampNeg) hp0 hp1
      refine zk_LXi (As := [.int (xs (x3 + (1 : Int32)).toNatClampNeg), .int (xs (x3 + (2 : Int32)).toNatClampNeg), .int (xs (x3 + (3 : Int32)).toNatClampNeg), .int (xs (x3 + (4 : Int32)).toNatClampNeg), .int (xs (x3 + (5 : Int32)).toNatClampNeg)]) (rest := []) hE hO hM1 ⟨hx, hb, hml, hown, ht⟩ (cwV 5 ht gl_162 rfl rfl rfl (by decide +kernel) ⟨Nat.le_of_ble_eq_true rfl, Nat.le_of_ble_eq_true rfl⟩) (va_recv hK hP (ci := 11) (q0 := 44) rfl rfl) hP hD hS hK hA rfl hl.1 (Nat.le_of_ble_eq_true rfl) dL_law_1451 ⟨by show _ ≤ 600000; omega, by show _ ≤ 7302250; omega⟩ (fun H locs hP hD hS => ?_)
      refine lv_pop hx hb dL_law_1454 rfl ?_
      refine lv_aload_n hx hb dL_law_1455 rfl (lv_at hl 2 rfl) ?_
      refine lv_aload_n hx hb dL_law_1456 rfl (lv_at hl 0 rfl) ?_
      refine lv_iload_n hx hb dL_law_1457 rfl (lv_at hl 3 rfl) ?_
      refine lv_iconst (v := (1 : Int32)) hx hb dL_law_1458 (by decide) ?_
      refine lv_iadd hx hb dL_law_1459 ?_
      refine va_sld hx hb hX hbl hbA hS (zl_in h3 hL (by decide)) dL_law_1460 ?_
      refine lv_aload_n hx hb dL_law_1461 rfl (lv_at hl 0 rfl) ?_
      refine lv_iload_n hx hb dL_law_1462 rfl (lv_at hl 3 rfl) ?_
      refine lv_iconst (v := (2 : Int32)) hx hb dL_law_1463 (by decide) ?_
      refine lv_iadd hx hb dL_law_1464 ?_
      refine va_sld hx hb hX hbl hbA hS (zl_in h3 hL (by decide)) dL_law_1465 ?_
      refine lv_aload_n hx hb dL_law_1466 rfl (lv_at hl 0 rfl) ?_
      refine lv_iload_n hx hb dL_law_1467 rfl (lv_at hl 3 rfl) ?_
      refine lv_iconst (v := (3 : Int32)) hx hb dL_law_1468 (by decide) ?_
      refine lv_iadd hx hb dL_law_1469 ?_
      refine va_sld hx hb hX hbl hbA hS (zl_in h3 hL (by decide)) dL_law_1470 ?_
      refine lv_aload_n hx hb dL_law_1471 rfl (lv_at hl 0 rfl) ?_
      refine lv_iload_n hx hb dL_law_1472 rfl (lv_at hl 3 rfl) ?_
      refine lv_iconst (v := (4 : Int32)) hx hb dL_law_1473 (by decide) ?_
      refine lv_iadd hx hb dL_law_1474 ?_
      refine va_sld hx hb hX hbl hbA hS (zl_in h3 hL (by decide)) dL_law_1475 ?_
      refine lv_aload_n hx hb dL_law_1476 rfl (lv_at hl 0 rfl) ?_
      refine lv_iload_n hx hb dL_law_1477 rfl (lv_at hl 3 rfl) ?_
      refine lv_iconst (v := (5 : Int32)) hx hb dL_law_1478 (by decide) ?_
      refine lv_iadd hx hb dL_law_1479 ?_
      refine va_sld hx hb hX hbl hbA hS (zl_in h3 hL (by decide)) dL_law_1480 ?_
      obtain ⟨R2, hf2, hJ2, hM2⟩ := K_X12_shift l D cs k H.size am w hJ (xs (x3 + (1 : Int32)).toNatClampNeg) (xs (x3 + (2 : Int32)).toNatClampNeg) (xs (x3 + (3 : Int32)).toNatClampNeg) (xs (x3 + (4 : Int32)).toNatClampNeg) (xs (x3 + (5 : Int32)).toNatClampNeg)
      have hf3 := hf2
      rw [← (rl_0 hr :), ← (rl_5 hr :), ← (rl_6 hr :), ← (rl_7 hr :), ← (rl_12 hr :), ← (rl_15 hr :), ← (rl_17 hr :)] at hf3
      obtain ⟨EQ, E1, E2⟩ := pw_shiftB hp0 hp1 (rl_25 hr :) (rl_25 hr :) (pw_shA hf1) hf3
      have EQ2 : RL (z.1, z.2.1, (fun n => zc n 4 R1.2 (z.2.2.1 n)), z.2.2.2.1, z.2.2.2.2.1, z.2.2.2.2.2.1, z.2.2.2.2.2.2.1, z.2.2.2.2.2.2.2) (w.1, w.2.1, (fun n => zc n 0 R2.2.1 (zc n 1 R2.2.2 (w.2.2 n)))) := ⟨(rl_0 hr :), (rl_1 hr :), (rl_2 hr :), (rl_3 hr :), (rl_4 hr :), (rl_5 hr :), (rl_6 hr :), (rl_7 hr :), (rl_8 hr :), (rl_9 hr :), (rl_10 hr :), (rl_11 hr :), (rl_12 hr :), (rl_13 hr :), (rl_14 hr :), (rl_15 hr :), (rl_16 hr :), (rl_17 hr :), (rl_18 hr :), (rl_19 hr :), (rl_20 hr :), (rl_21 hr :), (rl_22 hr :), (PLR_fr (rl_23 hr :) (Int.le_refl _) rfl rfl (fun k k1 k2 => E2 k (by omega))), (PLR_fr (rl_24 hr :) (Int.le_refl _) rfl rfl (fun k k1 k2 => E2 k (by omega))), E1, (PLR_fr (rl_26 hr :) (Int.le_refl _) rfl rfl (fun k k1 k2 => E2 k (by omega))), (PLR_fr (rl_27 hr :) (Int.le_refl _) rfl rfl (fun k k1 k2 => E2 k (by omega))), (PLR_fr (rl_28 hr :) (Int.le_refl _) rfl rfl (fun k k1 k2 => E2 k (by omega))), (rl_29 hr :), (rl_30 hr :), (rl_31 hr :), (rl_32 hr :), (rl_33 hr :)⟩
      refine zk_LMi (As := [.int (xs (x3 + (1 : Int32)).toNatClampNeg), .int (xs (x3 + (2 : Int32)).toNatClampNeg), .int (xs (x3 + (3 : Int32)).toNatClampNeg), .int (xs (x3 + (4 : Int32)).toNatClampNeg), .int (xs (x3 + (5 : Int32)).toNatClampNeg)]) (rest := []) hE hO hM2 ⟨hx, hb, hml, hown, ht⟩ (cwV 5 ht gl_166 rfl rfl rfl (by decide +kernel) ⟨Nat.le_of_ble_eq_true rfl, Nat.le_of_ble_eq_true rfl⟩) (va_recv hK hP (ci := 12) (q0 := 0) rfl rfl) hP hD hS hK hA rfl hl.1 (Nat.le_of_ble_eq_true rfl) dL_law_1481 ⟨by show _ ≤ 600000; omega, by show _ ≤ 7302250; omega⟩ (fun H locs hP hD hS => ?_)
      refine lv_pop hx hb dL_law_1484 rfl ?_
      refine lv_goto (tgt := 1544) hx hb dL_law_1485 (by decide) ?_
      exact kk _ _ H locs ls _ _ hI2 hJ2 EQ2 (by omega) (by omega) hP hD hS (lv_sub hl [0, 1, 2, 3] rfl)
    · refine lv_aload_n hx hb dL_law_1425 rfl (lv_at hl 1 rfl) ?_
      refine lv_aload_n hx hb dL_law_1426 rfl (lv_at hl 0 rfl) ?_
      refine lv_iload_n hx hb dL_law_1427 rfl (lv_at hl 3 rfl) ?_
      refine lv_iconst (v := (1 : Int32)) hx hb dL_law_1428 (by decide) ?_
      refine lv_iadd hx hb dL_law_1429 ?_
      refine va_sld hx hb hX hbl hbA hS (zl_in h3 hL (by decide)) dL_law_1430 ?_
      refine lv_aload_n hx hb dL_law_1431 rfl (lv_at hl 0 rfl) ?_
      refine lv_iload_n hx hb dL_law_1432 rfl (lv_at hl 3 rfl) ?_
      refine lv_iconst (v := (2 : Int32)) hx hb dL_law_1433 (by decide) ?_
      refine lv_iadd hx hb dL_law_1434 ?_
      refine va_sld hx hb hX hbl hbA hS (zl_in h3 hL (by decide)) dL_law_1435 ?_
      refine lv_aload_n hx hb dL_law_1436 rfl (lv_at hl 0 rfl) ?_
      refine lv_iload_n hx hb dL_law_1437 rfl (lv_at hl 3 rfl) ?_
      refine lv_iconst (v := (3 : Int32)) hx hb dL_law_1438 (by decide) ?_
      refine lv_iadd hx hb dL_law_1439 ?_
      refine va_sld hx hb hX hbl hbA hS (zl_in h3 hL (by decide)) dL_law_1440 ?_
      refine lv_aload_n hx hb dL_law_1441 rfl (lv_at hl 0 rfl) ?_
      refine lv_iload_n hx hb dL_law_1442 rfl (lv_at hl 3 rfl) ?_
      refine lv_iconst (v := (4 : Int32)) hx hb dL_law_1443 (by decide) ?_
      refine lv_iadd hx hb dL_law_1444 ?_
      refine va_sld hx hb hX hbl hbA hS (zl_in h3 hL (by decide)) dL_law_1445 ?_
      refine lv_aload_n hx hb dL_law_1446 rfl (lv_at hl 0 rfl) ?_
      refine lv_iload_n hx hb dL_law_1447 rfl (lv_at hl 3 rfl) ?_
      refine lv_iconst (v := (5 : Int32)) hx hb dL_law_1448 (by decide) ?_
      refine lv_iadd hx hb dL_law_1449 ?_
      refine va_sld hx hb hX hbl hbA hS (zl_in h3 hL (by decide)) dL_law_1450 ?_
      obtain ⟨R1, hf1, hI2, hM1⟩ := K_X11_shift_2_3 l D cs k H.size ad z hI (xs (x3 + (1 : Int32)).toNatClampNeg) (xs (x3 + (2 : Int32)).toNatClampNeg) (xs (x3 + (3 : Int32)).toNatClampNeg) (xs (x3 + (4 : Int32)).toNatClampNeg) (xs (x3 + (5 : Int32)).toNatClampNeg) hp0 hp1
      refine zk_LXi (As := [.int (xs (x3 + (1 : Int32)).toNatClampNeg), .int (xs (x3 + (2 : Int32)).toNatClampNeg), .int (xs (x3 + (3 : Int32)).toNatClampNeg), .int (xs (x3 + (4 : Int32)).toNatClampNeg), .int (xs (x3 + (5 : Int32)).toNatClampNeg)]) (rest := []) hE hO hM1 ⟨hx, hb, hml, hown, ht⟩ (cwV 5 ht gl_162 rfl rfl rfl (by decide +kernel) ⟨Nat.le_of_ble_eq_true rfl, Nat.le_of_ble_eq_true rfl⟩) (va_recv hK hP (ci := 11) (q0 := 44) rfl rfl) hP hD hS hK hA rfl hl.1 (Nat.le_of_ble_eq_true rfl) dL_law_1451 ⟨by show _ ≤ 600000; omega, by show _ ≤ 7302250; omega⟩ (fun H locs hP hD hS => ?_)
      refine lv_pop hx hb dL_law_1454 rfl ?_
      refine lv_aload_n hx hb dL_law_1455 rfl (lv_at hl 2 rfl) ?_
      refine lv_aload_n hx hb dL_law_1456 rfl (lv_at hl 0 rfl) ?_
      refine lv_iload_n hx hb dL_law_1457 rfl (lv_at hl 3 rfl) ?_
      refine lv_iconst (v := (1 : Int32)) hx hb dL_law_1458 (by decide) ?_
      refine lv_iadd hx hb dL_law_1459 ?_
      refine va_sld hx hb hX hbl hbA hS (zl_in h3 hL (by decide)) dL_law_1460 ?_
      refine lv_aload_n hx hb dL_law_1461 rfl (lv_at hl 0 rfl) ?_
      refine lv_iload_n hx hb dL_law_1462 rfl (lv_at hl 3 rfl) ?_
      refine lv_iconst (v := (2 : Int32)) hx hb dL_law_1463 (by decide) ?_
      refine lv_iadd hx hb dL_law_1464 ?_
      refine va_sld hx hb hX hbl hbA hS (zl_in h3 hL (by decide)) dL_law_1465 ?_
      refine lv_aload_n hx hb dL_law_1466 rfl (lv_at hl 0 rfl) ?_
      refine lv_iload_n hx hb dL_law_1467 rfl (lv_at hl 3 rfl) ?_
      refine lv_iconst (v := (3 : Int32)) hx hb dL_law_1468 (by decide) ?_
      refine lv_iadd hx hb dL_law_1469 ?_
      refine va_sld hx hb hX hbl hbA hS (zl_in h3 hL (by decide)) dL_law_1470 ?_
      refine lv_aload_n hx hb dL_law_1471 rfl (lv_at hl 0 rfl) ?_
      refine lv_iload_n hx hb dL_law_1472 rfl (lv_at hl 3 rfl) ?_
      refine lv_iconst (v := (4 : Int32)) hx hb dL_law_1473 (by decide) ?_
      refine lv_iadd hx hb dL_law_1474 ?_
      refine va_sld hx hb hX hbl hbA hS (zl_in h3 hL (by decide)) dL_law_1475 ?_
      refine lv_aload_n hx hb dL_law_1476 rfl (lv_at hl 0 rfl) ?_
      refine lv_iload_n hx hb dL_law_1477 rfl (lv_at hl 3 rfl) ?_
      refine lv_iconst (v := (5 : Int32)) hx hb dL_law_1478 (by decide) ?_
      refine lv_iadd hx hb dL_law_1479 ?_
      refine va_sld hx hb hX hbl hbA hS (zl_in h3 hL (by decide)) dL_law_1480 ?_
      obtain ⟨R2, hf2, hJ2, hM2⟩ := K_X12_shift l D cs k H.size am w hJ (xs (x3 + (1 : Int32)).toNatClampNeg) (xs (x3 + (2 : Int32)).toNatClampNeg) (xs (x3 + (3 : Int32)).toNatClampNeg) (xs (x3 + (4 : Int32)).toNatClampNeg) (xs (x3 + (5 : Int32)).toNatClampNeg)
      have hf3 := hf2
      rw [← (rl_0 hr :), ← (rl_5 hr :), ← (rl_6 hr :), ← (rl_7 hr :), ← (rl_12 hr :), ← (rl_15 hr :), ← (rl_17 hr :)] at hf3
      obtain ⟨EQ, E1, E2⟩ := pw_shiftB hp0 hp1 (rl_25 hr :) (rl_26 hr :) hf1 hf3
      have EQ2 : RL (z.1, z.2.1, (fun n => zc n 5 R1.2 (z.2.2.1 n)), z.2.2.2.1, z.2.2.2.2.1, z.2.2.2.2.2.1, z.2.2.2.2.2.2.1, z.2.2.2.2.2.2.2) (w.1, w.2.1, (fun n => zc n 0 R2.2.1 (zc n 1 R2.2.2 (w.2.2 n)))) := ⟨(rl_0 hr :), (rl_1 hr :), (rl_2 hr :), (rl_3 hr :), (rl_4 hr :), (rl_5 hr :), (rl_6 hr :), (rl_7 hr :), (rl_8 hr :), (rl_9 hr :), (rl_10 hr :), (rl_11 hr :), (rl_12 hr :), (rl_13 hr :), (rl_14 hr :), (rl_15 hr :), (rl_16 hr :), (rl_17 hr :), (rl_18 hr :), (rl_19 hr :), (rl_20 hr :), (rl_21 hr :), (rl_22 hr :), (PLR_fr (rl_23 hr :) (Int.le_refl _) rfl rfl (fun k k1 k2 => E2 k (by omega))), (PLR_fr (rl_24 hr :) (Int.le_refl _) rfl rfl (fun k k1 k2 => E2 k (by omega))), (PLR_fr (rl_25 hr :) (Int.le_refl _) rfl rfl (fun k k1 k2 => E2 k (by omega))), E1, (PLR_fr (rl_27 hr :) (Int.le_refl _) rfl rfl (fun k k1 k2 => E2 k (by omega))), (PLR_fr (rl_28 hr :) (Int.le_refl _) rfl rfl (fun k k1 k2 => E2 k (by omega))), (rl_29 hr :), (rl_30 hr :), (rl_31 hr :), (rl_32 hr :), (rl_33 hr :)⟩
      refine zk_LMi (As := [.int (xs (x3 + (1 : Int32)).toNatClampNeg), .int (xs (x3 + (2 : Int32)).toNatClampNeg), .int (xs (x3 + (3 : Int32)).toNatClampNeg), .int (xs (x3 + (4 : Int32)).toNatClampNeg), .int (xs (x3 + (5 : Int32)).toNatClampNeg)]) (rest := []) hE hO hM2 ⟨hx, hb, hml, hown, ht⟩ (cwV 5 ht gl_166 rfl rfl rfl (by decide +kernel) ⟨Nat.le_of_ble_eq_true rfl, Nat.le_of_ble_eq_true rfl⟩) (va_recv hK hP (ci := 12) (q0 := 0) rfl rfl) hP hD hS hK hA rfl hl.1 (Nat.le_of_ble_eq_true rfl) dL_law_1481 ⟨by show _ ≤ 600000; omega, by show _ ≤ 7302250; omega⟩ (fun H locs hP hD hS => ?_)
      refine lv_pop hx hb dL_law_1484 rfl ?_
      refine lv_goto (tgt := 1544) hx hb dL_law_1485 (by decide) ?_
      exact kk _ _ H locs ls _ _ hI2 hJ2 EQ2 (by omega) (by omega) hP hD hS (lv_sub hl [0, 1, 2, 3] rfl)
    · refine lv_aload_n hx hb dL_law_1425 rfl (lv_at hl 1 rfl) ?_
      refine lv_aload_n hx hb dL_law_1426 rfl (lv_at hl 0 rfl) ?_
      refine lv_iload_n hx hb dL_law_1427 rfl (lv_at hl 3 rfl) ?_
      refine lv_iconst (v := (1 : Int32)) hx hb dL_law_1428 (by decide) ?_
      refine lv_iadd hx hb dL_law_1429 ?_
      refine va_sld hx hb hX hbl hbA hS (zl_in h3 hL (by decide)) dL_law_1430 ?_
      refine lv_aload_n hx hb dL_law_1431 rfl (lv_at hl 0 rfl) ?_
      refine lv_iload_n hx hb dL_law_1432 rfl (lv_at hl 3 rfl) ?_
      refine lv_iconst (v := (2 : Int32)) hx hb dL_law_1433 (by decide) ?_
      refine lv_iadd hx hb dL_law_1434 ?_
      refine va_sld hx hb hX hbl hbA hS (zl_in h3 hL (by decide)) dL_law_1435 ?_
      refine lv_aload_n hx hb dL_law_1436 rfl (lv_at hl 0 rfl) ?_
      refine lv_iload_n hx hb dL_law_1437 rfl (lv_at hl 3 rfl) ?_
      refine lv_iconst (v := (3 : Int32)) hx hb dL_law_1438 (by decide) ?_
      refine lv_iadd hx hb dL_law_1439 ?_
      refine va_sld hx hb hX hbl hbA hS (zl_in h3 hL (by decide)) dL_law_1440 ?_
      refine lv_aload_n hx hb dL_law_1441 rfl (lv_at hl 0 rfl) ?_
      refine lv_iload_n hx hb dL_law_1442 rfl (lv_at hl 3 rfl) ?_
      refine lv_iconst (v := (4 : Int32)) hx hb dL_law_1443 (by decide) ?_
      refine lv_iadd hx hb dL_law_1444 ?_
      refine va_sld hx hb hX hbl hbA hS (zl_in h3 hL (by decide)) dL_law_1445 ?_
      refine lv_aload_n hx hb dL_law_1446 rfl (lv_at hl 0 rfl) ?_
      refine lv_iload_n hx hb dL_law_1447 rfl (lv_at hl 3 rfl) ?_
      refine lv_iconst (v := (5 : Int32)) hx hb dL_law_1448 (by decide) ?_
      refine lv_iadd hx hb dL_law_1449 ?_
      refine va_sld hx hb hX hbl hbA hS (zl_in h3 hL (by decide)) dL_law_1450 ?_
      obtain ⟨R1, hf1, hI2, hM1⟩ := K_X11_shift_2_4 l D cs k H.size ad z hI (xs (x3 + (1 : Int32)).toNatClampNeg) (xs (x3 + (2 : Int32)).toNatClampNeg) (xs (x3 + (3 : Int32)).toNatClampNeg) (xs (x3 + (4 : Int32)).toNatClampNeg) (xs (x3 + (5 : Int32)).toNatClampNeg) hp0 hp1
      refine zk_LXi (As := [.int (xs (x3 + (1 : Int32)).toNatClampNeg), .int (xs (x3 + (2 : Int32)).toNatClampNeg), .int (xs (x3 + (3 : Int32)).toNatClampNeg), .int (xs (x3 + (4 : Int32)).toNatClampNeg), .int (xs (x3 + (5 : Int32)).toNatClampNeg)]) (rest := []) hE hO hM1 ⟨hx, hb, hml, hown, ht⟩ (cwV 5 ht gl_162 rfl rfl rfl (by decide +kernel) ⟨Nat.le_of_ble_eq_true rfl, Nat.le_of_ble_eq_true rfl⟩) (va_recv hK hP (ci := 11) (q0 := 44) rfl rfl) hP hD hS hK hA rfl hl.1 (Nat.le_of_ble_eq_true rfl) dL_law_1451 ⟨by show _ ≤ 600000; omega, by show _ ≤ 7302250; omega⟩ (fun H locs hP hD hS => ?_)
      refine lv_pop hx hb dL_law_1454 rfl ?_
      refine lv_aload_n hx hb dL_law_1455 rfl (lv_at hl 2 rfl) ?_
      refine lv_aload_n hx hb dL_law_1456 rfl (lv_at hl 0 rfl) ?_
      refine lv_iload_n hx hb dL_law_1457 rfl (lv_at hl 3 rfl) ?_
      refine lv_iconst (v := (1 : Int32)) hx hb dL_law_1458 (by decide) ?_
      refine lv_iadd hx hb dL_law_1459 ?_
      refine va_sld hx hb hX hbl hbA hS (zl_in h3 hL (by decide)) dL_law_1460 ?_
      refine lv_aload_n hx hb dL_law_1461 rfl (lv_at hl 0 rfl) ?_
      refine lv_iload_n hx hb dL_law_1462 rfl (lv_at hl 3 rfl) ?_
      refine lv_iconst (v := (2 : Int32)) hx hb dL_law_1463 (by decide) ?_
      refine lv_iadd hx hb dL_law_1464 ?_
      refine va_sld hx hb hX hbl hbA hS (zl_in h3 hL (by decide)) dL_law_1465 ?_
      refine lv_aload_n hx hb dL_law_1466 rfl (lv_at hl 0 rfl) ?_
      refine lv_iload_n hx hb dL_law_1467 rfl (lv_at hl 3 rfl) ?_
      refine lv_iconst (v := (3 : Int32)) hx hb dL_law_1468 (by decide) ?_
      refine lv_iadd hx hb dL_law_1469 ?_
      refine va_sld hx hb hX hbl hbA hS (zl_in h3 hL (by decide)) dL_law_1470 ?_
      refine lv_aload_n hx hb dL_law_1471 rfl (lv_at hl 0 rfl) ?_
      refine lv_iload_n hx hb dL_law_1472 rfl (lv_at hl 3 rfl) ?_
      refine lv_iconst (v := (4 : Int32)) hx hb dL_law_1473 (by decide) ?_
      refine lv_iadd hx hb dL_law_1474 ?_
      refine va_sld hx hb hX hbl hbA hS (zl_in h3 hL (by decide)) dL_law_1475 ?_
      refine lv_aload_n hx hb dL_law_1476 rfl (lv_at hl 0 rfl) ?_
      refine lv_iload_n hx hb dL_law_1477 rfl (lv_at hl 3 rfl) ?_
      refine lv_iconst (v := (5 : Int32)) hx hb dL_law_1478 (by decide) ?_
      refine lv_iadd hx hb dL_law_1479 ?_
      refine va_sld hx hb hX hbl hbA hS (zl_in h3 hL (by decide)) dL_law_1480 ?_
      obtain ⟨R2, hf2, hJ2, hM2⟩ := K_X12_shift l D cs k H.size am w hJ (xs (x3 + (1 : Int32)).toNatClampNeg) (xs (x3 + (2 : Int32)).toNatClampNeg) (xs (x3 + (3 : Int32)).toNatClampNeg) (xs (x3 + (4 : Int32)).toNatClampNeg) (xs (x3 + (5 : Int32)).toNatClampNeg)
      have hf3 := hf2
      rw [← (rl_0 hr :), ← (rl_5 hr :), ← (rl_6 hr :), ← (rl_7 hr :), ← (rl_12 hr :), ← (rl_15 hr :), ← (rl_17 hr :)] at hf3
      obtain ⟨EQ, E1, E2⟩ := pw_shiftB hp0 hp1 (rl_25 hr :) (rl_27 hr :) hf1 hf3
      have EQ2 : RL (z.1, z.2.1, (fun n => zc n 6 R1.2 (z.2.2.1 n)), z.2.2.2.1, z.2.2.2.2.1, z.2.2.2.2.2.1, z.2.2.2.2.2.2.1, z.2.2.2.2.2.2.2) (w.1, w.2.1, (fun n => zc n 0 R2.2.1 (zc n 1 R2.2.2 (w.2.2 n)))) := ⟨(rl_0 hr :), (rl_1 hr :), (rl_2 hr :), (rl_3 hr :), (rl_4 hr :), (rl_5 hr :), (rl_6 hr :), (rl_7 hr :), (rl_8 hr :), (rl_9 hr :), (rl_10 hr :), (rl_11 hr :), (rl_12 hr :), (rl_13 hr :), (rl_14 hr :), (rl_15 hr :), (rl_16 hr :), (rl_17 hr :), (rl_18 hr :), (rl_19 hr :), (rl_20 hr :), (rl_21 hr :), (rl_22 hr :), (PLR_fr (rl_23 hr :) (Int.le_refl _) rfl rfl (fun k k1 k2 => E2 k (by omega))), (PLR_fr (rl_24 hr :) (Int.le_refl _) rfl rfl (fun k k1 k2 => E2 k (by omega))), (PLR_fr (rl_25 hr :) (Int.le_refl _) rfl rfl (fun k k1 k2 => E2 k (by omega))), (PLR_fr (rl_26 hr :) (Int.le_refl _) rfl rfl (fun k k1 k2 => E2 k (by omega))), E1, (PLR_fr (rl_28 hr :) (Int.le_refl _) rfl rfl (fun k k1 k2 => E2 k (by omega))), (rl_29 hr :), (rl_30 hr :), (rl_31 hr :), (rl_32 hr :), (rl_33 hr :)⟩
      refine zk_LMi (As := [.int (xs (x3 + (1 : Int32)).toNatClampNeg), .int (xs (x3 + (2 : Int32)).toNatClampNeg), .int (xs (x3 + (3 : Int32)).toNatClampNeg), .int (xs (x3 + (4 : Int32)).toNatClampNeg), .int (xs (x3 + (5 : Int32)).toNatClampNeg)]) (rest := []) hE hO hM2 ⟨hx, hb, hml, hown, ht⟩ (cwV 5 ht gl_166 rfl rfl rfl (by decide +kernel) ⟨Nat.le_of_ble_eq_true rfl, Nat.le_of_ble_eq_true rfl⟩) (va_recv hK hP (ci := 12) (q0 := 0) rfl rfl) hP hD hS hK hA rfl hl.1 (Nat.le_of_ble_eq_true rfl) dL_law_1481 ⟨by show _ ≤ 600000; omega, by show _ ≤ 7302250; omega⟩ (fun H locs hP hD hS => ?_)
      refine lv_pop hx hb dL_law_1484 rfl ?_
      refine lv_goto (tgt := 1544) hx hb dL_law_1485 (by decide) ?_
      exact kk _ _ H locs ls _ _ hI2 hJ2 EQ2 (by omega) (by omega) hP hD hS (lv_sub hl [0, 1, 2, 3] rfl)
    · refine lv_aload_n hx hb dL_law_1425 rfl (lv_at hl 1 rfl) ?_
      refine lv_aload_n hx hb dL_law_1426 rfl (lv_at hl 0 rfl) ?_
      refine lv_iload_n hx hb dL_law_1427 rfl (lv_at hl 3 rfl) ?_
      refine lv_iconst (v := (1 : Int32)) hx hb dL_law_1428 (by decide) ?_
      refine lv_iadd hx hb dL_law_1429 ?_
      refine va_sld hx hb hX hbl hbA hS (zl_in h3 hL (by decide)) dL_law_1430 ?_
      refine lv_aload_n hx hb dL_law_1431 rfl (lv_at hl 0 rfl) ?_
      refine lv_iload_n hx hb dL_law_1432 rfl (lv_at hl 3 rfl) ?_
      refine lv_iconst (v := (2 : Int32)) hx hb dL_law_1433 (by decide) ?_
      refine lv_iadd hx hb dL_law_1434 ?_
      refine va_sld hx hb hX hbl hbA hS (zl_in h3 hL (by decide)) dL_law_1435 ?_
      refine lv_aload_n hx hb dL_law_1436 rfl (lv_at hl 0 rfl) ?_
      refine lv_iload_n hx hb dL_law_1437 rfl (lv_at hl 3 rfl) ?_
      refine lv_iconst (v := (3 : Int32)) hx hb dL_law_1438 (by decide) ?_
      refine lv_iadd hx hb dL_law_1439 ?_
      refine va_sld hx hb hX hbl hbA hS (zl_in h3 hL (by decide)) dL_law_1440 ?_
      refine lv_aload_n hx hb dL_law_1441 rfl (lv_at hl 0 rfl) ?_
      refine lv_iload_n hx hb dL_law_1442 rfl (lv_at hl 3 rfl) ?_
      refine lv_iconst (v := (4 : Int32)) hx hb dL_law_1443 (by decide) ?_
      refine lv_iadd hx hb dL_law_1444 ?_
      refine va_sld hx hb hX hbl hbA hS (zl_in h3 hL (by decide)) dL_law_1445 ?_
      refine lv_aload_n hx hb dL_law_1446 rfl (lv_at hl 0 rfl) ?_
      refine lv_iload_n hx hb dL_law_1447 rfl (lv_at hl 3 rfl) ?_
      refine lv_iconst (v := (5 : Int32)) hx hb dL_law_1448 (by decide) ?_
      refine lv_iadd hx hb dL_law_1449 ?_
      refine va_sld hx hb hX hbl hbA hS (zl_in h3 hL (by decide)) dL_law_1450 ?_
      obtain ⟨R1, hf1, hI2, hM1⟩ := K_X11_shift_2_5 l D cs k H.size ad z hI (xs (x3 + (1 : Int32)).toNatClampNeg) (xs (x3 + (2 : Int32)).toNatClampNeg) (xs (x3 + (3 : Int32)).toNatClampNeg) (xs (x3 + (4 : Int32)).toNatClampNeg) (xs (x3 + (5 : Int32)).toNatClampNeg) hp0 hp1
      refine zk_LXi (As := [.int (xs (x3 + (1 : Int32)).toNatClampNeg), .int (xs (x3 + (2 : Int32)).toNatClampNeg), .int (xs (x3 + (3 : Int32)).toNatClampNeg), .int (xs (x3 + (4 : Int32)).toNatClampNeg), .int (xs (x3 + (5 : Int32)).toNatClampNeg)]) (rest := []) hE hO hM1 ⟨hx, hb, hml, hown, ht⟩ (cwV 5 ht gl_162 rfl rfl rfl (by decide +kernel) ⟨Nat.le_of_ble_eq_true rfl, Nat.le_of_ble_eq_true rfl⟩) (va_recv hK hP (ci := 11) (q0 := 44) rfl rfl) hP hD hS hK hA rfl hl.1 (Nat.le_of_ble_eq_true rfl) dL_law_1451 ⟨by show _ ≤ 600000; omega, by show _ ≤ 7302250; omega⟩ (fun H locs hP hD hS => ?_)
      refine lv_pop hx hb dL_law_1454 rfl ?_
      refine lv_aload_n hx hb dL_law_1455 rfl (lv_at hl 2 rfl) ?_
      refine lv_aload_n hx hb dL_law_1456 rfl (lv_at hl 0 rfl) ?_
      refine lv_iload_n hx hb dL_law_1457 rfl (lv_at hl 3 rfl) ?_
      refine lv_iconst (v := (1 : Int32)) hx hb dL_law_1458 (by decide) ?_
      refine lv_iadd hx hb dL_law_1459 ?_
      refine va_sld hx hb hX hbl hbA hS (zl_in h3 hL (by decide)) dL_law_1460 ?_
      refine lv_aload_n hx hb dL_law_1461 rfl (lv_at hl 0 rfl) ?_
      refine lv_iload_n hx hb dL_law_1462 rfl (lv_at hl 3 rfl) ?_
      refine lv_iconst (v := (2 : Int32)) hx hb dL_law_1463 (by decide) ?_
      refine lv_iadd hx hb dL_law_1464 ?_
      refine va_sld hx hb hX hbl hbA hS (zl_in h3 hL (by decide)) dL_law_1465 ?_
      refine lv_aload_n hx hb dL_law_1466 rfl (lv_at hl 0 rfl) ?_
      refine lv_iload_n hx hb dL_law_1467 rfl (lv_at hl 3 rfl) ?_
      refine lv_iconst (v := (3 : Int32)) hx hb dL_law_1468 (by decide) ?_
      refine lv_iadd hx hb dL_law_1469 ?_
      refine va_sld hx hb hX hbl hbA hS (zl_in h3 hL (by decide)) dL_law_1470 ?_
      refine lv_aload_n hx hb dL_law_1471 rfl (lv_at hl 0 rfl) ?_
      refine lv_iload_n hx hb dL_law_1472 rfl (lv_at hl 3 rfl) ?_
      refine lv_iconst (v := (4 : Int32)) hx hb dL_law_1473 (by decide) ?_
      refine lv_iadd hx hb dL_law_1474 ?_
      refine va_sld hx hb hX hbl hbA hS (zl_in h3 hL (by decide)) dL_law_1475 ?_
      refine lv_aload_n hx hb dL_law_1476 rfl (lv_at hl 0 rfl) ?_
      refine lv_iload_n hx hb dL_law_1477 rfl (lv_at hl 3 rfl) ?_
      refine lv_iconst (v := (5 : Int32)) hx hb dL_law_1478 (by decide) ?_
      refine lv_iadd hx hb dL_law_1479 ?_
      refine va_sld hx hb hX hbl hbA hS (zl_in h3 hL (by decide)) dL_law_1480 ?_
      obtain ⟨R2, hf2, hJ2, hM2⟩ := K_X12_shift l D cs k H.size am w hJ (xs (x3 + (1 : Int32)).toNatClampNeg) (xs (x3 + (2 : Int32)).toNatClampNeg) (xs (x3 + (3 : Int32)).toNatClampNeg) (xs (x3 + (4 : Int32)).toNatClampNeg) (xs (x3 + (5 : Int32)).toNatClampNeg)
      have hf3 := hf2
      rw [← (rl_0 hr :), ← (rl_5 hr :), ← (rl_6 hr :), ← (rl_7 hr :), ← (rl_12 hr :), ← (rl_15 hr :), ← (rl_17 hr :)] at hf3
      obtain ⟨EQ, E1, E2⟩ := pw_shiftB hp0 hp1 (rl_25 hr :) (rl_28 hr :) hf1 hf3
      have EQ2 : RL (z.1, z.2.1, (fun n => zc n 7 R1.2 (z.2.2.1 n)), z.2.2.2.1, z.2.2.2.2.1, z.2.2.2.2.2.1, z.2.2.2.2.2.2.1, z.2.2.2.2.2.2.2) (w.1, w.2.1, (fun n => zc n 0 R2.2.1 (zc n 1 R2.2.2 (w.2.2 n)))) := ⟨(rl_0 hr :), (rl_1 hr :), (rl_2 hr :), (rl_3 hr :), (rl_4 hr :), (rl_5 hr :), (rl_6 hr :), (rl_7 hr :), (rl_8 hr :), (rl_9 hr :), (rl_10 hr :), (rl_11 hr :), (rl_12 hr :), (rl_13 hr :), (rl_14 hr :), (rl_15 hr :), (rl_16 hr :), (rl_17 hr :), (rl_18 hr :), (rl_19 hr :), (rl_20 hr :), (rl_21 hr :), (rl_22 hr :), (PLR_fr (rl_23 hr :) (Int.le_refl _) rfl rfl (fun k k1 k2 => E2 k (by omega))), (PLR_fr (rl_24 hr :) (Int.le_refl _) rfl rfl (fun k k1 k2 => E2 k (by omega))), (PLR_fr (rl_25 hr :) (Int.le_refl _) rfl rfl (fun k k1 k2 => E2 k (by omega))), (PLR_fr (rl_26 hr :) (Int.le_refl _) rfl rfl (fun k k1 k2 => E2 k (by omega))), (PLR_fr (rl_27 hr :) (Int.le_refl _) rfl rfl (fun k k1 k2 => E2 k (by omega))), E1, (rl_29 hr :), (rl_30 hr :), (rl_31 hr :), (rl_32 hr :), (rl_33 hr :)⟩
      refine zk_LMi (As := [.int (xs (x3 + (1 : Int32)).toNatClampNeg), .int (xs (x3 + (2 : Int32)).toNatClampNeg), .int (xs (x3 + (3 : Int32)).toNatClampNeg), .int (xs (x3 + (4 : Int32)).toNatClampNeg), .int (xs (x3 + (5 : Int32)).toNatClampNeg)]) (rest := []) hE hO hM2 ⟨hx, hb, hml, hown, ht⟩ (cwV 5 ht gl_166 rfl rfl rfl (by decide +kernel) ⟨Nat.le_of_ble_eq_true rfl, Nat.le_of_ble_eq_true rfl⟩) (va_recv hK hP (ci := 12) (q0 := 0) rfl rfl) hP hD hS hK hA rfl hl.1 (Nat.le_of_ble_eq_true rfl) dL_law_1481 ⟨by show _ ≤ 600000; omega, by show _ ≤ 7302250; omega⟩ (fun H locs hP hD hS => ?_)
      refine lv_pop hx hb dL_law_1484 rfl ?_
      refine lv_goto (tgt := 1544) hx hb dL_law_1485 (by decide) ?_
      exact kk _ _ H locs ls _ _ hI2 hJ2 EQ2 (by omega) (by omega) hP hD hS (lv_sub hl [0, 1, 2, 3] rfl)
  · obtain ⟨j1, hj1, hp1⟩ := zk_pl (xs (x3 + (3 : Int32)).toNatClampNeg)
    rcases (show j1 = 0 ∨ j1 = 1 ∨ j1 = 2 ∨ j1 = 3 ∨ j1 = 4 ∨ j1 = 5 by omega) with rfl | rfl | rfl | rfl | rfl | rfl
    · refine lv_aload_n hx hb dL_law_1425 rfl (lv_at hl 1 rfl) ?_
      refine lv_aload_n hx hb dL_law_1426 rfl (lv_at hl 0 rfl) ?_
      refine lv_iload_n hx hb dL_law_1427 rfl (lv_at hl 3 rfl) ?_
      refine lv_iconst (v := (1 : Int32)) hx hb dL_law_1428 (by decide) ?_
      refine lv_iadd hx hb dL_law_1429 ?_
      refine va_sld hx hb hX hbl hbA hS (zl_in h3 hL (by decide)) dL_law_1430 ?_
      refine lv_aload_n hx hb dL_law_1431 rfl (lv_at hl 0 rfl) ?_
      refine lv_iload_n hx hb dL_law_1432 rfl (lv_at hl 3 rfl) ?_
      refine lv_iconst (v := (2 : Int32)) hx hb dL_law_1433 (by decide) ?_
      refine lv_iadd hx hb dL_law_1434 ?_
      refine va_sld hx hb hX hbl hbA hS (zl_in h3 hL (by decide)) dL_law_1435 ?_
      refine lv_aload_n hx hb dL_law_1436 rfl (lv_at hl 0 rfl) ?_
      refine lv_iload_n hx hb dL_law_1437 rfl (lv_at hl 3 rfl) ?_
      refine lv_iconst (v := (3 : Int32)) hx hb dL_law_1438 (by decide) ?_
      refine lv_iadd hx hb dL_law_1439 ?_
      refine va_sld hx hb hX hbl hbA hS (zl_in h3 hL (by decide)) dL_law_1440 ?_
      refine lv_aload_n hx hb dL_law_1441 rfl (lv_at hl 0 rfl) ?_
      refine lv_iload_n hx hb dL_law_1442 rfl (lv_at hl 3 rfl) ?_
      refine lv_iconst (v := (4 : Int32)) hx hb dL_law_1443 (by decide) ?_
      refine lv_iadd hx hb dL_law_1444 ?_
      refine va_sld hx hb hX hbl hbA hS (zl_in h3 hL (by decide)) dL_law_1445 ?_
      refine lv_aload_n hx hb dL_law_1446 rfl (lv_at hl 0 rfl) ?_
      refine lv_iload_n hx hb dL_law_1447 rfl (lv_at hl 3 rfl) ?_
      refine lv_iconst (v := (5 : Int32)) hx hb dL_law_1448 (by decide) ?_
      refine lv_iadd hx hb dL_law_1449 ?_
      refine va_sld hx hb hX hbl hbA hS (zl_in h3 hL (by decide)) dL_law_1450 ?_
      obtain ⟨R1, hf1, hI2, hM1⟩ := K_X11_shift_3_0 l D cs k H.size ad z hI (xs (x3 + (1 : Int32)).toNatClampNeg) (xs (x3 + (2 : Int32)).toNatClampNeg) (xs (x3 + (3 : Int32)).toNatClampNeg) (xs (x3 + (4 : Int32)).toNatClampNeg) (xs (x3 + (5 : Int32)).toNatClampNeg) hp0 hp1
      refine zk_LXi (As := [.int (xs (x3 + (1 : Int32)).toNatClampNeg), .int (xs (x3 + (2 : Int32)).toNatClampNeg), .int (xs (x3 + (3 : Int32)).toNatClampNeg), .int (xs (x3 + (4 : Int32)).toNatClampNeg), .int (xs (x3 + (5 : Int32)).toNatClampNeg)]) (rest := []) hE hO hM1 ⟨hx, hb, hml, hown, ht⟩ (cwV 5 ht gl_162 rfl rfl rfl (by decide +kernel) ⟨Nat.le_of_ble_eq_true rfl, Nat.le_of_ble_eq_true rfl⟩) (va_recv hK hP (ci := 11) (q0 := 44) rfl rfl) hP hD hS hK hA rfl hl.1 (Nat.le_of_ble_eq_true rfl) dL_law_1451 ⟨by show _ ≤ 600000; omega, by show _ ≤ 7302250; omega⟩ (fun H locs hP hD hS => ?_)
      refine lv_pop hx hb dL_law_1454 rfl ?_
      refine lv_aload_n hx hb dL_law_1455 rfl (lv_at hl 2 rfl) ?_
      refine lv_aload_n hx hb dL_law_1456 rfl (lv_at hl 0 rfl) ?_
      refine lv_iload_n hx hb dL_law_1457 rfl (lv_at hl 3 rfl) ?_
      refine lv_iconst (v := (1 : Int32)) hx hb dL_law_1458 (by decide) ?_
      refine lv_iadd hx hb dL_law_1459 ?_
      refine va_sld hx hb hX hbl hbA hS (zl_in h3 hL (by decide)) dL_law_1460 ?_
      refine lv_aload_n hx hb dL_law_1461 rfl (lv_at hl 0 rfl) ?_
      refine lv_iload_n hx hb dL_law_1462 rfl (lv_at hl 3 rfl) ?_
      refine lv_iconst (v := (2 : Int32)) hx hb dL_law_1463 (by decide) ?_
      refine lv_iadd hx hb dL_law_1464 ?_
      refine va_sld hx hb hX hbl hbA hS (zl_in h3 hL (by decide)) dL_law_1465 ?_
      refine lv_aload_n hx hb dL_law_1466 rfl (lv_at hl 0 rfl) ?_
      refine lv_iload_n hx hb dL_law_1467 rfl (lv_at hl 3 rfl) ?_
      refine lv_iconst (v := (3 : Int32)) hx hb dL_law_1468 (by decide) ?_
      refine lv_iadd hx hb dL_law_1469 ?_
      refine va_sld hx hb hX hbl hbA hS (zl_in h3 hL (by decide)) dL_law_1470 ?_
      refine lv_aload_n hx hb dL_law_1471 rfl (lv_at hl 0 rfl) ?_
      refine lv_iload_n hx hb dL_law_1472 rfl (lv_at hl 3 rfl) ?_
      refine lv_iconst (v := (4 : Int32)) hx hb dL_law_1473 (by decide) ?_
      refine lv_iadd hx hb dL_law_1474 ?_
      refine va_sld hx hb hX hbl hbA hS (zl_in h3 hL (by decide)) dL_law_1475 ?_
      refine lv_aload_n hx hb dL_law_1476 rfl (lv_at hl 0 rfl) ?_
      refine lv_iload_n hx hb dL_law_1477 rfl (lv_at hl 3 rfl) ?_
      refine lv_iconst (v := (5 : Int32)) hx hb dL_law_1478 (by decide) ?_
      refine lv_iadd hx hb dL_law_1479 ?_
      refine va_sld hx hb hX hbl hbA hS (zl_in h3 hL (by decide)) dL_law_1480 ?_
      obtain ⟨R2, hf2, hJ2, hM2⟩ := K_X12_shift l D cs k H.size am w hJ (xs (x3 + (1 : Int32)).toNatClampNeg) (xs (x3 + (2 : Int32)).toNatClampNeg) (xs (x3 + (3 : Int32)).toNatClampNeg) (xs (x3 + (4 : Int32)).toNatClampNeg) (xs (x3 + (5 : Int32)).toNatClampNeg)
      have hf3 := hf2
      rw [← (rl_0 hr :), ← (rl_5 hr :), ← (rl_6 hr :), ← (rl_7 hr :), ← (rl_12 hr :), ← (rl_15 hr :), ← (rl_17 hr :)] at hf3
      obtain ⟨EQ, E1, E2⟩ := pw_shiftB hp0 hp1 (rl_26 hr :) (rl_23 hr :) hf1 hf3
      have EQ2 : RL (z.1, z.2.1, (fun n => zc n 2 R1.2 (z.2.2.1 n)), z.2.2.2.1, z.2.2.2.2.1, z.2.2.2.2.2.1, z.2.2.2.2.2.2.1, z.2.2.2.2.2.2.2) (w.1, w.2.1, (fun n => zc n 0 R2.2.1 (zc n 1 R2.2.2 (w.2.2 n)))) := ⟨(rl_0 hr :), (rl_1 hr :), (rl_2 hr :), (rl_3 hr :), (rl_4 hr :), (rl_5 hr :), (rl_6 hr :), (rl_7 hr :), (rl_8 hr :), (rl_9 hr :), (rl_10 hr :), (rl_11 hr :), (rl_12 hr :), (rl_13 hr :), (rl_14 hr :), (rl_15 hr :), (rl_16 hr :), (rl_17 hr :), (rl_18 hr :), (rl_19 hr :), (rl_20 hr :), (rl_21 hr :), (rl_22 hr :), E1, (PLR_fr (rl_24 hr :) (Int.le_refl _) rfl rfl (fun k k1 k2 => E2 k (by omega))), (PLR_fr (rl_25 hr :) (Int.le_refl _) rfl rfl (fun k k1 k2 => E2 k (by omega))), (PLR_fr (rl_26 hr :) (Int.le_refl _) rfl rfl (fun k k1 k2 => E2 k (by omega))), (PLR_fr (rl_27 hr :) (Int.le_refl _) rfl rfl (fun k k1 k2 => E2 k (by omega))), (PLR_fr (rl_28 hr :) (Int.le_refl _) rfl rfl (fun k k1 k2 => E2 k (by omega))), (rl_29 hr :), (rl_30 hr :), (rl_31 hr :), (rl_32 hr :), (rl_33 hr :)⟩
      refine zk_LMi (As := [.int (xs (x3 + (1 : Int32)).toNatClampNeg), .int (xs (x3 + (2 : Int32)).toNatClampNeg), .int (xs (x3 + (3 : Int32)).toNatClampNeg), .int (xs (x3 + (4 : Int32)).toNatClampNeg), .int (xs (x3 + (5 : Int32)).toNatClampNeg)]) (rest := []) hE hO hM2 ⟨hx, hb, hml, hown, ht⟩ (cwV 5 ht gl_166 rfl rfl rfl (by decide +kernel) ⟨Nat.le_of_ble_eq_true rfl, Nat.le_of_ble_eq_true rfl⟩) (va_recv hK hP (ci := 12) (q0 := 0) rfl rfl) hP hD hS hK hA rfl hl.1 (Nat.le_of_ble_eq_true rfl) dL_law_1481 ⟨by show _ ≤ 600000; omega, by show _ ≤ 7302250; omega⟩ (fun H locs hP hD hS => ?_)
      refine lv_pop hx hb dL_law_1484 rfl ?_
      refine lv_goto (tgt := 1544) hx hb dL_law_1485 (by decide) ?_
      exact kk _ _ H locs ls _ _ hI2 hJ2 EQ2 (by omega) (by omega) hP hD hS (lv_sub hl [0, 1, 2, 3] rfl)
    · refine lv_aload_n hx hb dL_law_1425 rfl (lv_at hl 1 rfl) ?_
      refine lv_aload_n hx hb dL_law_1426 rfl (lv_at hl 0 rfl) ?_
      refine lv_iload_n hx hb dL_law_1427 rfl (lv_at hl 3 rfl) ?_
      refine lv_iconst (v := (1 : Int32)) hx hb dL_law_1428 (by decide) ?_
      refine lv_iadd hx hb dL_law_1429 ?_
      refine va_sld hx hb hX hbl hbA hS (zl_in h3 hL (by decide)) dL_law_1430 ?_
      refine lv_aload_n hx hb dL_law_1431 rfl (lv_at hl 0 rfl) ?_
      refine lv_iload_n hx hb dL_law_1432 rfl (lv_at hl 3 rfl) ?_
      refine lv_iconst (v := (2 : Int32)) hx hb dL_law_1433 (by decide) ?_
      refine lv_iadd hx hb dL_law_1434 ?_
      refine va_sld hx hb hX hbl hbA hS (zl_in h3 hL (by decide)) dL_law_1435 ?_
      refine lv_aload_n hx hb dL_law_1436 rfl (lv_at hl 0 rfl) ?_
      refine lv_iload_n hx hb dL_law_1437 rfl (lv_at hl 3 rfl) ?_
      refine lv_iconst (v := (3 : Int32)) hx hb dL_law_1438 (by decide) ?_
      refine lv_iadd hx hb dL_law_1439 ?_
      refine va_sld hx hb hX hbl hbA hS (zl_in h3 hL (by decide)) dL_law_1440 ?_
      refine lv_aload_n hx hb dL_law_1441 rfl (lv_at hl 0 rfl) ?_
      refine lv_iload_n hx hb dL_law_1442 rfl (lv_at hl 3 rfl) ?_
      refine lv_iconst (v := (4 : Int32)) hx hb dL_law_1443 (by decide) ?_
      refine lv_iadd hx hb dL_law_1444 ?_
      refine va_sld hx hb hX hbl hbA hS (zl_in h3 hL (by decide)) dL_law_1445 ?_
      refine lv_aload_n hx hb dL_law_1446 rfl (lv_at hl 0 rfl) ?_
      refine lv_iload_n hx hb dL_law_1447 rfl (lv_at hl 3 rfl) ?_
      refine lv_iconst (v := (5 : Int32)) hx hb dL_law_1448 (by decide) ?_
      refine lv_iadd hx hb dL_law_1449 ?_
      refine va_sld hx hb hX hbl hbA hS (zl_in h3 hL (by decide)) dL_law_1450 ?_
      obtain ⟨R1, hf1, hI2, hM1⟩ := K_X11_shift_3_1 l D cs k H.size ad z hI (xs (x3 + (1 : Int32)).toNatClampNeg) (xs (x3 + (2 : Int32)).toNatClampNeg) (xs (x3 + (3 : Int32)).toNatClampNeg) (xs (x3 + (4 : Int32)).toNatClampNeg) (xs (x3 + (5 : Int32)).toNatClampNeg) hp0 hp1
      refine zk_LXi (As := [.int (xs (x3 + (1 : Int32)).toNatClampNeg), .int (xs (x3 + (2 : Int32)).toNatClampNeg), .int (xs (x3 + (3 : Int32)).toNatClampNeg), .int (xs (x3 + (4 : Int32)).toNatClampNeg), .int (xs (x3 + (5 : Int32)).toNatClampNeg)]) (rest := []) hE hO hM1 ⟨hx, hb, hml, hown, ht⟩ (cwV 5 ht gl_162 rfl rfl rfl (by decide +kernel) ⟨Nat.le_of_ble_eq_true rfl, Nat.le_of_ble_eq_true rfl⟩) (va_recv hK hP (ci := 11) (q0 := 44) rfl rfl) hP hD hS hK hA rfl hl.1 (Nat.le_of_ble_eq_true rfl) dL_law_1451 ⟨by show _ ≤ 600000; omega, by show _ ≤ 7302250; omega⟩ (fun H locs hP hD hS => ?_)
      refine lv_pop hx hb dL_law_1454 rfl ?_
      refine lv_aload_n hx hb dL_law_1455 rfl (lv_at hl 2 rfl) ?_
      refine lv_aload_n hx hb dL_law_1456 rfl (lv_at hl 0 rfl) ?_
      refine lv_iload_n hx hb dL_law_1457 rfl (lv_at hl 3 rfl) ?_
      refine lv_iconst (v := (1 : Int32)) hx hb dL_law_1458 (by decide) ?_
      refine lv_iadd hx hb dL_law_1459 ?_
      refine va_sld hx hb hX hbl hbA hS (zl_in h3 hL (by decide)) dL_law_1460 ?_
      refine lv_aload_n hx hb dL_law_1461 rfl (lv_at hl 0 rfl) ?_
      refine lv_iload_n hx hb dL_law_1462 rfl (lv_at hl 3 rfl) ?_
      refine lv_iconst (v := (2 : Int32)) hx hb dL_law_1463 (by decide) ?_
      refine lv_iadd hx hb dL_law_1464 ?_
      refine va_sld hx hb hX hbl hbA hS (zl_in h3 hL (by decide)) dL_law_1465 ?_
      refine lv_aload_n hx hb dL_law_1466 rfl (lv_at hl 0 rfl) ?_
      refine lv_iload_n hx hb dL_law_1467 rfl (lv_at hl 3 rfl) ?_
      refine lv_iconst (v := (3 : Int32)) hx hb dL_law_1468 (by decide) ?_
      refine lv_iadd hx hb dL_law_1469 ?_
      refine va_sld hx hb hX hbl hbA hS (zl_in h3 hL (by decide)) dL_law_1470 ?_
      refine lv_aload_n hx hb dL_law_1471 rfl (lv_at hl 0 rfl) ?_
      refine lv_iload_n hx hb dL_law_1472 rfl (lv_at hl 3 rfl) ?_
      refine lv_iconst (v := (4 : Int32)) hx hb dL_law_1473 (by decide) ?_
      refine lv_iadd hx hb dL_law_1474 ?_
      refine va_sld hx hb hX hbl hbA hS (zl_in h3 hL (by decide)) dL_law_1475 ?_
      refine lv_aload_n hx hb dL_law_1476 rfl (lv_at hl 0 rfl) ?_
      refine lv_iload_n hx hb dL_law_1477 rfl (lv_at hl 3 rfl) ?_
      refine lv_iconst (v := (5 : Int32)) hx hb dL_law_1478 (by decide) ?_
      refine lv_iadd hx hb dL_law_1479 ?_
      refine va_sld hx hb hX hbl hbA hS (zl_in h3 hL (by decide)) dL_law_1480 ?_
      obtain ⟨R2, hf2, hJ2, hM2⟩ := K_X12_shift l D cs k H.size am w hJ (xs (x3 + (1 : Int32)).toNatClampNeg) (xs (x3 + (2 : Int32)).toNatClampNeg) (xs (x3 + (3 : Int32)).toNatClampNeg) (xs (x3 + (4 : Int32)).toNatClampNeg) (xs (x3 + (5 : Int32)).toNatClampNeg)
      have hf3 := hf2
      rw [← (rl_0 hr :), ← (rl_5 hr :), ← (rl_6 hr :), ← (rl_7 hr :), ← (rl_12 hr :), ← (rl_15 hr :), ← (rl_17 hr :)] at hf3
      obtain ⟨EQ, E1, E2⟩ := pw_shiftB hp0 hp1 (rl_26 hr :) (rl_24 hr :) hf1 hf3
      have EQ2 : RL (z.1, z.2.1, (fun n => zc n 3 R1.2 (z.2.2.1 n)), z.2.2.2.1, z.2.2.2.2.1, z.2.2.2.2.2.1, z.2.2.2.2.2.2.1, z.2.2.2.2.2.2.2) (w.1, w.2.1, (fun n => zc n 0 R2.2.1 (zc n 1 R2.2.2 (w.2.2 n)))) := ⟨(rl_0 hr :), (rl_1 hr :), (rl_2 hr :), (rl_3 hr :), (rl_4 hr :), (rl_5 hr :), (rl_6 hr :), (rl_7 hr :), (rl_8 hr :), (rl_9 hr :), (rl_10 hr :), (rl_11 hr :), (rl_12 hr :), (rl_13 hr :), (rl_14 hr :), (rl_15 hr :), (rl_16 hr :), (rl_17 hr :), (rl_18 hr :), (rl_19 hr :), (rl_20 hr :), (rl_21 hr :), (rl_22 hr :), (PLR_fr (rl_23 hr :) (Int.le_refl _) rfl rfl (fun k k1 k2 => E2 k (by omega))), E1, (PLR_fr (rl_25 hr :) (Int.le_refl _) rfl rfl (fun k k1 k2 => E2 k (by omega))), (PLR_fr (rl_26 hr :) (Int.le_refl _) rfl rfl (fun k k1 k2 => E2 k (by omega))), (PLR_fr (rl_27 hr :) (Int.le_refl _) rfl rfl (fun k k1 k2 => E2 k (by omega))), (PLR_fr (rl_28 hr :) (Int.le_refl _) rfl rfl (fun k k1 k2 => E2 k (by omega))), (rl_29 hr :), (rl_30 hr :), (rl_31 hr :), (rl_32 hr :), (rl_33 hr :)⟩
      refine zk_LMi (As := [.int (xs (x3 + (1 : Int32)).toNatClampNeg), .int (xs (x3 + (2 : Int32)).toNatClampNeg), .int (xs (x3 + (3 : Int32)).toNatClampNeg), .int (xs (x3 + (4 : Int32)).toNatClampNeg), .int (xs (x3 + (5 : Int32)).toNatClampNeg)]) (rest := []) hE hO hM2 ⟨hx, hb, hml, hown, ht⟩ (cwV 5 ht gl_166 rfl rfl rfl (by decide +kernel) ⟨Nat.le_of_ble_eq_true rfl, Nat.le_of_ble_eq_true rfl⟩) (va_recv hK hP (ci := 12) (q0 := 0) rfl rfl) hP hD hS hK hA rfl hl.1 (Nat.le_of_ble_eq_true rfl) dL_law_1481 ⟨by show _ ≤ 600000; omega, by show _ ≤ 7302250; omega⟩ (fun H locs hP hD hS => ?_)
      refine lv_pop hx hb dL_law_1484 rfl ?_
      refine lv_goto (tgt := 1544) hx hb dL_law_1485 (by decide) ?_
      exact kk _ _ H locs ls _ _ hI2 hJ2 EQ2 (by omega) (by omega) hP hD hS (lv_sub hl [0, 1, 2, 3] rfl)
    · refine lv_aload_n hx hb dL_law_1425 rfl (lv_at hl 1 rfl) ?_
      refine lv_aload_n hx hb dL_law_1426 rfl (lv_at hl 0 rfl) ?_
      refine lv_iload_n hx hb dL_law_1427 rfl (lv_at hl 3 rfl) ?_
      refine lv_iconst (v := (1 : Int32)) hx hb dL_law_1428 (by decide) ?_
      refine lv_iadd hx hb dL_law_1429 ?_
      refine va_sld hx hb hX hbl hbA hS (zl_in h3 hL (by decide)) dL_law_1430 ?_
      refine lv_aload_n hx hb dL_law_1431 rfl (lv_at hl 0 rfl) ?_
      refine lv_iload_n hx hb dL_law_1432 rfl (lv_at hl 3 rfl) ?_
      refine lv_iconst (v := (2 : Int32)) hx hb dL_law_1433 (by decide) ?_
      refine lv_iadd hx hb dL_law_1434 ?_
      refine va_sld hx hb hX hbl hbA hS (zl_in h3 hL (by decide)) dL_law_1435 ?_
      refine lv_aload_n hx hb dL_law_1436 rfl (lv_at hl 0 rfl) ?_
      refine lv_iload_n hx hb dL_law_1437 rfl (lv_at hl 3 rfl) ?_
      refine lv_iconst (v := (3 : Int32)) hx hb dL_law_1438 (by decide) ?_
      refine lv_iadd hx hb dL_law_1439 ?_
      refine va_sld hx hb hX hbl hbA hS (zl_in h3 hL (by decide)) dL_law_1440 ?_
      refine lv_aload_n hx hb dL_law_1441 rfl (lv_at hl 0 rfl) ?_
      refine lv_iload_n hx hb dL_law_1442 rfl (lv_at hl 3 rfl) ?_
      refine lv_iconst (v := (4 : Int32)) hx hb dL_law_1443 (by decide) ?_
      refine lv_iadd hx hb dL_law_1444 ?_
      refine va_sld hx hb hX hbl hbA hS (zl_in h3 hL (by decide)) dL_law_1445 ?_
      refine lv_aload_n hx hb dL_law_1446 rfl (lv_at hl 0 rfl) ?_
      refine lv_iload_n hx hb dL_law_1447 rfl (lv_at hl 3 rfl) ?_
      refine lv_iconst (v := (5 : Int32)) hx hb dL_law_1448 (by decide) ?_
      refine lv_iadd hx hb dL_law_1449 ?_
      refine va_sld hx hb hX hbl hbA hS (zl_in h3 hL (by decide)) dL_law_1450 ?_
      obtain ⟨R1, hf1, hI2, hM1⟩ := K_X11_shift_3_2 l D cs k H.size ad z hI (xs (x3 + (1 : Int32)).toNatClampNeg) (xs (x3 + (2 : Int32)).toNatClampNeg) (xs (x3 + (3 : Int32)).toNatClampNeg) (xs (x3 + (4 : Int32)).toNatClampNeg) (xs (x3 + (5 : Int32)).toNatClampNeg) hp0 hp1
      refine zk_LXi (As := [.int (xs (x3 + (1 : Int32)).toNatClampNeg), .int (xs (x3 + (2 : Int32)).toNatClampNeg), .int (xs (x3 + (3 : Int32)).toNatClampNeg), .int (xs (x3 + (4 : Int32)).toNatClampNeg), .int (xs (x3 + (5 : Int32)).toNatClampNeg)]) (rest := []) hE hO hM1 ⟨hx, hb, hml, hown, ht⟩ (cwV 5 ht gl_162 rfl rfl rfl (by decide +kernel) ⟨Nat.le_of_ble_eq_true rfl, Nat.le_of_ble_eq_true rfl⟩) (va_recv hK hP (ci := 11) (q0 := 44) rfl rfl) hP hD hS hK hA rfl hl.1 (Nat.le_of_ble_eq_true rfl) dL_law_1451 ⟨by show _ ≤ 600000; omega, by show _ ≤ 7302250; omega⟩ (fun H locs hP hD hS => ?_)
      refine lv_pop hx hb dL_law_1454 rfl ?_
      refine lv_aload_n hx hb dL_law_1455 rfl (lv_at hl 2 rfl) ?_
      refine lv_aload_n hx hb dL_law_1456 rfl (lv_at hl 0 rfl) ?_
      refine lv_iload_n hx hb dL_law_1457 rfl (lv_at hl 3 rfl) ?_
      refine lv_iconst (v := (1 : Int32)) hx hb dL_law_1458 (by decide) ?_
      refine lv_iadd hx hb dL_law_1459 ?_
      refine va_sld hx hb hX hbl hbA hS (zl_in h3 hL (by decide)) dL_law_1460 ?_
      refine lv_aload_n hx hb dL_law_1461 rfl (lv_at hl 0 rfl) ?_
      refine lv_iload_n hx hb dL_law_1462 rfl (lv_at hl 3 rfl) ?_
      refine lv_iconst (v := (2 : Int32)) hx hb dL_law_1463 (by decide) ?_
      refine lv_iadd hx hb dL_law_1464 ?_
      refine va_sld hx hb hX hbl hbA hS (zl_in h3 hL (by decide)) dL_law_1465 ?_
      refine lv_aload_n hx hb dL_law_1466 rfl (lv_at hl 0 rfl) ?_
      refine lv_iload_n hx hb dL_law_1467 rfl (lv_at hl 3 rfl) ?_
      refine lv_iconst (v := (3 : Int32)) hx hb dL_law_1468 (by decide) ?_
      refine lv_iadd hx hb dL_law_1469 ?_
      refine va_sld hx hb hX hbl hbA hS (zl_in h3 hL (by decide)) dL_law_1470 ?_
      refine lv_aload_n hx hb dL_law_1471 rfl (lv_at hl 0 rfl) ?_
      refine lv_iload_n hx hb dL_law_1472 rfl (lv_at hl 3 rfl) ?_
      refine lv_iconst (v := (4 : Int32)) hx hb dL_law_1473 (by decide) ?_
      refine lv_iadd hx hb dL_law_1474 ?_
      refine va_sld hx hb hX hbl hbA hS (zl_in h3 hL (by decide)) dL_law_1475 ?_
      refine lv_aload_n hx hb dL_law_1476 rfl (lv_at hl 0 rfl) ?_
      refine lv_iload_n hx hb dL_law_1477 rfl (lv_at hl 3 rfl) ?_
      refine lv_iconst (v := (5 : Int32)) hx hb dL_law_1478 (by decide) ?_
      refine lv_iadd hx hb dL_law_1479 ?_
      refine va_sld hx hb hX hbl hbA hS (zl_in h3 hL (by decide)) dL_law_1480 ?_
      obtain ⟨R2, hf2, hJ2, hM2⟩ := K_X12_shift l D cs k H.size am w hJ (xs (x3 + (1 : Int32)).toNatClampNeg) (xs (x3 + (2 : Int32)).toNatClampNeg) (xs (x3 + (3 : Int32)).toNatClampNeg) (xs (x3 + (4 : Int32)).toNatClampNeg) (xs (x3 + (5 : Int32)).toNatClampNeg)
      have hf3 := hf2
      rw [← (rl_0 hr :), ← (rl_5 hr :), ← (rl_6 hr :), ← (rl_7 hr :), ← (rl_12 hr :), ← (rl_15 hr :), ← (rl_17 hr :)] at hf3
      obtain ⟨EQ, E1, E2⟩ := pw_shiftB hp0 hp1 (rl_26 hr :) (rl_25 hr :) hf1 hf3
      have EQ2 : RL (z.1, z.2.1, (fun n => zc n 4 R1.2 (z.2.2.1 n)), z.2.2.2.1, z.2.2.2.2.1, z.2.2.2.2.2.1, z.2.2.2.2.2.2.1, z.2.2.2.2.2.2.2) (w.1, w.2.1, (fun n => zc n 0 R2.2.1 (zc n 1 R2.2.2 (w.2.2 n)))) := ⟨(rl_0 hr :), (rl_1 hr :), (rl_2 hr :), (rl_3 hr :), (rl_4 hr :), (rl_5 hr :), (rl_6 hr :), (rl_7 hr :), (rl_8 hr :), (rl_9 hr :), (rl_10 hr :), (rl_11 hr :), (rl_12 hr :), (rl_13 hr :), (rl_14 hr :), (rl_15 hr :), (rl_16 hr :), (rl_17 hr :), (rl_18 hr :), (rl_19 hr :), (rl_20 hr :), (rl_21 hr :), (rl_22 hr :), (PLR_fr (rl_23 hr :) (Int.le_refl _) rfl rfl (fun k k1 k2 => E2 k (by omega))), (PLR_fr (rl_24 hr :) (Int.le_refl _) rfl rfl (fun k k1 k2 => E2 k (by omega))), E1, (PLR_fr (rl_26 hr :) (Int.le_refl _) rfl rfl (fun k k1 k2 => E2 k (by omega))), (PLR_fr (rl_27 hr :) (Int.le_refl _) rfl rfl (fun k k1 k2 => E2 k (by omega))), (PLR_fr (rl_28 hr :) (Int.le_refl _) rfl rfl (fun k k1 k2 => E2 k (by omega))), (rl_29 hr :), (rl_30 hr :), (rl_31 hr :), (rl_32 hr :), (rl_33 hr :)⟩
      refine zk_LMi (As := [.int (xs (x3 + (1 : Int32)).toNatClampNeg), .int (xs (x3 + (2 : Int32)).toNatClampNeg), .int (xs (x3 + (3 : Int32)).toNatClampNeg), .int (xs (x3 + (4 : Int32)).toNatClampNeg), .int (xs (x3 + (5 : Int32)).toNatClampNeg)]) (rest := []) hE hO hM2 ⟨hx, hb, hml, hown, ht⟩ (cwV 5 ht gl_166 rfl rfl rfl (by decide +kernel) ⟨Nat.le_of_ble_eq_true rfl, Nat.le_of_ble_eq_true rfl⟩) (va_recv hK hP (ci := 12) (q0 := 0) rfl rfl) hP hD hS hK hA rfl hl.1 (Nat.le_of_ble_eq_true rfl) dL_law_1481 ⟨by show _ ≤ 600000; omega, by show _ ≤ 7302250; omega⟩ (fun H locs hP hD hS => ?_)
      refine lv_pop hx hb dL_law_1484 rfl ?_
      refine lv_goto (tgt := 1544) hx hb dL_law_1485 (by decide) ?_
      exact kk _ _ H locs ls _ _ hI2 hJ2 EQ2 (by omega) (by omega) hP hD hS (lv_sub hl [0, 1, 2, 3] rfl)
    · refine lv_aload_n hx hb dL_law_1425 rfl (lv_at hl 1 rfl) ?_
      refine lv_aload_n hx hb dL_law_1426 rfl (lv_at hl 0 rfl) ?_
      refine lv_iload_n hx hb dL_law_1427 rfl (lv_at hl 3 rfl) ?_
      refine lv_iconst (v := (1 : Int32)) hx hb dL_law_1428 (by decide) ?_
      refine lv_iadd hx hb dL_law_1429 ?_
      refine va_sld hx hb hX hbl hbA hS (zl_in h3 hL (by decide)) dL_law_1430 ?_
      refine lv_aload_n hx hb dL_law_1431 rfl (lv_at hl 0 rfl) ?_
      refine lv_iload_n hx hb dL_law_1432 rfl (lv_at hl 3 rfl) ?_
      refine lv_iconst (v := (2 : Int32)) hx hb dL_law_1433 (by decide) ?_
      refine lv_iadd hx hb dL_law_1434 ?_
      refine va_sld hx hb hX hbl hbA hS (zl_in h3 hL (by decide)) dL_law_1435 ?_
      refine lv_aload_n hx hb dL_law_1436 rfl (lv_at hl 0 rfl) ?_
      refine lv_iload_n hx hb dL_law_1437 rfl (lv_at hl 3 rfl) ?_
      refine lv_iconst (v := (3 : Int32)) hx hb dL_law_1438 (by decide) ?_
      refine lv_iadd hx hb dL_law_1439 ?_
      refine va_sld hx hb hX hbl hbA hS (zl_in h3 hL (by decide)) dL_law_1440 ?_
      refine lv_aload_n hx hb dL_law_1441 rfl (lv_at hl 0 rfl) ?_
      refine lv_iload_n hx hb dL_law_1442 rfl (lv_at hl 3 rfl) ?_
      refine lv_iconst (v := (4 : Int32)) hx hb dL_law_1443 (by decide) ?_
      refine lv_iadd hx hb dL_law_1444 ?_
      refine va_sld hx hb hX hbl hbA hS (zl_in h3 hL (by decide)) dL_law_1445 ?_
      refine lv_aload_n hx hb dL_law_1446 rfl (lv_at hl 0 rfl) ?_
      refine lv_iload_n hx hb dL_law_1447 rfl (lv_at hl 3 rfl) ?_
      refine lv_iconst (v := (5 : Int32)) hx hb dL_law_1448 (by decide) ?_
      refine lv_iadd hx hb dL_law_1449 ?_
      refine va_sld hx hb hX hbl hbA hS (zl_in h3 hL (by decide)) dL_law_1450 ?_
      obtain ⟨R1, hf1, hI2, hM1⟩ := K_X11_shift_3A l D cs k H.size ad z hI (xs (x3 + (1 : Int32)).toNatClampNeg) (xs (x3 + (2 : Int32)).toNatClampNeg) (xs (x3 + (3 : Int32)).toNatClampNeg) (xs (x3 + (4 : Int32)).toNatClampNeg) (xs (x3 + (5 : Int32)).toNatClampNeg) hp0 hp1
      refine zk_LXi (As := [.int (xs (x3 + (1 : Int32)).toNatClampNeg), .int (xs (x3 + (2 : Int32)).toNatClampNeg), .int (xs (x3 + (3 : Int32)).toNatClampNeg), .int (xs (x3 + (4 : Int32)).toNatClampNeg), .int (xs (x3 + (5 : Int32)).toNatClampNeg)]) (rest := []) hE hO hM1 ⟨hx, hb, hml, hown, ht⟩ (cwV 5 ht gl_162 rfl rfl rfl (by decide +kernel) ⟨Nat.le_of_ble_eq_true rfl, Nat.le_of_ble_eq_true rfl⟩) (va_recv hK hP (ci := 11) (q0 := 44) rfl rfl) hP hD hS hK hA rfl hl.1 (Nat.le_of_ble_eq_true rfl) dL_law_1451 ⟨by show _ ≤ 600000; omega, by show _ ≤ 7302250; omega⟩ (fun H locs hP hD hS => ?_)
      refine lv_pop hx hb dL_law_1454 rfl ?_
      refine lv_aload_n hx hb dL_law_1455 rfl (lv_at hl 2 rfl) ?_
      refine lv_aload_n hx hb dL_law_1456 rfl (lv_at hl 0 rfl) ?_
      refine lv_iload_n hx hb dL_law_1457 rfl (lv_at hl 3 rfl) ?_
      refine lv_iconst (v := (1 : Int32)) hx hb dL_law_1458 (by decide) ?_
      refine lv_iadd hx hb dL_law_1459 ?_
      refine va_sld hx hb hX hbl hbA hS (zl_in h3 hL (by decide)) dL_law_1460 ?_
      refine lv_aload_n hx hb dL_law_1461 rfl (lv_at hl 0 rfl) ?_
      refine lv_iload_n hx hb dL_law_1462 rfl (lv_at hl 3 rfl) ?_
      refine lv_iconst (v := (2 : Int32)) hx hb dL_law_1463 (by decide) ?_
      refine lv_iadd hx hb dL_law_1464 ?_
      refine va_sld hx hb hX hbl hbA hS (zl_in h3 hL (by decide)) dL_law_1465 ?_
      refine lv_aload_n hx hb dL_law_1466 rfl (lv_at hl 0 rfl) ?_
      refine lv_iload_n hx hb dL_law_1467 rfl (lv_at hl 3 rfl) ?_
      refine lv_iconst (v := (3 : Int32)) hx hb dL_law_1468 (by decide) ?_
      refine lv_iadd hx hb dL_law_1469 ?_
      refine va_sld hx hb hX hbl hbA hS (zl_in h3 hL (by decide)) dL_law_1470 ?_
      refine lv_aload_n hx hb dL_law_1471 rfl (lv_at hl 0 rfl) ?_
      refine lv_iload_n hx hb dL_law_1472 rfl (lv_at hl 3 rfl) ?_
      refine lv_iconst (v := (4 : Int32)) hx hb dL_law_1473 (by decide) ?_
      refine lv_iadd hx hb dL_law_1474 ?_
      refine va_sld hx hb hX hbl hbA hS (zl_in h3 hL (by decide)) dL_law_1475 ?_
      refine lv_aload_n hx hb dL_law_1476 rfl (lv_at hl 0 rfl) ?_
      refine lv_iload_n hx hb dL_law_1477 rfl (lv_at hl 3 rfl) ?_
      refine lv_iconst (v := (5 : Int32)) hx hb dL_law_1478 (by decide) ?_
      refine lv_iadd hx hb dL_law_1479 ?_
      refine va_sld hx hb hX hbl hbA hS (zl_in h3 hL (by decide)) dL_law_1480 ?_
      obtain ⟨R2, hf2, hJ2, hM2⟩ := K_X12_shift l D cs k H.size am w hJ (xs (x3 + (1 : Int32)).toNatClampNeg) (xs (x3 + (2 : Int32)).toNatClampNeg) (xs (x3 + (3 : Int32)).toNatClampNeg) (xs (x3 + (4 : Int32)).toNatClampNeg) (xs (x3 + (5 : Int32)).toNatClampNeg)
      have hf3 := hf2
      rw [← (rl_0 hr :), ← (rl_5 hr :), ← (rl_6 hr :), ← (rl_7 hr :), ← (rl_12 hr :), ← (rl_15 hr :), ← (rl_17 hr :)] at hf3
      obtain ⟨EQ, E1, E2⟩ := pw_shiftB hp0 hp1 (rl_26 hr :) (rl_26 hr :) (pw_shA hf1) hf3
      have EQ2 : RL (z.1, z.2.1, (fun n => zc n 5 R1.2 (z.2.2.1 n)), z.2.2.2.1, z.2.2.2.2.1, z.2.2.2.2.2.1, z.2.2.2.2.2.2.1, z.2.2.2.2.2.2.2) (w.1, w.2.1, (fun n => zc n 0 R2.2.1 (zc n 1 R2.2.2 (w.2.2 n)))) := ⟨(rl_0 hr :), (rl_1 hr :), (rl_2 hr :), (rl_3 hr :), (rl_4 hr :), (rl_5 hr :), (rl_6 hr :), (rl_7 hr :), (rl_8 hr :), (rl_9 hr :), (rl_10 hr :), (rl_11 hr :), (rl_12 hr :), (rl_13 hr :), (rl_14 hr :), (rl_15 hr :), (rl_16 hr :), (rl_17 hr :), (rl_18 hr :), (rl_19 hr :), (rl_20 hr :), (rl_21 hr :), (rl_22 hr :), (PLR_fr (rl_23 hr :) (Int.le_refl _) rfl rfl (fun k k1 k2 => E2 k (by omega))), (PLR_fr (rl_24 hr :) (Int.le_refl _) rfl rfl (fun k k1 k2 => E2 k (by omega))), (PLR_fr (rl_25 hr :) (Int.le_refl _) rfl rfl (fun k k1 k2 => E2 k (by omega))), E1, (PLR_fr (rl_27 hr :) (Int.le_refl _) rfl rfl (fun k k1 k2 => E2 k (by omega))), (PLR_fr (rl_28 hr :) (Int.le_refl _) rfl rfl (fun k k1 k2 => E2 k (by omega))), (rl_29 hr :), (rl_30 hr :), (rl_31 hr :), (rl_32 hr :), (rl_33 hr :)⟩
      refine zk_LMi (As := [.int (xs (x3 + (1 : Int32)).toNatClampNeg), .int (xs (x3 + (2 : Int32)).toNatClampNeg), .int (xs (x3 + (3 : Int32)).toNatClampNeg), .int (xs (x3 + (4 : Int32)).toNatClampNeg), .int (xs (x3 + (5 : Int32)).toNatClampNeg)]) (rest := []) hE hO hM2 ⟨hx, hb, hml, hown, ht⟩ (cwV 5 ht gl_166 rfl rfl rfl (by decide +kernel) ⟨Nat.le_of_ble_eq_true rfl, Nat.le_of_ble_eq_true rfl⟩) (va_recv hK hP (ci := 12) (q0 := 0) rfl rfl) hP hD hS hK hA rfl hl.1 (Nat.le_of_ble_eq_true rfl) dL_law_1481 ⟨by show _ ≤ 600000; omega, by show _ ≤ 7302250; omega⟩ (fun H locs hP hD hS => ?_)
      refine lv_pop hx hb dL_law_1484 rfl ?_
      refine lv_goto (tgt := 1544) hx hb dL_law_1485 (by decide) ?_
      exact kk _ _ H locs ls _ _ hI2 hJ2 EQ2 (by omega) (by omega) hP hD hS (lv_sub hl [0, 1, 2, 3] rfl)
    · refine lv_aload_n hx hb dL_law_1425 rfl (lv_at hl 1 rfl) ?_
      refine lv_aload_n hx hb dL_law_1426 rfl (lv_at hl 0 rfl) ?_
      refine lv_iload_n hx hb dL_law_1427 rfl (lv_at hl 3 rfl) ?_
      refine lv_iconst (v := (1 : Int32)) hx hb dL_law_1428 (by decide) ?_
      refine lv_iadd hx hb dL_law_1429 ?_
      refine va_sld hx hb hX hbl hbA hS (zl_in h3 hL (by decide)) dL_law_1430 ?_
      refine lv_aload_n hx hb dL_law_1431 rfl (lv_at hl 0 rfl) ?_
      refine lv_iload_n hx hb dL_law_1432 rfl (lv_at hl 3 rfl) ?_
      refine lv_iconst (v := (2 : Int32)) hx hb dL_law_1433 (by decide) ?_
      refine lv_iadd hx hb dL_law_1434 ?_
      refine va_sld hx hb hX hbl hbA hS (zl_in h3 hL (by decide)) dL_law_1435 ?_
      refine lv_aload_n hx hb dL_law_1436 rfl (lv_at hl 0 rfl) ?_
      refine lv_iload_n hx hb dL_law_1437 rfl (lv_at hl 3 rfl) ?_
      refine lv_iconst (v := (3 : Int32)) hx hb dL_law_1438 (by decide) ?_
      refine lv_iadd hx hb dL_law_1439 ?_
      refine va_sld hx hb hX hbl hbA hS (zl_in h3 hL (by decide)) dL_law_1440 ?_
      refine lv_aload_n hx hb dL_law_1441 rfl (lv_at hl 0 rfl) ?_
      refine lv_iload_n hx hb dL_law_1442 rfl (lv_at hl 3 rfl) ?_
      refine lv_iconst (v := (4 : Int32)) hx hb dL_law_1443 (by decide) ?_
      refine lv_iadd hx hb dL_law_1444 ?_
      refine va_sld hx hb hX hbl hbA hS (zl_in h3 hL (by decide)) dL_law_1445 ?_
      refine lv_aload_n hx hb dL_law_1446 rfl (lv_at hl 0 rfl) ?_
      refine lv_iload_n hx hb dL_law_1447 rfl (lv_at hl 3 rfl) ?_
      refine lv_iconst (v := (5 : Int32)) hx hb dL_law_1448 (by decide) ?_
      refine lv_iadd hx hb dL_law_1449 ?_
      refine va_sld hx hb hX hbl hbA hS (zl_in h3 hL (by decide)) dL_law_1450 ?_
      obtain ⟨R1, hf1, hI2, hM1⟩ := K_X11_shift_3_4 l D cs k H.size ad z hI (xs (x3 + (1 : Int32)).toNatClampNeg) (xs (x3 + (2 : Int32)).toNatClampNeg) (xs (x3 + (3 : Int32)).toNatClampNeg) (xs (x3 + (4 : Int32)).toNatClampNeg) (xs (x3 + (5 : Int32)).toNatClampNeg) hp0 hp1
      refine zk_LXi (As := [.int (xs (x3 + (1 : Int32)).toNatClampNeg), .int (xs (x3 + (2 : Int32)).toNatClampNeg), .int (xs (x3 + (3 : Int32)).toNatClampNeg), .int (xs (x3 + (4 : Int32)).toNatClampNeg), .int (xs (x3 + (5 : Int32)).toNatClampNeg)]) (rest := []) hE hO hM1 ⟨hx, hb, hml, hown, ht⟩ (cwV 5 ht gl_162 rfl rfl rfl (by decide +kernel) ⟨Nat.le_of_ble_eq_true rfl, Nat.le_of_ble_eq_true rfl⟩) (va_recv hK hP (ci := 11) (q0 := 44) rfl rfl) hP hD hS hK hA rfl hl.1 (Nat.le_of_ble_eq_true rfl) dL_law_1451 ⟨by show _ ≤ 600000; omega, by show _ ≤ 7302250; omega⟩ (fun H locs hP hD hS => ?_)
      refine lv_pop hx hb dL_law_1454 rfl ?_
      refine lv_aload_n hx hb dL_law_1455 rfl (lv_at hl 2 rfl) ?_
      refine lv_aload_n hx hb dL_law_1456 rfl (lv_at hl 0 rfl) ?_
      refine lv_iload_n hx hb dL_law_1457 rfl (lv_at hl 3 rfl) ?_
      refine lv_iconst (v := (1 : Int32)) hx hb dL_law_1458 (by decide) ?_
      refine lv_iadd hx hb dL_law_1459 ?_
      refine va_sld hx hb hX hbl hbA hS (zl_in h3 hL (by decide)) dL_law_1460 ?_
      refine lv_aload_n hx hb dL_law_1461 rfl (lv_at hl 0 rfl) ?_
      refine lv_iload_n hx hb dL_law_1462 rfl (lv_at hl 3 rfl) ?_
      refine lv_iconst (v := (2 : Int32)) hx hb dL_law_1463 (by decide) ?_
      refine lv_iadd hx hb dL_law_1464 ?_
      refine va_sld hx hb hX hbl hbA hS (zl_in h3 hL (by decide)) dL_law_1465 ?_
      refine lv_aload_n hx hb dL_law_1466 rfl (lv_at hl 0 rfl) ?_
      refine lv_iload_n hx hb dL_law_1467 rfl (lv_at hl 3 rfl) ?_
      refine lv_iconst (v := (3 : Int32)) hx hb dL_law_1468 (by decide) ?_
      refine lv_iadd hx hb dL_law_1469 ?_
      refine va_sld hx hb hX hbl hbA hS (zl_in h3 hL (by decide)) dL_law_1470 ?_
      refine lv_aload_n hx hb dL_law_1471 rfl (lv_at hl 0 rfl) ?_
      refine lv_iload_n hx hb dL_law_1472 rfl (lv_at hl 3 rfl) ?_
      refine lv_iconst (v := (4 : Int32)) hx hb dL_law_1473 (by decide) ?_
      refine lv_iadd hx hb dL_law_1474 ?_
      refine va_sld hx hb hX hbl hbA hS (zl_in h3 hL (by decide)) dL_law_1475 ?_
      refine lv_aload_n hx hb dL_law_1476 rfl (lv_at hl 0 rfl) ?_
      refine lv_iload_n hx hb dL_law_1477 rfl (lv_at hl 3 rfl) ?_
      refine lv_iconst (v := (5 : Int32)) hx hb dL_law_1478 (by decide) ?_
      refine lv_iadd hx hb dL_law_1479 ?_
      refine va_sld hx hb hX hbl hbA hS (zl_in h3 hL (by decide)) dL_law_1480 ?_
      obtain ⟨R2, hf2, hJ2, hM2⟩ := K_X12_shift l D cs k H.size am w hJ (xs (x3 + (1 : Int32)).toNatClampNeg) (xs (x3 + (2 : Int32)).toNatClampNeg) (xs (x3 + (3 : Int32)).toNatClampNeg) (xs (x3 + (4 : Int32)).toNatClampNeg) (xs (x3 + (5 : Int32)).toNatClampNeg)
      have hf3 := hf2
      rw [← (rl_0 hr :), ← (rl_5 hr :), ← (rl_6 hr :), ← (rl_7 hr :), ← (rl_12 hr :), ← (rl_15 hr :), ← (rl_17 hr :)] at hf3
      obtain ⟨EQ, E1, E2⟩ := pw_shiftB hp0 hp1 (rl_26 hr :) (rl_27 hr :) hf1 hf3
      have EQ2 : RL (z.1, z.2.1, (fun n => zc n 6 R1.2 (z.2.2.1 n)), z.2.2.2.1, z.2.2.2.2.1, z.2.2.2.2.2.1, z.2.2.2.2.2.2.1, z.2.2.2.2.2.2.2) (w.1, w.2.1, (fun n => zc n 0 R2.2.1 (zc n 1 R2.2.2 (w.2.2 n)))) := ⟨(rl_0 hr :), (rl_1 hr :), (rl_2 hr :), (rl_3 hr :), (rl_4 hr :), (rl_5 hr :), (rl_6 hr :), (rl_7 hr :), (rl_8 hr :), (rl_9 hr :), (rl_10 hr :), (rl_11 hr :), (rl_12 hr :), (rl_13 hr :), (rl_14 hr :), (rl_15 hr :), (rl_16 hr :), (rl_17 hr :), (rl_18 hr :), (rl_19 hr :), (rl_20 hr :), (rl_21 hr :), (rl_22 hr :), (PLR_fr (rl_23 hr :) (Int.le_refl _) rfl rfl (fun k k1 k2 => E2 k (by omega))), (PLR_fr (rl_24 hr :) (Int.le_refl _) rfl rfl (fun k k1 k2 => E2 k (by omega))), (PLR_fr (rl_25 hr :) (Int.le_refl _) rfl rfl (fun k k1 k2 => E2 k (by omega))), (PLR_fr (rl_26 hr :) (Int.le_refl _) rfl rfl (fun k k1 k2 => E2 k (by omega))), E1, (PLR_fr (rl_28 hr :) (Int.le_refl _) rfl rfl (fun k k1 k2 => E2 k (by omega))), (rl_29 hr :), (rl_30 hr :), (rl_31 hr :), (rl_32 hr :), (rl_33 hr :)⟩
      refine zk_LMi (As := [.int (xs (x3 + (1 : Int32)).toNatClampNeg), .int (xs (x3 + (2 : Int32)).toNatClampNeg), .int (xs (x3 + (3 : Int32)).toNatClampNeg), .int (xs (x3 + (4 : Int32)).toNatClampNeg), .int (xs (x3 + (5 : Int32)).toNatClampNeg)]) (rest := []) hE hO hM2 ⟨hx, hb, hml, hown, ht⟩ (cwV 5 ht gl_166 rfl rfl rfl (by decide +kernel) ⟨Nat.le_of_ble_eq_true rfl, Nat.le_of_ble_eq_true rfl⟩) (va_recv hK hP (ci := 12) (q0 := 0) rfl rfl) hP hD hS hK hA rfl hl.1 (Nat.le_of_ble_eq_true rfl) dL_law_1481 ⟨by show _ ≤ 600000; omega, by show _ ≤ 7302250; omega⟩ (fun H locs hP hD hS => ?_)
      refine lv_pop hx hb dL_law_1484 rfl ?_
      refine lv_goto (tgt := 1544) hx hb dL_law_1485 (by decide) ?_
      exact kk _ _ H locs ls _ _ hI2 hJ2 EQ2 (by omega) (by omega) hP hD hS (lv_sub hl [0, 1, 2, 3] rfl)
    · refine lv_aload_n hx hb dL_law_1425 rfl (lv_at hl 1 rfl) ?_
      refine lv_aload_n hx hb dL_law_1426 rfl (lv_at hl 0 rfl) ?_
      refine lv_iload_n hx hb dL_law_1427 rfl (lv_at hl 3 rfl) ?_
      refine lv_iconst (v := (1 : Int32)) hx hb dL_law_1428 (by decide) ?_
      refine lv_iadd hx hb dL_law_1429 ?_
      refine va_sld hx hb hX hbl hbA hS (zl_in h3 hL (by decide)) dL_law_1430 ?_
      refine lv_aload_n hx hb dL_law_1431 rfl (lv_at hl 0 rfl) ?_
      refine lv_iload_n hx hb dL_law_1432 rfl (lv_at hl 3 rfl) ?_
      refine lv_iconst (v := (2 : Int32)) hx hb dL_law_1433 (by decide) ?_
      refine lv_iadd hx hb dL_law_1434 ?_
      refine va_sld hx hb hX hbl hbA hS (zl_in h3 hL (by decide)) dL_law_1435 ?_
      refine lv_aload_n hx hb dL_law_1436 rfl (lv_at hl 0 rfl) ?_
      refine lv_iload_n hx hb dL_law_1437 rfl (lv_at hl 3 rfl) ?_
      refine lv_iconst (v := (3 : Int32)) hx hb dL_law_1438 (by decide) ?_
      refine lv_iadd hx hb dL_law_1439 ?_
      refine va_sld hx hb hX hbl hbA hS (zl_in h3 hL (by decide)) dL_law_1440 ?_
      refine lv_aload_n hx hb dL_law_1441 rfl (lv_at hl 0 rfl) ?_
      refine lv_iload_n hx hb dL_law_1442 rfl (lv_at hl 3 rfl) ?_
      refine lv_iconst (v := (4 : Int32)) hx hb dL_law_1443 (by decide) ?_
      refine lv_iadd hx hb dL_law_1444 ?_
      refine va_sld hx hb hX hbl hbA hS (zl_in h3 hL (by decide)) dL_law_1445 ?_
      refine lv_aload_n hx hb dL_law_1446 rfl (lv_at hl 0 rfl) ?_
      refine lv_iload_n hx hb dL_law_1447 rfl (lv_at hl 3 rfl) ?_
      refine lv_iconst (v := (5 : Int32)) hx hb dL_law_1448 (by decide) ?_
      refine lv_iadd hx hb dL_law_1449 ?_
      refine va_sld hx hb hX hbl hbA hS (zl_in h3 hL (by decide)) dL_law_1450 ?_
      obtain ⟨R1, hf1, hI2, hM1⟩ := K_X11_shift_3_5 l D cs k H.size ad z hI (xs (x3 + (1 : Int32)).toNatClampNeg) (xs (x3 + (2 : Int32)).toNatClampNeg) (xs (x3 + (3 : Int32)).toNatClampNeg) (xs (x3 + (4 : Int32)).toNatClampNeg) (xs (x3 + (5 : Int32)).toNatClampNeg) hp0 hp1
      refine zk_LXi (As := [.int (xs (x3 + (1 : Int32)).toNatClampNeg), .int (xs (x3 + (2 : Int32)).toNatClampNeg), .int (xs (x3 + (3 : Int32)).toNatClampNeg), .int (xs (x3 + (4 : Int32)).toNatClampNeg), .int (xs (x3 + (5 : Int32)).toNatClampNeg)]) (rest := []) hE hO hM1 ⟨hx, hb, hml, hown, ht⟩ (cwV 5 ht gl_162 rfl rfl rfl (by decide +kernel) ⟨Nat.le_of_ble_eq_true rfl, Nat.le_of_ble_eq_true rfl⟩) (va_recv hK hP (ci := 11) (q0 := 44) rfl rfl) hP hD hS hK hA rfl hl.1 (Nat.le_of_ble_eq_true rfl) dL_law_1451 ⟨by show _ ≤ 600000; omega, by show _ ≤ 7302250; omega⟩ (fun H locs hP hD hS => ?_)
      refine lv_pop hx hb dL_law_1454 rfl ?_
      refine lv_aload_n hx hb dL_law_1455 rfl (lv_at hl 2 rfl) ?_
      refine lv_aload_n hx hb dL_law_1456 rfl (lv_at hl 0 rfl) ?_
      refine lv_iload_n hx hb dL_law_1457 rfl (lv_at hl 3 rfl) ?_
      refine lv_iconst (v := (1 : Int32)) hx hb dL_law_1458 (by decide) ?_
      refine lv_iadd hx hb dL_law_1459 ?_
      refine va_sld hx hb hX hbl hbA hS (zl_in h3 hL (by decide)) dL_law_1460 ?_
      refine lv_aload_n hx hb dL_law_1461 rfl (lv_at hl 0 rfl) ?_
      refine lv_iload_n hx hb dL_law_1462 rfl (lv_at hl 3 rfl) ?_
      refine lv_iconst (v := (2 : Int32)) hx hb dL_law_1463 (by decide) ?_
      refine lv_iadd hx hb dL_law_1464 ?_
      refine va_sld hx hb hX hbl hbA hS (zl_in h3 hL (by decide)) dL_law_1465 ?_
      refine lv_aload_n hx hb dL_law_1466 rfl (lv_at hl 0 rfl) ?_
      refine lv_iload_n hx hb dL_law_1467 rfl (lv_at hl 3 rfl) ?_
      refine lv_iconst (v := (3 : Int32)) hx hb dL_law_1468 (by decide) ?_
      refine lv_iadd hx hb dL_law_1469 ?_
      refine va_sld hx hb hX hbl hbA hS (zl_in h3 hL (by decide)) dL_law_1470 ?_
      refine lv_aload_n hx hb dL_law_1471 rfl (lv_at hl 0 rfl) ?_
      refine lv_iload_n hx hb dL_law_1472 rfl (lv_at hl 3 rfl) ?_
      refine lv_iconst (v := (4 : Int32)) hx hb dL_law_1473 (by decide) ?_
      refine lv_iadd hx hb dL_law_1474 ?_
      refine va_sld hx hb hX hbl hbA hS (zl_in h3 hL (by decide)) dL_law_1475 ?_
      refine lv_aload_n hx hb dL_law_1476 rfl (lv_at hl 0 rfl) ?_
      refine lv_iload_n hx hb dL_law_1477 rfl (lv_at hl 3 rfl) ?_
      refine lv_iconst (v := (5 : Int32)) hx hb dL_law_1478 (by decide) ?_
      refine lv_iadd hx hb dL_law_1479 ?_
      refine va_sld hx hb hX hbl hbA hS (zl_in h3 hL (by decide)) dL_law_1480 ?_
      obtain ⟨R2, hf2, hJ2, hM2⟩ := K_X12_shift l D cs k H.size am w hJ (xs (x3 + (1 : Int32)).toNatClampNeg) (xs (x3 + (2 : Int32)).toNatClampNeg) (xs (x3 + (3 : Int32)).toNatClampNeg) (xs (x3 + (4 : Int32)).toNatClampNeg) (xs (x3 + (5 : Int32)).toNatClampNeg)
      have hf3 := hf2
      rw [← (rl_0 hr :), ← (rl_5 hr :), ← (rl_6 hr :), ← (rl_7 hr :), ← (rl_12 hr :), ← (rl_15 hr :), ← (rl_17 hr :)] at hf3
      obtain ⟨EQ, E1, E2⟩ := pw_shiftB hp0 hp1 (rl_26 hr :) (rl_28 hr :) hf1 hf3
      have EQ2 : RL (z.1, z.2.1, (fun n => zc n 7 R1.2 (z.2.2.1 n)), z.2.2.2.1, z.2.2.2.2.1, z.2.2.2.2.2.1, z.2.2.2.2.2.2.1, z.2.2.2.2.2.2.2) (w.1, w.2.1, (fun n => zc n 0 R2.2.1 (zc n 1 R2.2.2 (w.2.2 n)))) := ⟨(rl_0 hr :), (rl_1 hr :), (rl_2 hr :), (rl_3 hr :), (rl_4 hr :), (rl_5 hr :), (rl_6 hr :), (rl_7 hr :), (rl_8 hr :), (rl_9 hr :), (rl_10 hr :), (rl_11 hr :), (rl_12 hr :), (rl_13 hr :), (rl_14 hr :), (rl_15 hr :), (rl_16 hr :), (rl_17 hr :), (rl_18 hr :), (rl_19 hr :), (rl_20 hr :), (rl_21 hr :), (rl_22 hr :), (PLR_fr (rl_23 hr :) (Int.le_refl _) rfl rfl (fun k k1 k2 => E2 k (by omega))), (PLR_fr (rl_24 hr :) (Int.le_refl _) rfl rfl (fun k k1 k2 => E2 k (by omega))), (PLR_fr (rl_25 hr :) (Int.le_refl _) rfl rfl (fun k k1 k2 => E2 k (by omega))), (PLR_fr (rl_26 hr :) (Int.le_refl _) rfl rfl (fun k k1 k2 => E2 k (by omega))), (PLR_fr (rl_27 hr :) (Int.le_refl _) rfl rfl (fun k k1 k2 => E2 k (by omega))), E1, (rl_29 hr :), (rl_30 hr :), (rl_31 hr :), (rl_32 hr :), (rl_33 hr :)⟩
      refine zk_LMi (As := [.int (xs (x3 + (1 : Int32)).toNatClampNeg), .int (xs (x3 + (2 : Int32)).toNatClampNeg), .int (xs (x3 + (3 : Int32)).toNatClampNeg), .int (xs (x3 + (4 : Int32)).toNatClampNeg), .int (xs (x3 + (5 : Int32)).toNatClampNeg)]) (rest := []) hE hO hM2 ⟨hx, hb, hml, hown, ht⟩ (cwV 5 ht gl_166 rfl rfl rfl (by decide +kernel) ⟨Nat.le_of_ble_eq_true rfl, Nat.le_of_ble_eq_true rfl⟩) (va_recv hK hP (ci := 12) (q0 := 0) rfl rfl) hP hD hS hK hA rfl hl.1 (Nat.le_of_ble_eq_true rfl) dL_law_1481 ⟨by show _ ≤ 600000; omega, by show _ ≤ 7302250; omega⟩ (fun H locs hP hD hS => ?_)
      refine lv_pop hx hb dL_law_1484 rfl ?_
      refine lv_goto (tgt := 1544) hx hb dL_law_1485 (by decide) ?_
      exact kk _ _ H locs ls _ _ hI2 hJ2 EQ2 (by omega) (by omega) hP hD hS (lv_sub hl [0, 1, 2, 3] rfl)
  · obtain ⟨j1, hj1, hp1⟩ := zk_pl (xs (x3 + (3 : Int32)).toNatClampNeg)
    rcases (show j1 = 0 ∨ j1 = 1 ∨ j1 = 2 ∨ j1 = 3 ∨ j1 = 4 ∨ j1 = 5 by omega) with rfl | rfl | rfl | rfl | rfl | rfl
    · refine lv_aload_n hx hb dL_law_1425 rfl (lv_at hl 1 rfl) ?_
      refine lv_aload_n hx hb dL_law_1426 rfl (lv_at hl 0 rfl) ?_
      refine lv_iload_n hx hb dL_law_1427 rfl (lv_at hl 3 rfl) ?_
      refine lv_iconst (v := (1 : Int32)) hx hb dL_law_1428 (by decide) ?_
      refine lv_iadd hx hb dL_law_1429 ?_
      refine va_sld hx hb hX hbl hbA hS (zl_in h3 hL (by decide)) dL_law_1430 ?_
      refine lv_aload_n hx hb dL_law_1431 rfl (lv_at hl 0 rfl) ?_
      refine lv_iload_n hx hb dL_law_1432 rfl (lv_at hl 3 rfl) ?_
      refine lv_iconst (v := (2 : Int32)) hx hb dL_law_1433 (by decide) ?_
      refine lv_iadd hx hb dL_law_1434 ?_
      refine va_sld hx hb hX hbl hbA hS (zl_in h3 hL (by decide)) dL_law_1435 ?_
      refine lv_aload_n hx hb dL_law_1436 rfl (lv_at hl 0 rfl) ?_
      refine lv_iload_n hx hb dL_law_1437 rfl (lv_at hl 3 rfl) ?_
      refine lv_iconst (v := (3 : Int32)) hx hb dL_law_1438 (by decide) ?_
      refine lv_iadd hx hb dL_law_1439 ?_
      refine va_sld hx hb hX hbl hbA hS (zl_in h3 hL (by decide)) dL_law_1440 ?_
      refine lv_aload_n hx hb dL_law_1441 rfl (lv_at hl 0 rfl) ?_
      refine lv_iload_n hx hb dL_law_1442 rfl (lv_at hl 3 rfl) ?_
      refine lv_iconst (v := (4 : Int32)) hx hb dL_law_1443 (by decide) ?_
      refine lv_iadd hx hb dL_law_1444 ?_
      refine va_sld hx hb hX hbl hbA hS (zl_in h3 hL (by decide)) dL_law_1445 ?_
      refine lv_aload_n hx hb dL_law_1446 rfl (lv_at hl 0 rfl) ?_
      refine lv_iload_n hx hb dL_law_1447 rfl (lv_at hl 3 rfl) ?_
      refine lv_iconst (v := (5 : Int32)) hx hb dL_law_1448 (by decide) ?_
      refine lv_iadd hx hb dL_law_1449 ?_
      refine va_sld hx hb hX hbl hbA hS (zl_in h3 hL (by decide)) dL_law_1450 ?_
      obtain ⟨R1, hf1, hI2, hM1⟩ := K_X11_shift_4_0 l D cs k H.size ad z hI (xs (x3 + (1 : Int32)).toNatClampNeg) (xs (x3 + (2 : Int32)).toNatClampNeg) (xs (x3 + (3 : Int32)).toNatClampNeg) (xs (x3 + (4 : Int32)).toNatClampNeg) (xs (x3 + (5 : Int32)).toNatClampNeg) hp0 hp1
      refine zk_LXi (As := [.int (xs (x3 + (1 : Int32)).toNatClampNeg), .int (xs (x3 + (2 : Int32)).toNatClampNeg), .int (xs (x3 + (3 : Int32)).toNatClampNeg), .int (xs (x3 + (4 : Int32)).toNatClampNeg), .int (xs (x3 + (5 : Int32)).toNatClampNeg)]) (rest := []) hE hO hM1 ⟨hx, hb, hml, hown, ht⟩ (cwV 5 ht gl_162 rfl rfl rfl (by decide +kernel) ⟨Nat.le_of_ble_eq_true rfl, Nat.le_of_ble_eq_true rfl⟩) (va_recv hK hP (ci := 11) (q0 := 44) rfl rfl) hP hD hS hK hA rfl hl.1 (Nat.le_of_ble_eq_true rfl) dL_law_1451 ⟨by show _ ≤ 600000; omega, by show _ ≤ 7302250; omega⟩ (fun H locs hP hD hS => ?_)
      refine lv_pop hx hb dL_law_1454 rfl ?_
      refine lv_aload_n hx hb dL_law_1455 rfl (lv_at hl 2 rfl) ?_
      refine lv_aload_n hx hb dL_law_1456 rfl (lv_at hl 0 rfl) ?_
      refine lv_iload_n hx hb dL_law_1457 rfl (lv_at hl 3 rfl) ?_
      refine lv_iconst (v := (1 : Int32)) hx hb dL_law_1458 (by decide) ?_
      refine lv_iadd hx hb dL_law_1459 ?_
      refine va_sld hx hb hX hbl hbA hS (zl_in h3 hL (by decide)) dL_law_1460 ?_
      refine lv_aload_n hx hb dL_law_1461 rfl (lv_at hl 0 rfl) ?_
      refine lv_iload_n hx hb dL_law_1462 rfl (lv_at hl 3 rfl) ?_
      refine lv_iconst (v := (2 : Int32)) hx hb dL_law_1463 (by decide) ?_
      refine lv_iadd hx hb dL_law_1464 ?_
      refine va_sld hx hb hX hbl hbA hS (zl_in h3 hL (by decide)) dL_law_1465 ?_
      refine lv_aload_n hx hb dL_law_1466 rfl (lv_at hl 0 rfl) ?_
      refine lv_iload_n hx hb dL_law_1467 rfl (lv_at hl 3 rfl) ?_
      refine lv_iconst (v := (3 : Int32)) hx hb dL_law_1468 (by decide) ?_
      refine lv_iadd hx hb dL_law_1469 ?_
      refine va_sld hx hb hX hbl hbA hS (zl_in h3 hL (by decide)) dL_law_1470 ?_
      refine lv_aload_n hx hb dL_law_1471 rfl (lv_at hl 0 rfl) ?_
      refine lv_iload_n hx hb dL_law_1472 rfl (lv_at hl 3 rfl) ?_
      refine lv_iconst (v := (4 : Int32)) hx hb dL_law_1473 (by decide) ?_
      refine lv_iadd hx hb dL_law_1474 ?_
      refine va_sld hx hb hX hbl hbA hS (zl_in h3 hL (by decide)) dL_law_1475 ?_
      refine lv_aload_n hx hb dL_law_1476 rfl (lv_at hl 0 rfl) ?_
      refine lv_iload_n hx hb dL_law_1477 rfl (lv_at hl 3 rfl) ?_
      refine lv_iconst (v := (5 : Int32)) hx hb dL_law_1478 (by decide) ?_
      refine lv_iadd hx hb dL_law_1479 ?_
      refine va_sld hx hb hX hbl hbA hS (zl_in h3 hL (by decide)) dL_law_1480 ?_
      obtain ⟨R2, hf2, hJ2, hM2⟩ := K_X12_shift l D cs k H.size am w hJ (xs (x3 + (1 : Int32)).toNatClampNeg) (xs (x3 + (2 : Int32)).toNatClampNeg) (xs (x3 + (3 : Int32)).toNatClampNeg) (xs (x3 + (4 : Int32)).toNatClampNeg) (xs (x3 + (5 : Int32)).toNatClampNeg)
      have hf3 := hf2
      rw [← (rl_0 hr :), ← (rl_5 hr :), ← (rl_6 hr :), ← (rl_7 hr :), ← (rl_12 hr :), ← (rl_15 hr :), ← (rl_17 hr :)] at hf3
      obtain ⟨EQ, E1, E2⟩ := pw_shiftB hp0 hp1 (rl_27 hr :) (rl_23 hr :) hf1 hf3
      have EQ2 : RL (z.1, z.2.1, (fun n => zc n 2 R1.2 (z.2.2.1 n)), z.2.2.2.1, z.2.2.2.2.1, z.2.2.2.2.2.1, z.2.2.2.2.2.2.1, z.2.2.2.2.2.2.2) (w.1, w.2.1, (fun n => zc n 0 R2.2.1 (zc n 1 R2.2.2 (w.2.2 n)))) := ⟨(rl_0 hr :), (rl_1 hr :), (rl_2 hr :), (rl_3 hr :), (rl_4 hr :), (rl_5 hr :), (rl_6 hr :), (rl_7 hr :), (rl_8 hr :), (rl_9 hr :), (rl_10 hr :), (rl_11 hr :), (rl_12 hr :), (rl_13 hr :), (rl_14 hr :), (rl_15 hr :), (rl_16 hr :), (rl_17 hr :), (rl_18 hr :), (rl_19 hr :), (rl_20 hr :), (rl_21 hr :), (rl_22 hr :), E1, (PLR_fr (rl_24 hr :) (Int.le_refl _) rfl rfl (fun k k1 k2 => E2 k (by omega))), (PLR_fr (rl_25 hr :) (Int.le_refl _) rfl rfl (fun k k1 k2 => E2 k (by omega))), (PLR_fr (rl_26 hr :) (Int.le_refl _) rfl rfl (fun k k1 k2 => E2 k (by omega))), (PLR_fr (rl_27 hr :) (Int.le_refl _) rfl rfl (fun k k1 k2 => E2 k (by omega))), (PLR_fr (rl_28 hr :) (Int.le_refl _) rfl rfl (fun k k1 k2 => E2 k (by omega))), (rl_29 hr :), (rl_30 hr :), (rl_31 hr :), (rl_32 hr :), (rl_33 hr :)⟩
      refine zk_LMi (As := [.int (xs (x3 + (1 : Int32)).toNatClampNeg), .int (xs (x3 + (2 : Int32)).toNatClampNeg), .int (xs (x3 + (3 : Int32)).toNatClampNeg), .int (xs (x3 + (4 : Int32)).toNatClampNeg), .int (xs (x3 + (5 : Int32)).toNatClampNeg)]) (rest := []) hE hO hM2 ⟨hx, hb, hml, hown, ht⟩ (cwV 5 ht gl_166 rfl rfl rfl (by decide +kernel) ⟨Nat.le_of_ble_eq_true rfl, Nat.le_of_ble_eq_true rfl⟩) (va_recv hK hP (ci := 12) (q0 := 0) rfl rfl) hP hD hS hK hA rfl hl.1 (Nat.le_of_ble_eq_true rfl) dL_law_1481 ⟨by show _ ≤ 600000; omega, by show _ ≤ 7302250; omega⟩ (fun H locs hP hD hS => ?_)
      refine lv_pop hx hb dL_law_1484 rfl ?_
      refine lv_goto (tgt := 1544) hx hb dL_law_1485 (by decide) ?_
      exact kk _ _ H locs ls _ _ hI2 hJ2 EQ2 (by omega) (by omega) hP hD hS (lv_sub hl [0, 1, 2, 3] rfl)
    · refine lv_aload_n hx hb dL_law_1425 rfl (lv_at hl 1 rfl) ?_
      refine lv_aload_n hx hb dL_law_1426 rfl (lv_at hl 0 rfl) ?_
      refine lv_iload_n hx hb dL_law_1427 rfl (lv_at hl 3 rfl) ?_
      refine lv_iconst (v := (1 : Int32)) hx hb dL_law_1428 (by decide) ?_
      refine lv_iadd hx hb dL_law_1429 ?_
      refine va_sld hx hb hX hbl hbA hS (zl_in h3 hL (by decide)) dL_law_1430 ?_
      refine lv_aload_n hx hb dL_law_1431 rfl (lv_at hl 0 rfl) ?_
      refine lv_iload_n hx hb dL_law_1432 rfl (lv_at hl 3 rfl) ?_
      refine lv_iconst (v := (2 : Int32)) hx hb dL_law_1433 (by decide) ?_
      refine lv_iadd hx hb dL_law_1434 ?_
      refine va_sld hx hb hX hbl hbA hS (zl_in h3 hL (by decide)) dL_law_1435 ?_
      refine lv_aload_n hx hb dL_law_1436 rfl (lv_at hl 0 rfl) ?_
      refine lv_iload_n hx hb dL_law_1437 rfl (lv_at hl 3 rfl) ?_
      refine lv_iconst (v := (3 : Int32)) hx hb dL_law_1438 (by decide) ?_
      refine lv_iadd hx hb dL_law_1439 ?_
      refine va_sld hx hb hX hbl hbA hS (zl_in h3 hL (by decide)) dL_law_1440 ?_
      refine lv_aload_n hx hb dL_law_1441 rfl (lv_at hl 0 rfl) ?_
      refine lv_iload_n hx hb dL_law_1442 rfl (lv_at hl 3 rfl) ?_
      refine lv_iconst (v := (4 : Int32)) hx hb dL_law_1443 (by decide) ?_
      refine lv_iadd hx hb dL_law_1444 ?_
      refine va_sld hx hb hX hbl hbA hS (zl_in h3 hL (by decide)) dL_law_1445 ?_
      refine lv_aload_n hx hb dL_law_1446 rfl (lv_at hl 0 rfl) ?_
      refine lv_iload_n hx hb dL_law_1447 rfl (lv_at hl 3 rfl) ?_
      refine lv_iconst (v := (5 : Int32)) hx hb dL_law_1448 (by decide) ?_
      refine lv_iadd hx hb dL_law_1449 ?_
      refine va_sld hx hb hX hbl hbA hS (zl_in h3 hL (by decide)) dL_law_1450 ?_
      obtain ⟨R1, hf1, hI2, hM1⟩ := K_X11_shift_4_1 l D cs k H.size ad z hI (xs (x3 + (1 : Int32)).toNatClampNeg) (xs (x3 + (2 : Int32)).toNatClampNeg) (xs (x3 + (3 : Int32)).toNatClampNeg) (xs (x3 + (4 : Int32)).toNatClampNeg) (xs (x3 + (5 : Int32)).toNatClampNeg) hp0 hp1
      refine zk_LXi (As := [.int (xs (x3 + (1 : Int32)).toNatClampNeg), .int (xs (x3 + (2 : Int32)).toNatClampNeg), .int (xs (x3 + (3 : Int32)).toNatClampNeg), .int (xs (x3 + (4 : Int32)).toNatClampNeg), .int (xs (x3 + (5 : Int32)).toNatClampNeg)]) (rest := []) hE hO hM1 ⟨hx, hb, hml, hown, ht⟩ (cwV 5 ht gl_162 rfl rfl rfl (by decide +kernel) ⟨Nat.le_of_ble_eq_true rfl, Nat.le_of_ble_eq_true rfl⟩) (va_recv hK hP (ci := 11) (q0 := 44) rfl rfl) hP hD hS hK hA rfl hl.1 (Nat.le_of_ble_eq_true rfl) dL_law_1451 ⟨by show _ ≤ 600000; omega, by show _ ≤ 7302250; omega⟩ (fun H locs hP hD hS => ?_)
      refine lv_pop hx hb dL_law_1454 rfl ?_
      refine lv_aload_n hx hb dL_law_1455 rfl (lv_at hl 2 rfl) ?_
      refine lv_aload_n hx hb dL_law_1456 rfl (lv_at hl 0 rfl) ?_
      refine lv_iload_n hx hb dL_law_1457 rfl (lv_at hl 3 rfl) ?_
      refine lv_iconst (v := (1 : Int32)) hx hb dL_law_1458 (by decide) ?_
      refine lv_iadd hx hb dL_law_1459 ?_
      refine va_sld hx hb hX hbl hbA hS (zl_in h3 hL (by decide)) dL_law_1460 ?_
      refine lv_aload_n hx hb dL_law_1461 rfl (lv_at hl 0 rfl) ?_
      refine lv_iload_n hx hb dL_law_1462 rfl (lv_at hl 3 rfl) ?_
      refine lv_iconst (v := (2 : Int32)) hx hb dL_law_1463 (by decide) ?_
      refine lv_iadd hx hb dL_law_1464 ?_
      refine va_sld hx hb hX hbl hbA hS (zl_in h3 hL (by decide)) dL_law_1465 ?_
      refine lv_aload_n hx hb dL_law_1466 rfl (lv_at hl 0 rfl) ?_
      refine lv_iload_n hx hb dL_law_1467 rfl (lv_at hl 3 rfl) ?_
      refine lv_iconst (v := (3 : Int32)) hx hb dL_law_1468 (by decide) ?_
      refine lv_iadd hx hb dL_law_1469 ?_
      refine va_sld hx hb hX hbl hbA hS (zl_in h3 hL (by decide)) dL_law_1470 ?_
      refine lv_aload_n hx hb dL_law_1471 rfl (lv_at hl 0 rfl) ?_
      refine lv_iload_n hx hb dL_law_1472 rfl (lv_at hl 3 rfl) ?_
      refine lv_iconst (v := (4 : Int32)) hx hb dL_law_1473 (by decide) ?_
      refine lv_iadd hx hb dL_law_1474 ?_
      refine va_sld hx hb hX hbl hbA hS (zl_in h3 hL (by decide)) dL_law_1475 ?_
      refine lv_aload_n hx hb dL_law_1476 rfl (lv_at hl 0 rfl) ?_
      refine lv_iload_n hx hb dL_law_1477 rfl (lv_at hl 3 rfl) ?_
      refine lv_iconst (v := (5 : Int32)) hx hb dL_law_1478 (by decide) ?_
      refine lv_iadd hx hb dL_law_1479 ?_
      refine va_sld hx hb hX hbl hbA hS (zl_in h3 hL (by decide)) dL_law_1480 ?_
      obtain ⟨R2, hf2, hJ2, hM2⟩ := K_X12_shift l D cs k H.size am w hJ (xs (x3 + (1 : Int32)).toNatClampNeg) (xs (x3 + (2 : Int32)).toNatClampNeg) (xs (x3 + (3 : Int32)).toNatClampNeg) (xs (x3 + (4 : Int32)).toNatClampNeg) (xs (x3 + (5 : Int32)).toNatClampNeg)
      have hf3 := hf2
      rw [← (rl_0 hr :), ← (rl_5 hr :), ← (rl_6 hr :), ← (rl_7 hr :), ← (rl_12 hr :), ← (rl_15 hr :), ← (rl_17 hr :)] at hf3
      obtain ⟨EQ, E1, E2⟩ := pw_shiftB hp0 hp1 (rl_27 hr :) (rl_24 hr :) hf1 hf3
      have EQ2 : RL (z.1, z.2.1, (fun n => zc n 3 R1.2 (z.2.2.1 n)), z.2.2.2.1, z.2.2.2.2.1, z.2.2.2.2.2.1, z.2.2.2.2.2.2.1, z.2.2.2.2.2.2.2) (w.1, w.2.1, (fun n => zc n 0 R2.2.1 (zc n 1 R2.2.2 (w.2.2 n)))) := ⟨(rl_0 hr :), (rl_1 hr :), (rl_2 hr :), (rl_3 hr :), (rl_4 hr :), (rl_5 hr :), (rl_6 hr :), (rl_7 hr :), (rl_8 hr :), (rl_9 hr :), (rl_10 hr :), (rl_11 hr :), (rl_12 hr :), (rl_13 hr :), (rl_14 hr :), (rl_15 hr :), (rl_16 hr :), (rl_17 hr :), (rl_18 hr :), (rl_19 hr :), (rl_20 hr :), (rl_21 hr :), (rl_22 hr :), (PLR_fr (rl_23 hr :) (Int.le_refl _) rfl rfl (fun k k1 k2 => E2 k (by omega))), E1, (PLR_fr (rl_25 hr :) (Int.le_refl _) rfl rfl (fun k k1 k2 => E2 k (by omega))), (PLR_fr (rl_26 hr :) (Int.le_refl _) rfl rfl (fun k k1 k2 => E2 k (by omega))), (PLR_fr (rl_27 hr :) (Int.le_refl _) rfl rfl (fun k k1 k2 => E2 k (by omega))), (PLR_fr (rl_28 hr :) (Int.le_refl _) rfl rfl (fun k k1 k2 => E2 k (by omega))), (rl_29 hr :), (rl_30 hr :), (rl_31 hr :), (rl_32 hr :), (rl_33 hr :)⟩
      refine zk_LMi (As := [.int (xs (x3 + (1 : Int32)).toNatClampNeg), .int (xs (x3 + (2 : Int32)).toNatClampNeg), .int (xs (x3 + (3 : Int32)).toNatClampNeg), .int (xs (x3 + (4 : Int32)).toNatClampNeg), .int (xs (x3 + (5 : Int32)).toNatClampNeg)]) (rest := []) hE hO hM2 ⟨hx, hb, hml, hown, ht⟩ (cwV 5 ht gl_166 rfl rfl rfl (by decide +kernel) ⟨Nat.le_of_ble_eq_true rfl, Nat.le_of_ble_eq_true rfl⟩) (va_recv hK hP (ci := 12) (q0 := 0) rfl rfl) hP hD hS hK hA rfl hl.1 (Nat.le_of_ble_eq_true rfl) dL_law_1481 ⟨by show _ ≤ 600000; omega, by show _ ≤ 7302250; omega⟩ (fun H locs hP hD hS => ?_)
      refine lv_pop hx hb dL_law_1484 rfl ?_
      refine lv_goto (tgt := 1544) hx hb dL_law_1485 (by decide) ?_
      exact kk _ _ H locs ls _ _ hI2 hJ2 EQ2 (by omega) (by omega) hP hD hS (lv_sub hl [0, 1, 2, 3] rfl)
    · refine lv_aload_n hx hb dL_law_1425 rfl (lv_at hl 1 rfl) ?_
      refine lv_aload_n hx hb dL_law_1426 rfl (lv_at hl 0 rfl) ?_
      refine lv_iload_n hx hb dL_law_1427 rfl (lv_at hl 3 rfl) ?_
      refine lv_iconst (v := (1 : Int32)) hx hb dL_law_1428 (by decide) ?_
      refine lv_iadd hx hb dL_law_1429 ?_
      refine va_sld hx hb hX hbl hbA hS (zl_in h3 hL (by decide)) dL_law_1430 ?_
      refine lv_aload_n hx hb dL_law_1431 rfl (lv_at hl 0 rfl) ?_
      refine lv_iload_n hx hb dL_law_1432 rfl (lv_at hl 3 rfl) ?_
      refine lv_iconst (v := (2 : Int32)) hx hb dL_law_1433 (by decide) ?_
      refine lv_iadd hx hb dL_law_1434 ?_
      refine va_sld hx hb hX hbl hbA hS (zl_in h3 hL (by decide)) dL_law_1435 ?_
      refine lv_aload_n hx hb dL_law_1436 rfl (lv_at hl 0 rfl) ?_
      refine lv_iload_n hx hb dL_law_1437 rfl (lv_at hl 3 rfl) ?_
      refine lv_iconst (v := (3 : Int32)) hx hb dL_law_1438 (by decide) ?_
      refine lv_iadd hx hb dL_law_1439 ?_
      refine va_sld hx hb hX hbl hbA hS (zl_in h3 hL (by decide)) dL_law_1440 ?_
      refine lv_aload_n hx hb dL_law_1441 rfl (lv_at hl 0 rfl) ?_
      refine lv_iload_n hx hb dL_law_1442 rfl (lv_at hl 3 rfl) ?_
      refine lv_iconst (v := (4 : Int32)) hx hb dL_law_1443 (by decide) ?_
      refine lv_iadd hx hb dL_law_1444 ?_
      refine va_sld hx hb hX hbl hbA hS (zl_in h3 hL (by decide)) dL_law_1445 ?_
      refine lv_aload_n hx hb dL_law_1446 rfl (lv_at hl 0 rfl) ?_
      refine lv_iload_n hx hb dL_law_1447 rfl (lv_at hl 3 rfl) ?_
      refine lv_iconst (v := (5 : Int32)) hx hb dL_law_1448 (by decide) ?_
      refine lv_iadd hx hb dL_law_1449 ?_
      refine va_sld hx hb hX hbl hbA hS (zl_in h3 hL (by decide)) dL_law_1450 ?_
      obtain ⟨R1, hf1, hI2, hM1⟩ := K_X11_shift_4_2 l D cs k H.size ad z hI (xs (x3 + (1 : Int32)).toNatClampNeg) (xs (x3 + (2 : Int32)).toNatClampNeg) (xs (x3 + (3 : Int32)).toNatClampNeg) (xs (x3 + (4 : Int32)).toNatClampNeg) (xs (x3 + (5 : Int32)).toNatClampNeg) hp0 hp1
      refine zk_LXi (As := [.int (xs (x3 + (1 : Int32)).toNatClampNeg), .int (xs (x3 + (2 : Int32)).toNatClampNeg), .int (xs (x3 + (3 : Int32)).toNatClampNeg), .int (xs (x3 + (4 : Int32)).toNatClampNeg), .int (xs (x3 + (5 : Int32)).toNatClampNeg)]) (rest := []) hE hO hM1 ⟨hx, hb, hml, hown, ht⟩ (cwV 5 ht gl_162 rfl rfl rfl (by decide +kernel) ⟨Nat.le_of_ble_eq_true rfl, Nat.le_of_ble_eq_true rfl⟩) (va_recv hK hP (ci := 11) (q0 := 44) rfl rfl) hP hD hS hK hA rfl hl.1 (Nat.le_of_ble_eq_true rfl) dL_law_1451 ⟨by show _ ≤ 600000; omega, by show _ ≤ 7302250; omega⟩ (fun H locs hP hD hS => ?_)
      refine lv_pop hx hb dL_law_1454 rfl ?_
      refine lv_aload_n hx hb dL_law_1455 rfl (lv_at hl 2 rfl) ?_
      refine lv_aload_n hx hb dL_law_1456 rfl (lv_at hl 0 rfl) ?_
      refine lv_iload_n hx hb dL_law_1457 rfl (lv_at hl 3 rfl) ?_
      refine lv_iconst (v := (1 : Int32)) hx hb dL_law_1458 (by decide) ?_
      refine lv_iadd hx hb dL_law_1459 ?_
      refine va_sld hx hb hX hbl hbA hS (zl_in h3 hL (by decide)) dL_law_1460 ?_
      refine lv_aload_n hx hb dL_law_1461 rfl (lv_at hl 0 rfl) ?_
      refine lv_iload_n hx hb dL_law_1462 rfl (lv_at hl 3 rfl) ?_
      refine lv_iconst (v := (2 : Int32)) hx hb dL_law_1463 (by decide) ?_
      refine lv_iadd hx hb dL_law_1464 ?_
      refine va_sld hx hb hX hbl hbA hS (zl_in h3 hL (by decide)) dL_law_1465 ?_
      refine lv_aload_n hx hb dL_law_1466 rfl (lv_at hl 0 rfl) ?_
      refine lv_iload_n hx hb dL_law_1467 rfl (lv_at hl 3 rfl) ?_
      refine lv_iconst (v := (3 : Int32)) hx hb dL_law_1468 (by decide) ?_
      refine lv_iadd hx hb dL_law_1469 ?_
      refine va_sld hx hb hX hbl hbA hS (zl_in h3 hL (by decide)) dL_law_1470 ?_
      refine lv_aload_n hx hb dL_law_1471 rfl (lv_at hl 0 rfl) ?_
      refine lv_iload_n hx hb dL_law_1472 rfl (lv_at hl 3 rfl) ?_
      refine lv_iconst (v := (4 : Int32)) hx hb dL_law_1473 (by decide) ?_
      refine lv_iadd hx hb dL_law_1474 ?_
      refine va_sld hx hb hX hbl hbA hS (zl_in h3 hL (by decide)) dL_law_1475 ?_
      refine lv_aload_n hx hb dL_law_1476 rfl (lv_at hl 0 rfl) ?_
      refine lv_iload_n hx hb dL_law_1477 rfl (lv_at hl 3 rfl) ?_
      refine lv_iconst (v := (5 : Int32)) hx hb dL_law_1478 (by decide) ?_
      refine lv_iadd hx hb dL_law_1479 ?_
      refine va_sld hx hb hX hbl hbA hS (zl_in h3 hL (by decide)) dL_law_1480 ?_
      obtain ⟨R2, hf2, hJ2, hM2⟩ := K_X12_shift l D cs k H.size am w hJ (xs (x3 + (1 : Int32)).toNatClampNeg) (xs (x3 + (2 : Int32)).toNatClampNeg) (xs (x3 + (3 : Int32)).toNatClampNeg) (xs (x3 + (4 : Int32)).toNatClampNeg) (xs (x3 + (5 : Int32)).toNatClampNeg)
      have hf3 := hf2
      rw [← (rl_0 hr :), ← (rl_5 hr :), ← (rl_6 hr :), ← (rl_7 hr :), ← (rl_12 hr :), ← (rl_15 hr :), ← (rl_17 hr :)] at hf3
      obtain ⟨EQ, E1, E2⟩ := pw_shiftB hp0 hp1 (rl_27 hr :) (rl_25 hr :) hf1 hf3
      have EQ2 : RL (z.1, z.2.1, (fun n => zc n 4 R1.2 (z.2.2.1 n)), z.2.2.2.1, z.2.2.2.2.1, z.2.2.2.2.2.1, z.2.2.2.2.2.2.1, z.2.2.2.2.2.2.2) (w.1, w.2.1, (fun n => zc n 0 R2.2.1 (zc n 1 R2.2.2 (w.2.2 n)))) := ⟨(rl_0 hr :), (rl_1 hr :), (rl_2 hr :), (rl_3 hr :), (rl_4 hr :), (rl_5 hr :), (rl_6 hr :), (rl_7 hr :), (rl_8 hr :), (rl_9 hr :), (rl_10 hr :), (rl_11 hr :), (rl_12 hr :), (rl_13 hr :), (rl_14 hr :), (rl_15 hr :), (rl_16 hr :), (rl_17 hr :), (rl_18 hr :), (rl_19 hr :), (rl_20 hr :), (rl_21 hr :), (rl_22 hr :), (PLR_fr (rl_23 hr :) (Int.le_refl _) rfl rfl (fun k k1 k2 => E2 k (by omega))), (PLR_fr (rl_24 hr :) (Int.le_refl _) rfl rfl (fun k k1 k2 => E2 k (by omega))), E1, (PLR_fr (rl_26 hr :) (Int.le_refl _) rfl rfl (fun k k1 k2 => E2 k (by omega))), (PLR_fr (rl_27 hr :) (Int.le_refl _) rfl rfl (fun k k1 k2 => E2 k (by omega))), (PLR_fr (rl_28 hr :) (Int.le_refl _) rfl rfl (fun k k1 k2 => E2 k (by omega))), (rl_29 hr :), (rl_30 hr :), (rl_31 hr :), (rl_32 hr :), (rl_33 hr :)⟩
      refine zk_LMi (As := [.int (xs (x3 + (1 : Int32)).toNatClampNeg), .int (xs (x3 + (2 : Int32)).toNatClampNeg), .int (xs (x3 + (3 : Int32)).toNatClampNeg), .int (xs (x3 + (4 : Int32)).toNatClampNeg), .int (xs (x3 + (5 : Int32)).toNatClampNeg)]) (rest := []) hE hO hM2 ⟨hx, hb, hml, hown, ht⟩ (cwV 5 ht gl_166 rfl rfl rfl (by decide +kernel) ⟨Nat.le_of_ble_eq_true rfl, Nat.le_of_ble_eq_true rfl⟩) (va_recv hK hP (ci := 12) (q0 := 0) rfl rfl) hP hD hS hK hA rfl hl.1 (Nat.le_of_ble_eq_true rfl) dL_law_1481 ⟨by show _ ≤ 600000; omega, by show _ ≤ 7302250; omega⟩ (fun H locs hP hD hS => ?_)
      refine lv_pop hx hb dL_law_1484 rfl ?_
      refine lv_goto (tgt := 1544) hx hb dL_law_1485 (by decide) ?_
      exact kk _ _ H locs ls _ _ hI2 hJ2 EQ2 (by omega) (by omega) hP hD hS (lv_sub hl [0, 1, 2, 3] rfl)
    · refine lv_aload_n hx hb dL_law_1425 rfl (lv_at hl 1 rfl) ?_
      refine lv_aload_n hx hb dL_law_1426 rfl (lv_at hl 0 rfl) ?_
      refine lv_iload_n hx hb dL_law_1427 rfl (lv_at hl 3 rfl) ?_
      refine lv_iconst (v := (1 : Int32)) hx hb dL_law_1428 (by decide) ?_
      refine lv_iadd hx hb dL_law_1429 ?_
      refine va_sld hx hb hX hbl hbA hS (zl_in h3 hL (by decide)) dL_law_1430 ?_
      refine lv_aload_n hx hb dL_law_1431 rfl (lv_at hl 0 rfl) ?_
      refine lv_iload_n hx hb dL_law_1432 rfl (lv_at hl 3 rfl) ?_
      refine lv_iconst (v := (2 : Int32)) hx hb dL_law_1433 (by decide) ?_
      refine lv_iadd hx hb dL_law_1434 ?_
      refine va_sld hx hb hX hbl hbA hS (zl_in h3 hL (by decide)) dL_law_1435 ?_
      refine lv_aload_n hx hb dL_law_1436 rfl (lv_at hl 0 rfl) ?_
      refine lv_iload_n hx hb dL_law_1437 rfl (lv_at hl 3 rfl) ?_
      refine lv_iconst (v := (3 : Int32)) hx hb dL_law_1438 (by decide) ?_
      refine lv_iadd hx hb dL_law_1439 ?_
      refine va_sld hx hb hX hbl hbA hS (zl_in h3 hL (by decide)) dL_law_1440 ?_
      refine lv_aload_n hx hb dL_law_1441 rfl (lv_at hl 0 rfl) ?_
      refine lv_iload_n hx hb dL_law_1442 rfl (lv_at hl 3 rfl) ?_
      refine lv_iconst (v := (4 : Int32)) hx hb dL_law_1443 (by decide) ?_
      refine lv_iadd hx hb dL_law_1444 ?_
      refine va_sld hx hb hX hbl hbA hS (zl_in h3 hL (by decide)) dL_law_1445 ?_
      refine lv_aload_n hx hb dL_law_1446 rfl (lv_at hl 0 rfl) ?_
      refine lv_iload_n hx hb dL_law_1447 rfl (lv_at hl 3 rfl) ?_
      refine lv_iconst (v := (5 : Int32)) hx hb dL_law_1448 (by decide) ?_
      refine lv_iadd hx hb dL_law_1449 ?_
      refine va_sld hx hb hX hbl hbA hS (zl_in h3 hL (by decide)) dL_law_1450 ?_
      obtain ⟨R1, hf1, hI2, hM1⟩ := K_X11_shift_4_3 l D cs k H.size ad z hI (xs (x3 + (1 : Int32)).toNatClampNeg) (xs (x3 + (2 : Int32)).toNatClampNeg) (xs (x3 + (3 : Int32)).toNatClampNeg) (xs (x3 + (4 : Int32)).toNatClampNeg) (xs (x3 + (5 : Int32)).toNatClampNeg) hp0 hp1
      refine zk_LXi (As := [.int (xs (x3 + (1 : Int32)).toNatClampNeg), .int (xs (x3 + (2 : Int32)).toNatClampNeg), .int (xs (x3 + (3 : Int32)).toNatClampNeg), .int (xs (x3 + (4 : Int32)).toNatClampNeg), .int (xs (x3 + (5 : Int32)).toNatClampNeg)]) (rest := []) hE hO hM1 ⟨hx, hb, hml, hown, ht⟩ (cwV 5 ht gl_162 rfl rfl rfl (by decide +kernel) ⟨Nat.le_of_ble_eq_true rfl, Nat.le_of_ble_eq_true rfl⟩) (va_recv hK hP (ci := 11) (q0 := 44) rfl rfl) hP hD hS hK hA rfl hl.1 (Nat.le_of_ble_eq_true rfl) dL_law_1451 ⟨by show _ ≤ 600000; omega, by show _ ≤ 7302250; omega⟩ (fun H locs hP hD hS => ?_)
      refine lv_pop hx hb dL_law_1454 rfl ?_
      refine lv_aload_n hx hb dL_law_1455 rfl (lv_at hl 2 rfl) ?_
      refine lv_aload_n hx hb dL_law_1456 rfl (lv_at hl 0 rfl) ?_
      refine lv_iload_n hx hb dL_law_1457 rfl (lv_at hl 3 rfl) ?_
      refine lv_iconst (v := (1 : Int32)) hx hb dL_law_1458 (by decide) ?_
      refine lv_iadd hx hb dL_law_1459 ?_
      refine va_sld hx hb hX hbl hbA hS (zl_in h3 hL (by decide)) dL_law_1460 ?_
      refine lv_aload_n hx hb dL_law_1461 rfl (lv_at hl 0 rfl) ?_
      refine lv_iload_n hx hb dL_law_1462 rfl (lv_at hl 3 rfl) ?_
      refine lv_iconst (v := (2 : Int32)) hx hb dL_law_1463 (by decide) ?_
      refine lv_iadd hx hb dL_law_1464 ?_
      refine va_sld hx hb hX hbl hbA hS (zl_in h3 hL (by decide)) dL_law_1465 ?_
      refine lv_aload_n hx hb dL_law_1466 rfl (lv_at hl 0 rfl) ?_
      refine lv_iload_n hx hb dL_law_1467 rfl (lv_at hl 3 rfl) ?_
      refine lv_iconst (v := (3 : Int32)) hx hb dL_law_1468 (by decide) ?_
      refine lv_iadd hx hb dL_law_1469 ?_
      refine va_sld hx hb hX hbl hbA hS (zl_in h3 hL (by decide)) dL_law_1470 ?_
      refine lv_aload_n hx hb dL_law_1471 rfl (lv_at hl 0 rfl) ?_
      refine lv_iload_n hx hb dL_law_1472 rfl (lv_at hl 3 rfl) ?_
      refine lv_iconst (v := (4 : Int32)) hx hb dL_law_1473 (by decide) ?_
      refine lv_iadd hx hb dL_law_1474 ?_
      refine va_sld hx hb hX hbl hbA hS (zl_in h3 hL (by decide)) dL_law_1475 ?_
      refine lv_aload_n hx hb dL_law_1476 rfl (lv_at hl 0 rfl) ?_
      refine lv_iload_n hx hb dL_law_1477 rfl (lv_at hl 3 rfl) ?_
      refine lv_iconst (v := (5 : Int32)) hx hb dL_law_1478 (by decide) ?_
      refine lv_iadd hx hb dL_law_1479 ?_
      refine va_sld hx hb hX hbl hbA hS (zl_in h3 hL (by decide)) dL_law_1480 ?_
      obtain ⟨R2, hf2, hJ2, hM2⟩ := K_X12_shift l D cs k H.size am w hJ (xs (x3 + (1 : Int32)).toNatClampNeg) (xs (x3 + (2 : Int32)).toNatClampNeg) (xs (x3 + (3 : Int32)).toNatClampNeg) (xs (x3 + (4 : Int32)).toNatClampNeg) (xs (x3 + (5 : Int32)).toNatClampNeg)
      have hf3 := hf2
      rw [← (rl_0 hr :), ← (rl_5 hr :), ← (rl_6 hr :), ← (rl_7 hr :), ← (rl_12 hr :), ← (rl_15 hr :), ← (rl_17 hr :)] at hf3
      obtain ⟨EQ, E1, E2⟩ := pw_shiftB hp0 hp1 (rl_27 hr :) (rl_26 hr :) hf1 hf3
      have EQ2 : RL (z.1, z.2.1, (fun n => zc n 5 R1.2 (z.2.2.1 n)), z.2.2.2.1, z.2.2.2.2.1, z.2.2.2.2.2.1, z.2.2.2.2.2.2.1, z.2.2.2.2.2.2.2) (w.1, w.2.1, (fun n => zc n 0 R2.2.1 (zc n 1 R2.2.2 (w.2.2 n)))) := ⟨(rl_0 hr :), (rl_1 hr :), (rl_2 hr :), (rl_3 hr :), (rl_4 hr :), (rl_5 hr :), (rl_6 hr :), (rl_7 hr :), (rl_8 hr :), (rl_9 hr :), (rl_10 hr :), (rl_11 hr :), (rl_12 hr :), (rl_13 hr :), (rl_14 hr :), (rl_15 hr :), (rl_16 hr :), (rl_17 hr :), (rl_18 hr :), (rl_19 hr :), (rl_20 hr :), (rl_21 hr :), (rl_22 hr :), (PLR_fr (rl_23 hr :) (Int.le_refl _) rfl rfl (fun k k1 k2 => E2 k (by omega))), (PLR_fr (rl_24 hr :) (Int.le_refl _) rfl rfl (fun k k1 k2 => E2 k (by omega))), (PLR_fr (rl_25 hr :) (Int.le_refl _) rfl rfl (fun k k1 k2 => E2 k (by omega))), E1, (PLR_fr (rl_27 hr :) (Int.le_refl _) rfl rfl (fun k k1 k2 => E2 k (by omega))), (PLR_fr (rl_28 hr :) (Int.le_refl _) rfl rfl (fun k k1 k2 => E2 k (by omega))), (rl_29 hr :), (rl_30 hr :), (rl_31 hr :), (rl_32 hr :), (rl_33 hr :)⟩
      refine zk_LMi (As := [.int (xs (x3 + (1 : Int32)).toNatClampNeg), .int (xs (x3 + (2 : Int32)).toNatClampNeg), .int (xs (x3 + (3 : Int32)).toNatClampNeg), .int (xs (x3 + (4 : Int32)).toNatClampNeg), .int (xs (x3 + (5 : Int32)).toNatClampNeg)]) (rest := []) hE hO hM2 ⟨hx, hb, hml, hown, ht⟩ (cwV 5 ht gl_166 rfl rfl rfl (by decide +kernel) ⟨Nat.le_of_ble_eq_true rfl, Nat.le_of_ble_eq_true rfl⟩) (va_recv hK hP (ci := 12) (q0 := 0) rfl rfl) hP hD hS hK hA rfl hl.1 (Nat.le_of_ble_eq_true rfl) dL_law_1481 ⟨by show _ ≤ 600000; omega, by show _ ≤ 7302250; omega⟩ (fun H locs hP hD hS => ?_)
      refine lv_pop hx hb dL_law_1484 rfl ?_
      refine lv_goto (tgt := 1544) hx hb dL_law_1485 (by decide) ?_
      exact kk _ _ H locs ls _ _ hI2 hJ2 EQ2 (by omega) (by omega) hP hD hS (lv_sub hl [0, 1, 2, 3] rfl)
    · refine lv_aload_n hx hb dL_law_1425 rfl (lv_at hl 1 rfl) ?_
      refine lv_aload_n hx hb dL_law_1426 rfl (lv_at hl 0 rfl) ?_
      refine lv_iload_n hx hb dL_law_1427 rfl (lv_at hl 3 rfl) ?_
      refine lv_iconst (v := (1 : Int32)) hx hb dL_law_1428 (by decide) ?_
      refine lv_iadd hx hb dL_law_1429 ?_
      refine va_sld hx hb hX hbl hbA hS (zl_in h3 hL (by decide)) dL_law_1430 ?_
      refine lv_aload_n hx hb dL_law_1431 rfl (lv_at hl 0 rfl) ?_
      refine lv_iload_n hx hb dL_law_1432 rfl (lv_at hl 3 rfl) ?_
      refine lv_iconst (v := (2 : Int32)) hx hb dL_law_1433 (by decide) ?_
      refine lv_iadd hx hb dL_law_1434 ?_
      refine va_sld hx hb hX hbl hbA hS (zl_in h3 hL (by decide)) dL_law_1435 ?_
      refine lv_aload_n hx hb dL_law_1436 rfl (lv_at hl 0 rfl) ?_
      refine lv_iload_n hx hb dL_law_1437 rfl (lv_at hl 3 rfl) ?_
      refine lv_iconst (v := (3 : Int32)) hx hb dL_law_1438 (by decide) ?_
      refine lv_iadd hx hb dL_law_1439 ?_
      refine va_sld hx hb hX hbl hbA hS (zl_in h3 hL (by decide)) dL_law_1440 ?_
      refine lv_aload_n hx hb dL_law_1441 rfl (lv_at hl 0 rfl) ?_
      refine lv_iload_n hx hb dL_law_1442 rfl (lv_at hl 3 rfl) ?_
      refine lv_iconst (v := (4 : Int32)) hx hb dL_law_1443 (by decide) ?_
      refine lv_iadd hx hb dL_law_1444 ?_
      refine va_sld hx hb hX hbl hbA hS (zl_in h3 hL (by decide)) dL_law_1445 ?_
      refine lv_aload_n hx hb dL_law_1446 rfl (lv_at hl 0 rfl) ?_
      refine lv_iload_n hx hb dL_law_1447 rfl (lv_at hl 3 rfl) ?_
      refine lv_iconst (v := (5 : Int32)) hx hb dL_law_1448 (by decide) ?_
      refine lv_iadd hx hb dL_law_1449 ?_
      refine va_sld hx hb hX hbl hbA hS (zl_in h3 hL (by decide)) dL_law_1450 ?_
      obtain ⟨R1, hf1, hI2, hM1⟩ := K_X11_shift_4A l D cs k H.size ad z hI (xs (x3 + (1 : Int32)).toNatClampNeg) (xs (x3 + (2 : Int32)).toNatClampNeg) (xs (x3 + (3 : Int32)).toNatClampNeg) (xs (x3 + (4 : Int32)).toNatClampNeg) (xs (x3 + (5 : Int32)).toNatClampNeg) hp0 hp1
      refine zk_LXi (As := [.int (xs (x3 + (1 : Int32)).toNatClampNeg), .int (xs (x3 + (2 : Int32)).toNatClampNeg), .int (xs (x3 + (3 : Int32)).toNatClampNeg), .int (xs (x3 + (4 : Int32)).toNatClampNeg), .int (xs (x3 + (5 : Int32)).toNatClampNeg)]) (rest := []) hE hO hM1 ⟨hx, hb, hml, hown, ht⟩ (cwV 5 ht gl_162 rfl rfl rfl (by decide +kernel) ⟨Nat.le_of_ble_eq_true rfl, Nat.le_of_ble_eq_true rfl⟩) (va_recv hK hP (ci := 11) (q0 := 44) rfl rfl) hP hD hS hK hA rfl hl.1 (Nat.le_of_ble_eq_true rfl) dL_law_1451 ⟨by show _ ≤ 600000; omega, by show _ ≤ 7302250; omega⟩ (fun H locs hP hD hS => ?_)
      refine lv_pop hx hb dL_law_1454 rfl ?_
      refine lv_aload_n hx hb dL_law_1455 rfl (lv_at hl 2 rfl) ?_
      refine lv_aload_n hx hb dL_law_1456 rfl (lv_at hl 0 rfl) ?_
      refine lv_iload_n hx hb dL_law_1457 rfl (lv_at hl 3 rfl) ?_
      refine lv_iconst (v := (1 : Int32)) hx hb dL_law_1458 (by decide) ?_
      refine lv_iadd hx hb dL_law_1459 ?_
      refine va_sld hx hb hX hbl hbA hS (zl_in h3 hL (by decide)) dL_law_1460 ?_
      refine lv_aload_n hx hb dL_law_1461 rfl (lv_at hl 0 rfl) ?_
      refine lv_iload_n hx hb dL_law_1462 rfl (lv_at hl 3 rfl) ?_
      refine lv_iconst (v := (2 : Int32)) hx hb dL_law_1463 (by decide) ?_
      refine lv_iadd hx hb dL_law_1464 ?_
      refine va_sld hx hb hX hbl hbA hS (zl_in h3 hL (by decide)) dL_law_1465 ?_
      refine lv_aload_n hx hb dL_law_1466 rfl (lv_at hl 0 rfl) ?_
      refine lv_iload_n hx hb dL_law_1467 rfl (lv_at hl 3 rfl) ?_
      refine lv_iconst (v := (3 : Int32)) hx hb dL_law_1468 (by decide) ?_
      refine lv_iadd hx hb dL_law_1469 ?_
      refine va_sld hx hb hX hbl hbA hS (zl_in h3 hL (by decide)) dL_law_1470 ?_
      refine lv_aload_n hx hb dL_law_1471 rfl (lv_at hl 0 rfl) ?_
      refine lv_iload_n hx hb dL_law_1472 rfl (lv_at hl 3 rfl) ?_
      refine lv_iconst (v := (4 : Int32)) hx hb dL_law_1473 (by decide) ?_
      refine lv_iadd hx hb dL_law_1474 ?_
      refine va_sld hx hb hX hbl hbA hS (zl_in h3 hL (by decide)) dL_law_1475 ?_
      refine lv_aload_n hx hb dL_law_1476 rfl (lv_at hl 0 rfl) ?_
      refine lv_iload_n hx hb dL_law_1477 rfl (lv_at hl 3 rfl) ?_
      refine lv_iconst (v := (5 : Int32)) hx hb dL_law_1478 (by decide) ?_
      refine lv_iadd hx hb dL_law_1479 ?_
      refine va_sld hx hb hX hbl hbA hS (zl_in h3 hL (by decide)) dL_law_1480 ?_
      obtain ⟨R2, hf2, hJ2, hM2⟩ := K_X12_shift l D cs k H.size am w hJ (xs (x3 + (1 : Int32)).toNatClampNeg) (xs (x3 + (2 : Int32)).toNatClampNeg) (xs (x3 + (3 : Int32)).toNatClampNeg) (xs (x3 + (4 : Int32)).toNatClampNeg) (xs (x3 + (5 : Int32)).toNatClampNeg)
      have hf3 := hf2
      rw [← (rl_0 hr :), ← (rl_5 hr :), ← (rl_6 hr :), ← (rl_7 hr :), ← (rl_12 hr :), ← (rl_15 hr :), ← (rl_17 hr :)] at hf3
      obtain ⟨EQ, E1, E2⟩ := pw_shiftB hp0 hp1 (rl_27 hr :) (rl_27 hr :) (pw_shA hf1) hf3
      have EQ2 : RL (z.1, z.2.1, (fun n => zc n 6 R1.2 (z.2.2.1 n)), z.2.2.2.1, z.2.2.2.2.1, z.2.2.2.2.2.1, z.2.2.2.2.2.2.1, z.2.2.2.2.2.2.2) (w.1, w.2.1, (fun n => zc n 0 R2.2.1 (zc n 1 R2.2.2 (w.2.2 n)))) := ⟨(rl_0 hr :), (rl_1 hr :), (rl_2 hr :), (rl_3 hr :), (rl_4 hr :), (rl_5 hr :), (rl_6 hr :), (rl_7 hr :), (rl_8 hr :), (rl_9 hr :), (rl_10 hr :), (rl_11 hr :), (rl_12 hr :), (rl_13 hr :), (rl_14 hr :), (rl_15 hr :), (rl_16 hr :), (rl_17 hr :), (rl_18 hr :), (rl_19 hr :), (rl_20 hr :), (rl_21 hr :), (rl_22 hr :), (PLR_fr (rl_23 hr :) (Int.le_refl _) rfl rfl (fun k k1 k2 => E2 k (by omega))), (PLR_fr (rl_24 hr :) (Int.le_refl _) rfl rfl (fun k k1 k2 => E2 k (by omega))), (PLR_fr (rl_25 hr :) (Int.le_refl _) rfl rfl (fun k k1 k2 => E2 k (by omega))), (PLR_fr (rl_26 hr :) (Int.le_refl _) rfl rfl (fun k k1 k2 => E2 k (by omega))), E1, (PLR_fr (rl_28 hr :) (Int.le_refl _) rfl rfl (fun k k1 k2 => E2 k (by omega))), (rl_29 hr :), (rl_30 hr :), (rl_31 hr :), (rl_32 hr :), (rl_33 hr :)⟩
      refine zk_LMi (As := [.int (xs (x3 + (1 : Int32)).toNatClampNeg), .int (xs (x3 + (2 : Int32)).toNatClampNeg), .int (xs (x3 + (3 : Int32)).toNatClampNeg), .int (xs (x3 + (4 : Int32)).toNatClampNeg), .int (xs (x3 + (5 : Int32)).toNatClampNeg)]) (rest := []) hE hO hM2 ⟨hx, hb, hml, hown, ht⟩ (cwV 5 ht gl_166 rfl rfl rfl (by decide +kernel) ⟨Nat.le_of_ble_eq_true rfl, Nat.le_of_ble_eq_true rfl⟩) (va_recv hK hP (ci := 12) (q0 := 0) rfl rfl) hP hD hS hK hA rfl hl.1 (Nat.le_of_ble_eq_true rfl) dL_law_1481 ⟨by show _ ≤ 600000; omega, by show _ ≤ 7302250; omega⟩ (fun H locs hP hD hS => ?_)
      refine lv_pop hx hb dL_law_1484 rfl ?_
      refine lv_goto (tgt := 1544) hx hb dL_law_1485 (by decide) ?_
      exact kk _ _ H locs ls _ _ hI2 hJ2 EQ2 (by omega) (by omega) hP hD hS (lv_sub hl [0, 1, 2, 3] rfl)
    · refine lv_aload_n hx hb dL_law_1425 rfl (lv_at hl 1 rfl) ?_
      refine lv_aload_n hx hb dL_law_1426 rfl (lv_at hl 0 rfl) ?_
      refine lv_iload_n hx hb dL_law_1427 rfl (lv_at hl 3 rfl) ?_
      refine lv_iconst (v := (1 : Int32)) hx hb dL_law_1428 (by decide) ?_
      refine lv_iadd hx hb dL_law_1429 ?_
      refine va_sld hx hb hX hbl hbA hS (zl_in h3 hL (by decide)) dL_law_1430 ?_
      refine lv_aload_n hx hb dL_law_1431 rfl (lv_at hl 0 rfl) ?_
      refine lv_iload_n hx hb dL_law_1432 rfl (lv_at hl 3 rfl) ?_
      refine lv_iconst (v := (2 : Int32)) hx hb dL_law_1433 (by decide) ?_
      refine lv_iadd hx hb dL_law_1434 ?_
      refine va_sld hx hb hX hbl hbA hS (zl_in h3 hL (by decide)) dL_law_1435 ?_
      refine lv_aload_n hx hb dL_law_1436 rfl (lv_at hl 0 rfl) ?_
      refine lv_iload_n hx hb dL_law_1437 rfl (lv_at hl 3 rfl) ?_
      refine lv_iconst (v := (3 : Int32)) hx hb dL_law_1438 (by decide) ?_
      refine lv_iadd hx hb dL_law_1439 ?_
      refine va_sld hx hb hX hbl hbA hS (zl_in h3 hL (by decide)) dL_law_1440 ?_
      refine lv_aload_n hx hb dL_law_1441 rfl (lv_at hl 0 rfl) ?_
      refine lv_iload_n hx hb dL_law_1442 rfl (lv_at hl 3 rfl) ?_
      refine lv_iconst (v := (4 : Int32)) hx hb dL_law_1443 (by decide) ?_
      refine lv_iadd hx hb dL_law_1444 ?_
      refine va_sld hx hb hX hbl hbA hS (zl_in h3 hL (by decide)) dL_law_1445 ?_
      refine lv_aload_n hx hb dL_law_1446 rfl (lv_at hl 0 rfl) ?_
      refine lv_iload_n hx hb dL_law_1447 rfl (lv_at hl 3 rfl) ?_
      refine lv_iconst (v := (5 : Int32)) hx hb dL_law_1448 (by decide) ?_
      refine lv_iadd hx hb dL_law_1449 ?_
      refine va_sld hx hb hX hbl hbA hS (zl_in h3 hL (by decide)) dL_law_1450 ?_
      obtain ⟨R1, hf1, hI2, hM1⟩ := K_X11_shift_4_5 l D cs k H.size ad z hI (xs (x3 + (1 : Int32)).toNatClampNeg) (xs (x3 + (2 : Int32)).toNatClampNeg) (xs (x3 + (3 : Int32)).toNatClampNeg) (xs (x3 + (4 : Int32)).toNatClampNeg) (xs (x3 + (5 : Int32)).toNatClampNeg) hp0 hp1
      refine zk_LXi (As := [.int (xs (x3 + (1 : Int32)).toNatClampNeg), .int (xs (x3 + (2 : Int32)).toNatClampNeg), .int (xs (x3 + (3 : Int32)).toNatClampNeg), .int (xs (x3 + (4 : Int32)).toNatClampNeg), .int (xs (x3 + (5 : Int32)).toNatClampNeg)]) (rest := []) hE hO hM1 ⟨hx, hb, hml, hown, ht⟩ (cwV 5 ht gl_162 rfl rfl rfl (by decide +kernel) ⟨Nat.le_of_ble_eq_true rfl, Nat.le_of_ble_eq_true rfl⟩) (va_recv hK hP (ci := 11) (q0 := 44) rfl rfl) hP hD hS hK hA rfl hl.1 (Nat.le_of_ble_eq_true rfl) dL_law_1451 ⟨by show _ ≤ 600000; omega, by show _ ≤ 7302250; omega⟩ (fun H locs hP hD hS => ?_)
      refine lv_pop hx hb dL_law_1454 rfl ?_
      refine lv_aload_n hx hb dL_law_1455 rfl (lv_at hl 2 rfl) ?_
      refine lv_aload_n hx hb dL_law_1456 rfl (lv_at hl 0 rfl) ?_
      refine lv_iload_n hx hb dL_law_1457 rfl (lv_at hl 3 rfl) ?_
      refine lv_iconst (v := (1 : Int32)) hx hb dL_law_1458 (by decide) ?_
      refine lv_iadd hx hb dL_law_1459 ?_
      refine va_sld hx hb hX hbl hbA hS (zl_in h3 hL (by decide)) dL_law_1460 ?_
      refine lv_aload_n hx hb dL_law_1461 rfl (lv_at hl 0 rfl) ?_
      refine lv_iload_n hx hb dL_law_1462 rfl (lv_at hl 3 rfl) ?_
      refine lv_iconst (v := (2 : Int32)) hx hb dL_law_1463 (by decide) ?_
      refine lv_iadd hx hb dL_law_1464 ?_
      refine va_sld hx hb hX hbl hbA hS (zl_in h3 hL (by decide)) dL_law_1465 ?_
      refine lv_aload_n hx hb dL_law_1466 rfl (lv_at hl 0 rfl) ?_
      refine lv_iload_n hx hb dL_law_1467 rfl (lv_at hl 3 rfl) ?_
      refine lv_iconst (v := (3 : Int32)) hx hb dL_law_1468 (by decide) ?_
      refine lv_iadd hx hb dL_law_1469 ?_
      refine va_sld hx hb hX hbl hbA hS (zl_in h3 hL (by decide)) dL_law_1470 ?_
      refine lv_aload_n hx hb dL_law_1471 rfl (lv_at hl 0 rfl) ?_
      refine lv_iload_n hx hb dL_law_1472 rfl (lv_at hl 3 rfl) ?_
      refine lv_iconst (v := (4 : Int32)) hx hb dL_law_1473 (by decide) ?_
      refine lv_iadd hx hb dL_law_1474 ?_
      refine va_sld hx hb hX hbl hbA hS (zl_in h3 hL (by decide)) dL_law_1475 ?_
      refine lv_aload_n hx hb dL_law_1476 rfl (lv_at hl 0 rfl) ?_
      refine lv_iload_n hx hb dL_law_1477 rfl (lv_at hl 3 rfl) ?_
      refine lv_iconst (v := (5 : Int32)) hx hb dL_law_1478 (by decide) ?_
      refine lv_iadd hx hb dL_law_1479 ?_
      refine va_sld hx hb hX hbl hbA hS (zl_in h3 hL (by decide)) dL_law_1480 ?_
      obtain ⟨R2, hf2, hJ2, hM2⟩ := K_X12_shift l D cs k H.size am w hJ (xs (x3 + (1 : Int32)).toNatClampNeg) (xs (x3 + (2 : Int32)).toNatClampNeg) (xs (x3 + (3 : Int32)).toNatClampNeg) (xs (x3 + (4 : Int32)).toNatClampNeg) (xs (x3 + (5 : Int32)).toNatClampNeg)
      have hf3 := hf2
      rw [← (rl_0 hr :), ← (rl_5 hr :), ← (rl_6 hr :), ← (rl_7 hr :), ← (rl_12 hr :), ← (rl_15 hr :), ← (rl_17 hr :)] at hf3
      obtain ⟨EQ, E1, E2⟩ := pw_shiftB hp0 hp1 (rl_27 hr :) (rl_28 hr :) hf1 hf3
      have EQ2 : RL (z.1, z.2.1, (fun n => zc n 7 R1.2 (z.2.2.1 n)), z.2.2.2.1, z.2.2.2.2.1, z.2.2.2.2.2.1, z.2.2.2.2.2.2.1, z.2.2.2.2.2.2.2) (w.1, w.2.1, (fun n => zc n 0 R2.2.1 (zc n 1 R2.2.2 (w.2.2 n)))) := ⟨(rl_0 hr :), (rl_1 hr :), (rl_2 hr :), (rl_3 hr :), (rl_4 hr :), (rl_5 hr :), (rl_6 hr :), (rl_7 hr :), (rl_8 hr :), (rl_9 hr :), (rl_10 hr :), (rl_11 hr :), (rl_12 hr :), (rl_13 hr :), (rl_14 hr :), (rl_15 hr :), (rl_16 hr :), (rl_17 hr :), (rl_18 hr :), (rl_19 hr :), (rl_20 hr :), (rl_21 hr :), (rl_22 hr :), (PLR_fr (rl_23 hr :) (Int.le_refl _) rfl rfl (fun k k1 k2 => E2 k (by omega))), (PLR_fr (rl_24 hr :) (Int.le_refl _) rfl rfl (fun k k1 k2 => E2 k (by omega))), (PLR_fr (rl_25 hr :) (Int.le_refl _) rfl rfl (fun k k1 k2 => E2 k (by omega))), (PLR_fr (rl_26 hr :) (Int.le_refl _) rfl rfl (fun k k1 k2 => E2 k (by omega))), (PLR_fr (rl_27 hr :) (Int.le_refl _) rfl rfl (fun k k1 k2 => E2 k (by omega))), E1, (rl_29 hr :), (rl_30 hr :), (rl_31 hr :), (rl_32 hr :), (rl_33 hr :)⟩
      refine zk_LMi (As := [.int (xs (x3 + (1 : Int32)).toNatClampNeg), .int (xs (x3 + (2 : Int32)).toNatClampNeg), .int (xs (x3 + (3 : Int32)).toNatClampNeg), .int (xs (x3 + (4 : Int32)).toNatClampNeg), .int (xs (x3 + (5 : Int32)).toNatClampNeg)]) (rest := []) hE hO hM2 ⟨hx, hb, hml, hown, ht⟩ (cwV 5 ht gl_166 rfl rfl rfl (by decide +kernel) ⟨Nat.le_of_ble_eq_true rfl, Nat.le_of_ble_eq_true rfl⟩) (va_recv hK hP (ci := 12) (q0 := 0) rfl rfl) hP hD hS hK hA rfl hl.1 (Nat.le_of_ble_eq_true rfl) dL_law_1481 ⟨by show _ ≤ 600000; omega, by show _ ≤ 7302250; omega⟩ (fun H locs hP hD hS => ?_)
      refine lv_pop hx hb dL_law_1484 rfl ?_
      refine lv_goto (tgt := 1544) hx hb dL_law_1485 (by decide) ?_
      exact kk _ _ H locs ls _ _ hI2 hJ2 EQ2 (by omega) (by omega) hP hD hS (lv_sub hl [0, 1, 2, 3] rfl)
  · obtain ⟨j1, hj1, hp1⟩ := zk_pl (xs (x3 + (3 : Int32)).toNatClampNeg)
    rcases (show j1 = 0 ∨ j1 = 1 ∨ j1 = 2 ∨ j1 = 3 ∨ j1 = 4 ∨ j1 = 5 by omega) with rfl | rfl | rfl | rfl | rfl | rfl
    · refine lv_aload_n hx hb dL_law_1425 rfl (lv_at hl 1 rfl) ?_
      refine lv_aload_n hx hb dL_law_1426 rfl (lv_at hl 0 rfl) ?_
      refine lv_iload_n hx hb dL_law_1427 rfl (lv_at hl 3 rfl) ?_
      refine lv_iconst (v := (1 : Int32)) hx hb dL_law_1428 (by decide) ?_
      refine lv_iadd hx hb dL_law_1429 ?_
      refine va_sld hx hb hX hbl hbA hS (zl_in h3 hL (by decide)) dL_law_1430 ?_
      refine lv_aload_n hx hb dL_law_1431 rfl (lv_at hl 0 rfl) ?_
      refine lv_iload_n hx hb dL_law_1432 rfl (lv_at hl 3 rfl) ?_
      refine lv_iconst (v := (2 : Int32)) hx hb dL_law_1433 (by decide) ?_
      refine lv_iadd hx hb dL_law_1434 ?_
      refine va_sld hx hb hX hbl hbA hS (zl_in h3 hL (by decide)) dL_law_1435 ?_
      refine lv_aload_n hx hb dL_law_1436 rfl (lv_at hl 0 rfl) ?_
      refine lv_iload_n hx hb dL_law_1437 rfl (lv_at hl 3 rfl) ?_
      refine lv_iconst (v := (3 : Int32)) hx hb dL_law_1438 (by decide) ?_
      refine lv_iadd hx hb dL_law_1439 ?_
      refine va_sld hx hb hX hbl hbA hS (zl_in h3 hL (by decide)) dL_law_1440 ?_
      refine lv_aload_n hx hb dL_law_1441 rfl (lv_at hl 0 rfl) ?_
      refine lv_iload_n hx hb dL_law_1442 rfl (lv_at hl 3 rfl) ?_
      refine lv_iconst (v := (4 : Int32)) hx hb dL_law_1443 (by decide) ?_
      refine lv_iadd hx hb dL_law_1444 ?_
      refine va_sld hx hb hX hbl hbA hS (zl_in h3 hL (by decide)) dL_law_1445 ?_
      refine lv_aload_n hx hb dL_law_1446 rfl (lv_at hl 0 rfl) ?_
      refine lv_iload_n hx hb dL_law_1447 rfl (lv_at hl 3 rfl) ?_
      refine lv_iconst (v := (5 : Int32)) hx hb dL_law_1448 (by decide) ?_
      refine lv_iadd hx hb dL_law_1449 ?_
      refine va_sld hx hb hX hbl hbA hS (zl_in h3 hL (by decide)) dL_law_1450 ?_
      obtain ⟨R1, hf1, hI2, hM1⟩ := K_X11_shift_5_0 l D cs k H.size ad z hI (xs (x3 + (1 : Int32)).toNatClampNeg) (xs (x3 + (2 : Int32)).toNatClampNeg) (xs (x3 + (3 : Int32)).toNatClampNeg) (xs (x3 + (4 : Int32)).toNatClampNeg) (xs (x3 + (5 : Int32)).toNatClampNeg) hp0 hp1
      refine zk_LXi (As := [.int (xs (x3 + (1 : Int32)).toNatClampNeg), .int (xs (x3 + (2 : Int32)).toNatClampNeg), .int (xs (x3 + (3 : Int32)).toNatClampNeg), .int (xs (x3 + (4 : Int32)).toNatClampNeg), .int (xs (x3 + (5 : Int32)).toNatClampNeg)]) (rest := []) hE hO hM1 ⟨hx, hb, hml, hown, ht⟩ (cwV 5 ht gl_162 rfl rfl rfl (by decide +kernel) ⟨Nat.le_of_ble_eq_true rfl, Nat.le_of_ble_eq_true rfl⟩) (va_recv hK hP (ci := 11) (q0 := 44) rfl rfl) hP hD hS hK hA rfl hl.1 (Nat.le_of_ble_eq_true rfl) dL_law_1451 ⟨by show _ ≤ 600000; omega, by show _ ≤ 7302250; omega⟩ (fun H locs hP hD hS => ?_)
      refine lv_pop hx hb dL_law_1454 rfl ?_
      refine lv_aload_n hx hb dL_law_1455 rfl (lv_at hl 2 rfl) ?_
      refine lv_aload_n hx hb dL_law_1456 rfl (lv_at hl 0 rfl) ?_
      refine lv_iload_n hx hb dL_law_1457 rfl (lv_at hl 3 rfl) ?_
      refine lv_iconst (v := (1 : Int32)) hx hb dL_law_1458 (by decide) ?_
      refine lv_iadd hx hb dL_law_1459 ?_
      refine va_sld hx hb hX hbl hbA hS (zl_in h3 hL (by decide)) dL_law_1460 ?_
      refine lv_aload_n hx hb dL_law_1461 rfl (lv_at hl 0 rfl) ?_
      refine lv_iload_n hx hb dL_law_1462 rfl (lv_at hl 3 rfl) ?_
      refine lv_iconst (v := (2 : Int32)) hx hb dL_law_1463 (by decide) ?_
      refine lv_iadd hx hb dL_law_1464 ?_
      refine va_sld hx hb hX hbl hbA hS (zl_in h3 hL (by decide)) dL_law_1465 ?_
      refine lv_aload_n hx hb dL_law_1466 rfl (lv_at hl 0 rfl) ?_
      refine lv_iload_n hx hb dL_law_1467 rfl (lv_at hl 3 rfl) ?_
      refine lv_iconst (v := (3 : Int32)) hx hb dL_law_1468 (by decide) ?_
      refine lv_iadd hx hb dL_law_1469 ?_
      refine va_sld hx hb hX hbl hbA hS (zl_in h3 hL (by decide)) dL_law_1470 ?_
      refine lv_aload_n hx hb dL_law_1471 rfl (lv_at hl 0 rfl) ?_
      refine lv_iload_n hx hb dL_law_1472 rfl (lv_at hl 3 rfl) ?_
      refine lv_iconst (v := (4 : Int32)) hx hb dL_law_1473 (by decide) ?_
      refine lv_iadd hx hb dL_law_1474 ?_
      refine va_sld hx hb hX hbl hbA hS (zl_in h3 hL (by decide)) dL_law_1475 ?_
      refine lv_aload_n hx hb dL_law_1476 rfl (lv_at hl 0 rfl) ?_
      refine lv_iload_n hx hb dL_law_1477 rfl (lv_at hl 3 rfl) ?_
      refine lv_iconst (v := (5 : Int32)) hx hb dL_law_1478 (by decide) ?_
      refine lv_iadd hx hb dL_law_1479 ?_
      refine va_sld hx hb hX hbl hbA hS (zl_in h3 hL (by decide)) dL_law_1480 ?_
      obtain ⟨R2, hf2, hJ2, hM2⟩ := K_X12_shift l D cs k H.size am w hJ (xs (x3 + (1 : Int32)).toNatClampNeg) (xs (x3 + (2 : Int32)).toNatClampNeg) (xs (x3 + (3 : Int32)).toNatClampNeg) (xs (x3 + (4 : Int32)).toNatClampNeg) (xs (x3 + (5 : Int32)).toNatClampNeg)
      have hf3 := hf2
      rw [← (rl_0 hr :), ← (rl_5 hr :), ← (rl_6 hr :), ← (rl_7 hr :), ← (rl_12 hr :), ← (rl_15 hr :), ← (rl_17 hr :)] at hf3
      obtain ⟨EQ, E1, E2⟩ := pw_shiftB hp0 hp1 (rl_28 hr :) (rl_23 hr :) hf1 hf3
      have EQ2 : RL (z.1, z.2.1, (fun n => zc n 2 R1.2 (z.2.2.1 n)), z.2.2.2.1, z.2.2.2.2.1, z.2.2.2.2.2.1, z.2.2.2.2.2.2.1, z.2.2.2.2.2.2.2) (w.1, w.2.1, (fun n => zc n 0 R2.2.1 (zc n 1 R2.2.2 (w.2.2 n)))) := ⟨(rl_0 hr :), (rl_1 hr :), (rl_2 hr :), (rl_3 hr :), (rl_4 hr :), (rl_5 hr :), (rl_6 hr :), (rl_7 hr :), (rl_8 hr :), (rl_9 hr :), (rl_10 hr :), (rl_11 hr :), (rl_12 hr :), (rl_13 hr :), (rl_14 hr :), (rl_15 hr :), (rl_16 hr :), (rl_17 hr :), (rl_18 hr :), (rl_19 hr :), (rl_20 hr :), (rl_21 hr :), (rl_22 hr :), E1, (PLR_fr (rl_24 hr :) (Int.le_refl _) rfl rfl (fun k k1 k2 => E2 k (by omega))), (PLR_fr (rl_25 hr :) (Int.le_refl _) rfl rfl (fun k k1 k2 => E2 k (by omega))), (PLR_fr (rl_26 hr :) (Int.le_refl _) rfl rfl (fun k k1 k2 => E2 k (by omega))), (PLR_fr (rl_27 hr :) (Int.le_refl _) rfl rfl (fun k k1 k2 => E2 k (by omega))), (PLR_fr (rl_28 hr :) (Int.le_refl _) rfl rfl (fun k k1 k2 => E2 k (by omega))), (rl_29 hr :), (rl_30 hr :), (rl_31 hr :), (rl_32 hr :), (rl_33 hr :)⟩
      refine zk_LMi (As := [.int (xs (x3 + (1 : Int32)).toNatClampNeg), .int (xs (x3 + (2 : Int32)).toNatClampNeg), .int (xs (x3 + (3 : Int32)).toNatClampNeg), .int (xs (x3 + (4 : Int32)).toNatClampNeg), .int (xs (x3 + (5 : Int32)).toNatClampNeg)]) (rest := []) hE hO hM2 ⟨hx, hb, hml, hown, ht⟩ (cwV 5 ht gl_166 rfl rfl rfl (by decide +kernel) ⟨Nat.le_of_ble_eq_true rfl, Nat.le_of_ble_eq_true rfl⟩) (va_recv hK hP (ci := 12) (q0 := 0) rfl rfl) hP hD hS hK hA rfl hl.1 (Nat.le_of_ble_eq_true rfl) dL_law_1481 ⟨by show _ ≤ 600000; omega, by show _ ≤ 7302250; omega⟩ (fun H locs hP hD hS => ?_)
      refine lv_pop hx hb dL_law_1484 rfl ?_
      refine lv_goto (tgt := 1544) hx hb dL_law_1485 (by decide) ?_
      exact kk _ _ H locs ls _ _ hI2 hJ2 EQ2 (by omega) (by omega) hP hD hS (lv_sub hl [0, 1, 2, 3] rfl)
    · refine lv_aload_n hx hb dL_law_1425 rfl (lv_at hl 1 rfl) ?_
      refine lv_aload_n hx hb dL_law_1426 rfl (lv_at hl 0 rfl) ?_
      refine lv_iload_n hx hb dL_law_1427 rfl (lv_at hl 3 rfl) ?_
      refine lv_iconst (v := (1 : Int32)) hx hb dL_law_1428 (by decide) ?_
      refine lv_iadd hx hb dL_law_1429 ?_
      refine va_sld hx hb hX hbl hbA hS (zl_in h3 hL (by decide)) dL_law_1430 ?_
      refine lv_aload_n hx hb dL_law_1431 rfl (lv_at hl 0 rfl) ?_
      refine lv_iload_n hx hb dL_law_1432 rfl (lv_at hl 3 rfl) ?_
      refine lv_iconst (v := (2 : Int32)) hx hb dL_law_1433 (by decide) ?_
      refine lv_iadd hx hb dL_law_1434 ?_
      refine va_sld hx hb hX hbl hbA hS (zl_in h3 hL (by decide)) dL_law_1435 ?_
      refine lv_aload_n hx hb dL_law_1436 rfl (lv_at hl 0 rfl) ?_
      refine lv_iload_n hx hb dL_law_1437 rfl (lv_at hl 3 rfl) ?_
      refine lv_iconst (v := (3 : Int32)) hx hb dL_law_1438 (by decide) ?_
      refine lv_iadd hx hb dL_law_1439 ?_
      refine va_sld hx hb hX hbl hbA hS (zl_in h3 hL (by decide)) dL_law_1440 ?_
      refine lv_aload_n hx hb dL_law_1441 rfl (lv_at hl 0 rfl) ?_
      refine lv_iload_n hx hb dL_law_1442 rfl (lv_at hl 3 rfl) ?_
      refine lv_iconst (v := (4 : Int32)) hx hb dL_law_1443 (by decide) ?_
      refine lv_iadd hx hb dL_law_1444 ?_
      refine va_sld hx hb hX hbl hbA hS (zl_in h3 hL (by decide)) dL_law_1445 ?_
      refine lv_aload_n hx hb dL_law_1446 rfl (lv_at hl 0 rfl) ?_
      refine lv_iload_n hx hb dL_law_1447 rfl (lv_at hl 3 rfl) ?_
      refine lv_iconst (v := (5 : Int32)) hx hb dL_law_1448 (by decide) ?_
      refine lv_iadd hx hb dL_law_1449 ?_
      refine va_sld hx hb hX hbl hbA hS (zl_in h3 hL (by decide)) dL_law_1450 ?_
      obtain ⟨R1, hf1, hI2, hM1⟩ := K_X11_shift_5_1 l D cs k H.size ad z hI (xs (x3 + (1 : Int32)).toNatClampNeg) (xs (x3 + (2 : Int32)).toNatClampNeg) (xs (x3 + (3 : Int32)).toNatClampNeg) (xs (x3 + (4 : Int32)).toNatClampNeg) (xs (x3 + (5 : Int32)).toNatClampNeg) hp0 hp1
      refine zk_LXi (As := [.int (xs (x3 + (1 : Int32)).toNatClampNeg), .int (xs (x3 + (2 : Int32)).toNatClampNeg), .int (xs (x3 + (3 : Int32)).toNatClampNeg), .int (xs (x3 + (4 : Int32)).toNatClampNeg), .int (xs (x3 + (5 : Int32)).toNatClampNeg)]) (rest := []) hE hO hM1 ⟨hx, hb, hml, hown, ht⟩ (cwV 5 ht gl_162 rfl rfl rfl (by decide +kernel) ⟨Nat.le_of_ble_eq_true rfl, Nat.le_of_ble_eq_true rfl⟩) (va_recv hK hP (ci := 11) (q0 := 44) rfl rfl) hP hD hS hK hA rfl hl.1 (Nat.le_of_ble_eq_true rfl) dL_law_1451 ⟨by show _ ≤ 600000; omega, by show _ ≤ 7302250; omega⟩ (fun H locs hP hD hS => ?_)
      refine lv_pop hx hb dL_law_1454 rfl ?_
      refine lv_aload_n hx hb dL_law_1455 rfl (lv_at hl 2 rfl) ?_
      refine lv_aload_n hx hb dL_law_1456 rfl (lv_at hl 0 rfl) ?_
      refine lv_iload_n hx hb dL_law_1457 rfl (lv_at hl 3 rfl) ?_
      refine lv_iconst (v := (1 : Int32)) hx hb dL_law_1458 (by decide) ?_
      refine lv_iadd hx hb dL_law_1459 ?_
      refine va_sld hx hb hX hbl hbA hS (zl_in h3 hL (by decide)) dL_law_1460 ?_
      refine lv_aload_n hx hb dL_law_1461 rfl (lv_at hl 0 rfl) ?_
      refine lv_iload_n hx hb dL_law_1462 rfl (lv_at hl 3 rfl) ?_
      refine lv_iconst (v := (2 : Int32)) hx hb dL_law_1463 (by decide) ?_
      refine lv_iadd hx hb dL_law_1464 ?_
      refine va_sld hx hb hX hbl hbA hS (zl_in h3 hL (by decide)) dL_law_1465 ?_
      refine lv_aload_n hx hb dL_law_1466 rfl (lv_at hl 0 rfl) ?_
      refine lv_iload_n hx hb dL_law_1467 rfl (lv_at hl 3 rfl) ?_
      refine lv_iconst (v := (3 : Int32)) hx hb dL_law_1468 (by decide) ?_
      refine lv_iadd hx hb dL_law_1469 ?_
      refine va_sld hx hb hX hbl hbA hS (zl_in h3 hL (by decide)) dL_law_1470 ?_
      refine lv_aload_n hx hb dL_law_1471 rfl (lv_at hl 0 rfl) ?_
      refine lv_iload_n hx hb dL_law_1472 rfl (lv_at hl 3 rfl) ?_
      refine lv_iconst (v := (4 : Int32)) hx hb dL_law_1473 (by decide) ?_
      refine lv_iadd hx hb dL_law_1474 ?_
      refine va_sld hx hb hX hbl hbA hS (zl_in h3 hL (by decide)) dL_law_1475 ?_
      refine lv_aload_n hx hb dL_law_1476 rfl (lv_at hl 0 rfl) ?_
      refine lv_iload_n hx hb dL_law_1477 rfl (lv_at hl 3 rfl) ?_
      refine lv_iconst (v := (5 : Int32)) hx hb dL_law_1478 (by decide) ?_
      refine lv_iadd hx hb dL_law_1479 ?_
      refine va_sld hx hb hX hbl hbA hS (zl_in h3 hL (by decide)) dL_law_1480 ?_
      obtain ⟨R2, hf2, hJ2, hM2⟩ := K_X12_shift l D cs k H.size am w hJ (xs (x3 + (1 : Int32)).toNatClampNeg) (xs (x3 + (2 : Int32)).toNatClampNeg) (xs (x3 + (3 : Int32)).toNatClampNeg) (xs (x3 + (4 : Int32)).toNatClampNeg) (xs (x3 + (5 : Int32)).toNatClampNeg)
      have hf3 := hf2
      rw [← (rl_0 hr :), ← (rl_5 hr :), ← (rl_6 hr :), ← (rl_7 hr :), ← (rl_12 hr :), ← (rl_15 hr :), ← (rl_17 hr :)] at hf3
      obtain ⟨EQ, E1, E2⟩ := pw_shiftB hp0 hp1 (rl_28 hr :) (rl_24 hr :) hf1 hf3
      have EQ2 : RL (z.1, z.2.1, (fun n => zc n 3 R1.2 (z.2.2.1 n)), z.2.2.2.1, z.2.2.2.2.1, z.2.2.2.2.2.1, z.2.2.2.2.2.2.1, z.2.2.2.2.2.2.2) (w.1, w.2.1, (fun n => zc n 0 R2.2.1 (zc n 1 R2.2.2 (w.2.2 n)))) := ⟨(rl_0 hr :), (rl_1 hr :), (rl_2 hr :), (rl_3 hr :), (rl_4 hr :), (rl_5 hr :), (rl_6 hr :), (rl_7 hr :), (rl_8 hr :), (rl_9 hr :), (rl_10 hr :), (rl_11 hr :), (rl_12 hr :), (rl_13 hr :), (rl_14 hr :), (rl_15 hr :), (rl_16 hr :), (rl_17 hr :), (rl_18 hr :), (rl_19 hr :), (rl_20 hr :), (rl_21 hr :), (rl_22 hr :), (PLR_fr (rl_23 hr :) (Int.le_refl _) rfl rfl (fun k k1 k2 => E2 k (by omega))), E1, (PLR_fr (rl_25 hr :) (Int.le_refl _) rfl rfl (fun k k1 k2 => E2 k (by omega))), (PLR_fr (rl_26 hr :) (Int.le_refl _) rfl rfl (fun k k1 k2 => E2 k (by omega))), (PLR_fr (rl_27 hr :) (Int.le_refl _) rfl rfl (fun k k1 k2 => E2 k (by omega))), (PLR_fr (rl_28 hr :) (Int.le_refl _) rfl rfl (fun k k1 k2 => E2 k (by omega))), (rl_29 hr :), (rl_30 hr :), (rl_31 hr :), (rl_32 hr :), (rl_33 hr :)⟩
      refine zk_LMi (As := [.int (xs (x3 + (1 : Int32)).toNatClampNeg), .int (xs (x3 + (2 : Int32)).toNatClampNeg), .int (xs (x3 + (3 : Int32)).toNatClampNeg), .int (xs (x3 + (4 : Int32)).toNatClampNeg), .int (xs (x3 + (5 : Int32)).toNatClampNeg)]) (rest := []) hE hO hM2 ⟨hx, hb, hml, hown, ht⟩ (cwV 5 ht gl_166 rfl rfl rfl (by decide +kernel) ⟨Nat.le_of_ble_eq_true rfl, Nat.le_of_ble_eq_true rfl⟩) (va_recv hK hP (ci := 12) (q0 := 0) rfl rfl) hP hD hS hK hA rfl hl.1 (Nat.le_of_ble_eq_true rfl) dL_law_1481 ⟨by show _ ≤ 600000; omega, by show _ ≤ 7302250; omega⟩ (fun H locs hP hD hS => ?_)
      refine lv_pop hx hb dL_law_1484 rfl ?_
      refine lv_goto (tgt := 1544) hx hb dL_law_1485 (by decide) ?_
      exact kk _ _ H locs ls _ _ hI2 hJ2 EQ2 (by omega) (by omega) hP hD hS (lv_sub hl [0, 1, 2, 3] rfl)
    · refine lv_aload_n hx hb dL_law_1425 rfl (lv_at hl 1 rfl) ?_
      refine lv_aload_n hx hb dL_law_1426 rfl (lv_at hl 0 rfl) ?_
      refine lv_iload_n hx hb dL_law_1427 rfl (lv_at hl 3 rfl) ?_
      refine lv_iconst (v := (1 : Int32)) hx hb dL_law_1428 (by decide) ?_
      refine lv_iadd hx hb dL_law_1429 ?_
      refine va_sld hx hb hX hbl hbA hS (zl_in h3 hL (by decide)) dL_law_1430 ?_
      refine lv_aload_n hx hb dL_law_1431 rfl (lv_at hl 0 rfl) ?_
      refine lv_iload_n hx hb dL_law_1432 rfl (lv_at hl 3 rfl) ?_
      refine lv_iconst (v := (2 : Int32)) hx hb dL_law_1433 (by decide) ?_
      refine lv_iadd hx hb dL_law_1434 ?_
      refine va_sld hx hb hX hbl hbA hS (zl_in h3 hL (by decide)) dL_law_1435 ?_
      refine lv_aload_n hx hb dL_law_1436 rfl (lv_at hl 0 rfl) ?_
      refine lv_iload_n hx hb dL_law_1437 rfl (lv_at hl 3 rfl) ?_
      refine lv_iconst (v := (3 : Int32)) hx hb dL_law_1438 (by decide) ?_
      refine lv_iadd hx hb dL_law_1439 ?_
      refine va_sld hx hb hX hbl hbA hS (zl_in h3 hL (by decide)) dL_law_1440 ?_
      refine lv_aload_n hx hb dL_law_1441 rfl (lv_at hl 0 rfl) ?_
      refine lv_iload_n hx hb dL_law_1442 rfl (lv_at hl 3 rfl) ?_
      refine lv_iconst (v := (4 : Int32)) hx hb dL_law_1443 (by decide) ?_
      refine lv_iadd hx hb dL_law_1444 ?_
      refine va_sld hx hb hX hbl hbA hS (zl_in h3 hL (by decide)) dL_law_1445 ?_
      refine lv_aload_n hx hb dL_law_1446 rfl (lv_at hl 0 rfl) ?_
      refine lv_iload_n hx hb dL_law_1447 rfl (lv_at hl 3 rfl) ?_
      refine lv_iconst (v := (5 : Int32)) hx hb dL_law_1448 (by decide) ?_
      refine lv_iadd hx hb dL_law_1449 ?_
      refine va_sld hx hb hX hbl hbA hS (zl_in h3 hL (by decide)) dL_law_1450 ?_
      obtain ⟨R1, hf1, hI2, hM1⟩ := K_X11_shift_5_2 l D cs k H.size ad z hI (xs (x3 + (1 : Int32)).toNatClampNeg) (xs (x3 + (2 : Int32)).toNatClampNeg) (xs (x3 + (3 : Int32)).toNatClampNeg) (xs (x3 + (4 : Int32)).toNatClampNeg) (xs (x3 + (5 : Int32)).toNatClampNeg) hp0 hp1
      refine zk_LXi (As := [.int (xs (x3 + (1 : Int32)).toNatClampNeg), .int (xs (x3 + (2 : Int32)).toNatClampNeg), .int (xs (x3 + (3 : Int32)).toNatClampNeg), .int (xs (x3 + (4 : Int32)).toNatClampNeg), .int (xs (x3 + (5 : Int32)).toNatClampNeg)]) (rest := []) hE hO hM1 ⟨hx, hb, hml, hown, ht⟩ (cwV 5 ht gl_162 rfl rfl rfl (by decide +kernel) ⟨Nat.le_of_ble_eq_true rfl, Nat.le_of_ble_eq_true rfl⟩) (va_recv hK hP (ci := 11) (q0 := 44) rfl rfl) hP hD hS hK hA rfl hl.1 (Nat.le_of_ble_eq_true rfl) dL_law_1451 ⟨by show _ ≤ 600000; omega, by show _ ≤ 7302250; omega⟩ (fun H locs hP hD hS => ?_)
      refine lv_pop hx hb dL_law_1454 rfl ?_
      refine lv_aload_n hx hb dL_law_1455 rfl (lv_at hl 2 rfl) ?_
      refine lv_aload_n hx hb dL_law_1456 rfl (lv_at hl 0 rfl) ?_
      refine lv_iload_n hx hb dL_law_1457 rfl (lv_at hl 3 rfl) ?_
      refine lv_iconst (v := (1 : Int32)) hx hb dL_law_1458 (by decide) ?_
      refine lv_iadd hx hb dL_law_1459 ?_
      refine va_sld hx hb hX hbl hbA hS (zl_in h3 hL (by decide)) dL_law_1460 ?_
      refine lv_aload_n hx hb dL_law_1461 rfl (lv_at hl 0 rfl) ?_
      refine lv_iload_n hx hb dL_law_1462 rfl (lv_at hl 3 rfl) ?_
      refine lv_iconst (v := (2 : Int32)) hx hb dL_law_1463 (by decide) ?_
      refine lv_iadd hx hb dL_law_1464 ?_
      refine va_sld hx hb hX hbl hbA hS (zl_in h3 hL (by decide)) dL_law_1465 ?_
      refine lv_aload_n hx hb dL_law_1466 rfl (lv_at hl 0 rfl) ?_
      refine lv_iload_n hx hb dL_law_1467 rfl (lv_at hl 3 rfl) ?_
      refine lv_iconst (v := (3 : Int32)) hx hb dL_law_1468 (by decide) ?_
      refine lv_iadd hx hb dL_law_1469 ?_
      refine va_sld hx hb hX hbl hbA hS (zl_in h3 hL (by decide)) dL_law_1470 ?_
      refine lv_aload_n hx hb dL_law_1471 rfl (lv_at hl 0 rfl) ?_
      refine lv_iload_n hx hb dL_law_1472 rfl (lv_at hl 3 rfl) ?_
      refine lv_iconst (v := (4 : Int32)) hx hb dL_law_1473 (by decide) ?_
      refine lv_iadd hx hb dL_law_1474 ?_
      refine va_sld hx hb hX hbl hbA hS (zl_in h3 hL (by decide)) dL_law_1475 ?_
      refine lv_aload_n hx hb dL_law_1476 rfl (lv_at hl 0 rfl) ?_
      refine lv_iload_n hx hb dL_law_1477 rfl (lv_at hl 3 rfl) ?_
      refine lv_iconst (v := (5 : Int32)) hx hb dL_law_1478 (by decide) ?_
      refine lv_iadd hx hb dL_law_1479 ?_
      refine va_sld hx hb hX hbl hbA hS (zl_in h3 hL (by decide)) dL_law_1480 ?_
      obtain ⟨R2, hf2, hJ2, hM2⟩ := K_X12_shift l D cs k H.size am w hJ (xs (x3 + (1 : Int32)).toNatClampNeg) (xs (x3 + (2 : Int32)).toNatClampNeg) (xs (x3 + (3 : Int32)).toNatClampNeg) (xs (x3 + (4 : Int32)).toNatClampNeg) (xs (x3 + (5 : Int32)).toNatClampNeg)
      have hf3 := hf2
      rw [← (rl_0 hr :), ← (rl_5 hr :), ← (rl_6 hr :), ← (rl_7 hr :), ← (rl_12 hr :), ← (rl_15 hr :), ← (rl_17 hr :)] at hf3
      obtain ⟨EQ, E1, E2⟩ := pw_shiftB hp0 hp1 (rl_28 hr :) (rl_25 hr :) hf1 hf3
      have EQ2 : RL (z.1, z.2.1, (fun n => zc n 4 R1.2 (z.2.2.1 n)), z.2.2.2.1, z.2.2.2.2.1, z.2.2.2.2.2.1, z.2.2.2.2.2.2.1, z.2.2.2.2.2.2.2) (w.1, w.2.1, (fun n => zc n 0 R2.2.1 (zc n 1 R2.2.2 (w.2.2 n)))) := ⟨(rl_0 hr :), (rl_1 hr :), (rl_2 hr :), (rl_3 hr :), (rl_4 hr :), (rl_5 hr :), (rl_6 hr :), (rl_7 hr :), (rl_8 hr :), (rl_9 hr :), (rl_10 hr :), (rl_11 hr :), (rl_12 hr :), (rl_13 hr :), (rl_14 hr :), (rl_15 hr :), (rl_16 hr :), (rl_17 hr :), (rl_18 hr :), (rl_19 hr :), (rl_20 hr :), (rl_21 hr :), (rl_22 hr :), (PLR_fr (rl_23 hr :) (Int.le_refl _) rfl rfl (fun k k1 k2 => E2 k (by omega))), (PLR_fr (rl_24 hr :) (Int.le_refl _) rfl rfl (fun k k1 k2 => E2 k (by omega))), E1, (PLR_fr (rl_26 hr :) (Int.le_refl _) rfl rfl (fun k k1 k2 => E2 k (by omega))), (PLR_fr (rl_27 hr :) (Int.le_refl _) rfl rfl (fun k k1 k2 => E2 k (by omega))), (PLR_fr (rl_28 hr :) (Int.le_refl _) rfl rfl (fun k k1 k2 => E2 k (by omega))), (rl_29 hr :), (rl_30 hr :), (rl_31 hr :), (rl_32 hr :), (rl_33 hr :)⟩
      refine zk_LMi (As := [.int (xs (x3 + (1 : Int32)).toNatClampNeg), .int (xs (x3 + (2 : Int32)).toNatClampNeg), .int (xs (x3 + (3 : Int32)).toNatClampNeg), .int (xs (x3 + (4 : Int32)).toNatClampNeg), .int (xs (x3 + (5 : Int32)).toNatClampNeg)]) (rest := []) hE hO hM2 ⟨hx, hb, hml, hown, ht⟩ (cwV 5 ht gl_166 rfl rfl rfl (by decide +kernel) ⟨Nat.le_of_ble_eq_true rfl, Nat.le_of_ble_eq_true rfl⟩) (va_recv hK hP (ci := 12) (q0 := 0) rfl rfl) hP hD hS hK hA rfl hl.1 (Nat.le_of_ble_eq_true rfl) dL_law_1481 ⟨by show _ ≤ 600000; omega, by show _ ≤ 7302250; omega⟩ (fun H locs hP hD hS => ?_)
      refine lv_pop hx hb dL_law_1484 rfl ?_
      refine lv_goto (tgt := 1544) hx hb dL_law_1485 (by decide) ?_
      exact kk _ _ H locs ls _ _ hI2 hJ2 EQ2 (by omega) (by omega) hP hD hS (lv_sub hl [0, 1, 2, 3] rfl)
    · refine lv_aload_n hx hb dL_law_1425 rfl (lv_at hl 1 rfl) ?_
      refine lv_aload_n hx hb dL_law_1426 rfl (lv_at hl 0 rfl) ?_
      refine lv_iload_n hx hb dL_law_1427 rfl (lv_at hl 3 rfl) ?_
      refine lv_iconst (v := (1 : Int32)) hx hb dL_law_1428 (by decide) ?_
      refine lv_iadd hx hb dL_law_1429 ?_
      refine va_sld hx hb hX hbl hbA hS (zl_in h3 hL (by decide)) dL_law_1430 ?_
      refine lv_aload_n hx hb dL_law_1431 rfl (lv_at hl 0 rfl) ?_
      refine lv_iload_n hx hb dL_law_1432 rfl (lv_at hl 3 rfl) ?_
      refine lv_iconst (v := (2 : Int32)) hx hb dL_law_1433 (by decide) ?_
      refine lv_iadd hx hb dL_law_1434 ?_
      refine va_sld hx hb hX hbl hbA hS (zl_in h3 hL (by decide)) dL_law_1435 ?_
      refine lv_aload_n hx hb dL_law_1436 rfl (lv_at hl 0 rfl) ?_
      refine lv_iload_n hx hb dL_law_1437 rfl (lv_at hl 3 rfl) ?_
      refine lv_iconst (v := (3 : Int32)) hx hb dL_law_1438 (by decide) ?_
      refine lv_iadd hx hb dL_law_1439 ?_
      refine va_sld hx hb hX hbl hbA hS (zl_in h3 hL (by decide)) dL_law_1440 ?_
      refine lv_aload_n hx hb dL_law_1441 rfl (lv_at hl 0 rfl) ?_
      refine lv_iload_n hx hb dL_law_1442 rfl (lv_at hl 3 rfl) ?_
      refine lv_iconst (v := (4 : Int32)) hx hb dL_law_1443 (by decide) ?_
      refine lv_iadd hx hb dL_law_1444 ?_
      refine va_sld hx hb hX hbl hbA hS (zl_in h3 hL (by decide)) dL_law_1445 ?_
      refine lv_aload_n hx hb dL_law_1446 rfl (lv_at hl 0 rfl) ?_
      refine lv_iload_n hx hb dL_law_1447 rfl (lv_at hl 3 rfl) ?_
      refine lv_iconst (v := (5 : Int32)) hx hb dL_law_1448 (by decide) ?_
      refine lv_iadd hx hb dL_law_1449 ?_
      refine va_sld hx hb hX hbl hbA hS (zl_in h3 hL (by decide)) dL_law_1450 ?_
      obtain ⟨R1, hf1, hI2, hM1⟩ := K_X11_shift_5_3 l D cs k H.size ad z hI (xs (x3 + (1 : Int32)).toNatClampNeg) (xs (x3 + (2 : Int32)).toNatClampNeg) (xs (x3 + (3 : Int32)).toNatClampNeg) (xs (x3 + (4 : Int32)).toNatClampNeg) (xs (x3 + (5 : Int32)).toNatClampNeg) hp0 hp1
      refine zk_LXi (As := [.int (xs (x3 + (1 : Int32)).toNatClampNeg), .int (xs (x3 + (2 : Int32)).toNatClampNeg), .int (xs (x3 + (3 : Int32)).toNatClampNeg), .int (xs (x3 + (4 : Int32)).toNatClampNeg), .int (xs (x3 + (5 : Int32)).toNatClampNeg)]) (rest := []) hE hO hM1 ⟨hx, hb, hml, hown, ht⟩ (cwV 5 ht gl_162 rfl rfl rfl (by decide +kernel) ⟨Nat.le_of_ble_eq_true rfl, Nat.le_of_ble_eq_true rfl⟩) (va_recv hK hP (ci := 11) (q0 := 44) rfl rfl) hP hD hS hK hA rfl hl.1 (Nat.le_of_ble_eq_true rfl) dL_law_1451 ⟨by show _ ≤ 600000; omega, by show _ ≤ 7302250; omega⟩ (fun H locs hP hD hS => ?_)
      refine lv_pop hx hb dL_law_1454 rfl ?_
      refine lv_aload_n hx hb dL_law_1455 rfl (lv_at hl 2 rfl) ?_
      refine lv_aload_n hx hb dL_law_1456 rfl (lv_at hl 0 rfl) ?_
      refine lv_iload_n hx hb dL_law_1457 rfl (lv_at hl 3 rfl) ?_
      refine lv_iconst (v := (1 : Int32)) hx hb dL_law_1458 (by decide) ?_
      refine lv_iadd hx hb dL_law_1459 ?_
      refine va_sld hx hb hX hbl hbA hS (zl_in h3 hL (by decide)) dL_law_1460 ?_
      refine lv_aload_n hx hb dL_law_1461 rfl (lv_at hl 0 rfl) ?_
      refine lv_iload_n hx hb dL_law_1462 rfl (lv_at hl 3 rfl) ?_
      refine lv_iconst (v := (2 : Int32)) hx hb dL_law_1463 (by decide) ?_
      refine lv_iadd hx hb dL_law_1464 ?_
      refine va_sld hx hb hX hbl hbA hS (zl_in h3 hL (by decide)) dL_law_1465 ?_
      refine lv_aload_n hx hb dL_law_1466 rfl (lv_at hl 0 rfl) ?_
      refine lv_iload_n hx hb dL_law_1467 rfl (lv_at hl 3 rfl) ?_
      refine lv_iconst (v := (3 : Int32)) hx hb dL_law_1468 (by decide) ?_
      refine lv_iadd hx hb dL_law_1469 ?_
      refine va_sld hx hb hX hbl hbA hS (zl_in h3 hL (by decide)) dL_law_1470 ?_
      refine lv_aload_n hx hb dL_law_1471 rfl (lv_at hl 0 rfl) ?_
      refine lv_iload_n hx hb dL_law_1472 rfl (lv_at hl 3 rfl) ?_
      refine lv_iconst (v := (4 : Int32)) hx hb dL_law_1473 (by decide) ?_
      refine lv_iadd hx hb dL_law_1474 ?_
      refine va_sld hx hb hX hbl hbA hS (zl_in h3 hL (by decide)) dL_law_1475 ?_
      refine lv_aload_n hx hb dL_law_1476 rfl (lv_at hl 0 rfl) ?_
      refine lv_iload_n hx hb dL_law_1477 rfl (lv_at hl 3 rfl) ?_
      refine lv_iconst (v := (5 : Int32)) hx hb dL_law_1478 (by decide) ?_
      refine lv_iadd hx hb dL_law_1479 ?_
      refine va_sld hx hb hX hbl hbA hS (zl_in h3 hL (by decide)) dL_law_1480 ?_
      obtain ⟨R2, hf2, hJ2, hM2⟩ := K_X12_shift l D cs k H.size am w hJ (xs (x3 + (1 : Int32)).toNatClampNeg) (xs (x3 + (2 : Int32)).toNatClampNeg) (xs (x3 + (3 : Int32)).toNatClampNeg) (xs (x3 + (4 : Int32)).toNatClampNeg) (xs (x3 + (5 : Int32)).toNatClampNeg)
      have hf3 := hf2
      rw [← (rl_0 hr :), ← (rl_5 hr :), ← (rl_6 hr :), ← (rl_7 hr :), ← (rl_12 hr :), ← (rl_15 hr :), ← (rl_17 hr :)] at hf3
      obtain ⟨EQ, E1, E2⟩ := pw_shiftB hp0 hp1 (rl_28 hr :) (rl_26 hr :) hf1 hf3
      have EQ2 : RL (z.1, z.2.1, (fun n => zc n 5 R1.2 (z.2.2.1 n)), z.2.2.2.1, z.2.2.2.2.1, z.2.2.2.2.2.1, z.2.2.2.2.2.2.1, z.2.2.2.2.2.2.2) (w.1, w.2.1, (fun n => zc n 0 R2.2.1 (zc n 1 R2.2.2 (w.2.2 n)))) := ⟨(rl_0 hr :), (rl_1 hr :), (rl_2 hr :), (rl_3 hr :), (rl_4 hr :), (rl_5 hr :), (rl_6 hr :), (rl_7 hr :), (rl_8 hr :), (rl_9 hr :), (rl_10 hr :), (rl_11 hr :), (rl_12 hr :), (rl_13 hr :), (rl_14 hr :), (rl_15 hr :), (rl_16 hr :), (rl_17 hr :), (rl_18 hr :), (rl_19 hr :), (rl_20 hr :), (rl_21 hr :), (rl_22 hr :), (PLR_fr (rl_23 hr :) (Int.le_refl _) rfl rfl (fun k k1 k2 => E2 k (by omega))), (PLR_fr (rl_24 hr :) (Int.le_refl _) rfl rfl (fun k k1 k2 => E2 k (by omega))), (PLR_fr (rl_25 hr :) (Int.le_refl _) rfl rfl (fun k k1 k2 => E2 k (by omega))), E1, (PLR_fr (rl_27 hr :) (Int.le_refl _) rfl rfl (fun k k1 k2 => E2 k (by omega))), (PLR_fr (rl_28 hr :) (Int.le_refl _) rfl rfl (fun k k1 k2 => E2 k (by omega))), (rl_29 hr :), (rl_30 hr :), (rl_31 hr :), (rl_32 hr :), (rl_33 hr :)⟩
      refine zk_LMi (As := [.int (xs (x3 + (1 : Int32)).toNatClampNeg), .int (xs (x3 + (2 : Int32)).toNatClampNeg), .int (xs (x3 + (3 : Int32)).toNatClampNeg), .int (xs (x3 + (4 : Int32)).toNatClampNeg), .int (xs (x3 + (5 : Int32)).toNatClampNeg)]) (rest := []) hE hO hM2 ⟨hx, hb, hml, hown, ht⟩ (cwV 5 ht gl_166 rfl rfl rfl (by decide +kernel) ⟨Nat.le_of_ble_eq_true rfl, Nat.le_of_ble_eq_true rfl⟩) (va_recv hK hP (ci := 12) (q0 := 0) rfl rfl) hP hD hS hK hA rfl hl.1 (Nat.le_of_ble_eq_true rfl) dL_law_1481 ⟨by show _ ≤ 600000; omega, by show _ ≤ 7302250; omega⟩ (fun H locs hP hD hS => ?_)
      refine lv_pop hx hb dL_law_1484 rfl ?_
      refine lv_goto (tgt := 1544) hx hb dL_law_1485 (by decide) ?_
      exact kk _ _ H locs ls _ _ hI2 hJ2 EQ2 (by omega) (by omega) hP hD hS (lv_sub hl [0, 1, 2, 3] rfl)
    · refine lv_aload_n hx hb dL_law_1425 rfl (lv_at hl 1 rfl) ?_
      refine lv_aload_n hx hb dL_law_1426 rfl (lv_at hl 0 rfl) ?_
      refine lv_iload_n hx hb dL_law_1427 rfl (lv_at hl 3 rfl) ?_
      refine lv_iconst (v := (1 : Int32)) hx hb dL_law_1428 (by decide) ?_
      refine lv_iadd hx hb dL_law_1429 ?_
      refine va_sld hx hb hX hbl hbA hS (zl_in h3 hL (by decide)) dL_law_1430 ?_
      refine lv_aload_n hx hb dL_law_1431 rfl (lv_at hl 0 rfl) ?_
      refine lv_iload_n hx hb dL_law_1432 rfl (lv_at hl 3 rfl) ?_
      refine lv_iconst (v := (2 : Int32)) hx hb dL_law_1433 (by decide) ?_
      refine lv_iadd hx hb dL_law_1434 ?_
      refine va_sld hx hb hX hbl hbA hS (zl_in h3 hL (by decide)) dL_law_1435 ?_
      refine lv_aload_n hx hb dL_law_1436 rfl (lv_at hl 0 rfl) ?_
      refine lv_iload_n hx hb dL_law_1437 rfl (lv_at hl 3 rfl) ?_
      refine lv_iconst (v := (3 : Int32)) hx hb dL_law_1438 (by decide) ?_
      refine lv_iadd hx hb dL_law_1439 ?_
      refine va_sld hx hb hX hbl hbA hS (zl_in h3 hL (by decide)) dL_law_1440 ?_
      refine lv_aload_n hx hb dL_law_1441 rfl (lv_at hl 0 rfl) ?_
      refine lv_iload_n hx hb dL_law_1442 rfl (lv_at hl 3 rfl) ?_
      refine lv_iconst (v := (4 : Int32)) hx hb dL_law_1443 (by decide) ?_
      refine lv_iadd hx hb dL_law_1444 ?_
      refine va_sld hx hb hX hbl hbA hS (zl_in h3 hL (by decide)) dL_law_1445 ?_
      refine lv_aload_n hx hb dL_law_1446 rfl (lv_at hl 0 rfl) ?_
      refine lv_iload_n hx hb dL_law_1447 rfl (lv_at hl 3 rfl) ?_
      refine lv_iconst (v := (5 : Int32)) hx hb dL_law_1448 (by decide) ?_
      refine lv_iadd hx hb dL_law_1449 ?_
      refine va_sld hx hb hX hbl hbA hS (zl_in h3 hL (by decide)) dL_law_1450 ?_
      obtain ⟨R1, hf1, hI2, hM1⟩ := K_X11_shift_5_4 l D cs k H.size ad z hI (xs (x3 + (1 : Int32)).toNatClampNeg) (xs (x3 + (2 : Int32)).toNatClampNeg) (xs (x3 + (3 : Int32)).toNatClampNeg) (xs (x3 + (4 : Int32)).toNatClampNeg) (xs (x3 + (5 : Int32)).toNatClampNeg) hp0 hp1
      refine zk_LXi (As := [.int (xs (x3 + (1 : Int32)).toNatClampNeg), .int (xs (x3 + (2 : Int32)).toNatClampNeg), .int (xs (x3 + (3 : Int32)).toNatClampNeg), .int (xs (x3 + (4 : Int32)).toNatClampNeg), .int (xs (x3 + (5 : Int32)).toNatClampNeg)]) (rest := []) hE hO hM1 ⟨hx, hb, hml, hown, ht⟩ (cwV 5 ht gl_162 rfl rfl rfl (by decide +kernel) ⟨Nat.le_of_ble_eq_true rfl, Nat.le_of_ble_eq_true rfl⟩) (va_recv hK hP (ci := 11) (q0 := 44) rfl rfl) hP hD hS hK hA rfl hl.1 (Nat.le_of_ble_eq_true rfl) dL_law_1451 ⟨by show _ ≤ 600000; omega, by show _ ≤ 7302250; omega⟩ (fun H locs hP hD hS => ?_)
      refine lv_pop hx hb dL_law_1454 rfl ?_
      refine lv_aload_n hx hb dL_law_1455 rfl (lv_at hl 2 rfl) ?_
      refine lv_aload_n hx hb dL_law_1456 rfl (lv_at hl 0 rfl) ?_
      refine lv_iload_n hx hb dL_law_1457 rfl (lv_at hl 3 rfl) ?_
      refine lv_iconst (v := (1 : Int32)) hx hb dL_law_1458 (by decide) ?_
      refine lv_iadd hx hb dL_law_1459 ?_
      refine va_sld hx hb hX hbl hbA hS (zl_in h3 hL (by decide)) dL_law_1460 ?_
      refine lv_aload_n hx hb dL_law_1461 rfl (lv_at hl 0 rfl) ?_
      refine lv_iload_n hx hb dL_law_1462 rfl (lv_at hl 3 rfl) ?_
      refine lv_iconst (v := (2 : Int32)) hx hb dL_law_1463 (by decide) ?_
      refine lv_iadd hx hb dL_law_1464 ?_
      refine va_sld hx hb hX hbl hbA hS (zl_in h3 hL (by decide)) dL_law_1465 ?_
      refine lv_aload_n hx hb dL_law_1466 rfl (lv_at hl 0 rfl) ?_
      refine lv_iload_n hx hb dL_law_1467 rfl (lv_at hl 3 rfl) ?_
      refine lv_iconst (v := (3 : Int32)) hx hb dL_law_1468 (by decide) ?_
      refine lv_iadd hx hb dL_law_1469 ?_
      refine va_sld hx hb hX hbl hbA hS (zl_in h3 hL (by decide)) dL_law_1470 ?_
      refine lv_aload_n hx hb dL_law_1471 rfl (lv_at hl 0 rfl) ?_
      refine lv_iload_n hx hb dL_law_1472 rfl (lv_at hl 3 rfl) ?_
      refine lv_iconst (v := (4 : Int32)) hx hb dL_law_1473 (by decide) ?_
      refine lv_iadd hx hb dL_law_1474 ?_
      refine va_sld hx hb hX hbl hbA hS (zl_in h3 hL (by decide)) dL_law_1475 ?_
      refine lv_aload_n hx hb dL_law_1476 rfl (lv_at hl 0 rfl) ?_
      refine lv_iload_n hx hb dL_law_1477 rfl (lv_at hl 3 rfl) ?_
      refine lv_iconst (v := (5 : Int32)) hx hb dL_law_1478 (by decide) ?_
      refine lv_iadd hx hb dL_law_1479 ?_
      refine va_sld hx hb hX hbl hbA hS (zl_in h3 hL (by decide)) dL_law_1480 ?_
      obtain ⟨R2, hf2, hJ2, hM2⟩ := K_X12_shift l D cs k H.size am w hJ (xs (x3 + (1 : Int32)).toNatClampNeg) (xs (x3 + (2 : Int32)).toNatClampNeg) (xs (x3 + (3 : Int32)).toNatClampNeg) (xs (x3 + (4 : Int32)).toNatClampNeg) (xs (x3 + (5 : Int32)).toNatClampNeg)
      have hf3 := hf2
      rw [← (rl_0 hr :), ← (rl_5 hr :), ← (rl_6 hr :), ← (rl_7 hr :), ← (rl_12 hr :), ← (rl_15 hr :), ← (rl_17 hr :)] at hf3
      obtain ⟨EQ, E1, E2⟩ := pw_shiftB hp0 hp1 (rl_28 hr :) (rl_27 hr :) hf1 hf3
      have EQ2 : RL (z.1, z.2.1, (fun n => zc n 6 R1.2 (z.2.2.1 n)), z.2.2.2.1, z.2.2.2.2.1, z.2.2.2.2.2.1, z.2.2.2.2.2.2.1, z.2.2.2.2.2.2.2) (w.1, w.2.1, (fun n => zc n 0 R2.2.1 (zc n 1 R2.2.2 (w.2.2 n)))) := ⟨(rl_0 hr :), (rl_1 hr :), (rl_2 hr :), (rl_3 hr :), (rl_4 hr :), (rl_5 hr :), (rl_6 hr :), (rl_7 hr :), (rl_8 hr :), (rl_9 hr :), (rl_10 hr :), (rl_11 hr :), (rl_12 hr :), (rl_13 hr :), (rl_14 hr :), (rl_15 hr :), (rl_16 hr :), (rl_17 hr :), (rl_18 hr :), (rl_19 hr :), (rl_20 hr :), (rl_21 hr :), (rl_22 hr :), (PLR_fr (rl_23 hr :) (Int.le_refl _) rfl rfl (fun k k1 k2 => E2 k (by omega))), (PLR_fr (rl_24 hr :) (Int.le_refl _) rfl rfl (fun k k1 k2 => E2 k (by omega))), (PLR_fr (rl_25 hr :) (Int.le_refl _) rfl rfl (fun k k1 k2 => E2 k (by omega))), (PLR_fr (rl_26 hr :) (Int.le_refl _) rfl rfl (fun k k1 k2 => E2 k (by omega))), E1, (PLR_fr (rl_28 hr :) (Int.le_refl _) rfl rfl (fun k k1 k2 => E2 k (by omega))), (rl_29 hr :), (rl_30 hr :), (rl_31 hr :), (rl_32 hr :), (rl_33 hr :)⟩
      refine zk_LMi (As := [.int (xs (x3 + (1 : Int32)).toNatClampNeg), .int (xs (x3 + (2 : Int32)).toNatClampNeg), .int (xs (x3 + (3 : Int32)).toNatClampNeg), .int (xs (x3 + (4 : Int32)).toNatClampNeg), .int (xs (x3 + (5 : Int32)).toNatClampNeg)]) (rest := []) hE hO hM2 ⟨hx, hb, hml, hown, ht⟩ (cwV 5 ht gl_166 rfl rfl rfl (by decide +kernel) ⟨Nat.le_of_ble_eq_true rfl, Nat.le_of_ble_eq_true rfl⟩) (va_recv hK hP (ci := 12) (q0 := 0) rfl rfl) hP hD hS hK hA rfl hl.1 (Nat.le_of_ble_eq_true rfl) dL_law_1481 ⟨by show _ ≤ 600000; omega, by show _ ≤ 7302250; omega⟩ (fun H locs hP hD hS => ?_)
      refine lv_pop hx hb dL_law_1484 rfl ?_
      refine lv_goto (tgt := 1544) hx hb dL_law_1485 (by decide) ?_
      exact kk _ _ H locs ls _ _ hI2 hJ2 EQ2 (by omega) (by omega) hP hD hS (lv_sub hl [0, 1, 2, 3] rfl)
    · refine lv_aload_n hx hb dL_law_1425 rfl (lv_at hl 1 rfl) ?_
      refine lv_aload_n hx hb dL_law_1426 rfl (lv_at hl 0 rfl) ?_
      refine lv_iload_n hx hb dL_law_1427 rfl (lv_at hl 3 rfl) ?_
      refine lv_iconst (v := (1 : Int32)) hx hb dL_law_1428 (by decide) ?_
      refine lv_iadd hx hb dL_law_1429 ?_
      refine va_sld hx hb hX hbl hbA hS (zl_in h3 hL (by decide)) dL_law_1430 ?_
      refine lv_aload_n hx hb dL_law_1431 rfl (lv_at hl 0 rfl) ?_
      refine lv_iload_n hx hb dL_law_1432 rfl (lv_at hl 3 rfl) ?_
      refine lv_iconst (v := (2 : Int32)) hx hb dL_law_1433 (by decide) ?_
      refine lv_iadd hx hb dL_law_1434 ?_
      refine va_sld hx hb hX hbl hbA hS (zl_in h3 hL (by decide)) dL_law_1435 ?_
      refine lv_aload_n hx hb dL_law_1436 rfl (lv_at hl 0 rfl) ?_
      refine lv_iload_n hx hb dL_law_1437 rfl (lv_at hl 3 rfl) ?_
      refine lv_iconst (v := (3 : Int32)) hx hb dL_law_1438 (by decide) ?_
      refine lv_iadd hx hb dL_law_1439 ?_
      refine va_sld hx hb hX hbl hbA hS (zl_in h3 hL (by decide)) dL_law_1440 ?_
      refine lv_aload_n hx hb dL_law_1441 rfl (lv_at hl 0 rfl) ?_
      refine lv_iload_n hx hb dL_law_1442 rfl (lv_at hl 3 rfl) ?_
      refine lv_iconst (v := (4 : Int32)) hx hb dL_law_1443 (by decide) ?_
      refine lv_iadd hx hb dL_law_1444 ?_
      refine va_sld hx hb hX hbl hbA hS (zl_in h3 hL (by decide)) dL_law_1445 ?_
      refine lv_aload_n hx hb dL_law_1446 rfl (lv_at hl 0 rfl) ?_
      refine lv_iload_n hx hb dL_law_1447 rfl (lv_at hl 3 rfl) ?_
      refine lv_iconst (v := (5 : Int32)) hx hb dL_law_1448 (by decide) ?_
      refine lv_iadd hx hb dL_law_1449 ?_
      refine va_sld hx hb hX hbl hbA hS (zl_in h3 hL (by decide)) dL_law_1450 ?_
      obtain ⟨R1, hf1, hI2, hM1⟩ := K_X11_shift_5A l D cs k H.size ad z hI (xs (x3 + (1 : Int32)).toNatClampNeg) (xs (x3 + (2 : Int32)).toNatClampNeg) (xs (x3 + (3 : Int32)).toNatClampNeg) (xs (x3 + (4 : Int32)).toNatClampNeg) (xs (x3 + (5 : Int32)).toNatClampNeg) hp0 hp1
      refine zk_LXi (As := [.int (xs (x3 + (1 : Int32)).toNatClampNeg), .int (xs (x3 + (2 : Int32)).toNatClampNeg), .int (xs (x3 + (3 : Int32)).toNatClampNeg), .int (xs (x3 + (4 : Int32)).toNatClampNeg), .int (xs (x3 + (5 : Int32)).toNatClampNeg)]) (rest := []) hE hO hM1 ⟨hx, hb, hml, hown, ht⟩ (cwV 5 ht gl_162 rfl rfl rfl (by decide +kernel) ⟨Nat.le_of_ble_eq_true rfl, Nat.le_of_ble_eq_true rfl⟩) (va_recv hK hP (ci := 11) (q0 := 44) rfl rfl) hP hD hS hK hA rfl hl.1 (Nat.le_of_ble_eq_true rfl) dL_law_1451 ⟨by show _ ≤ 600000; omega, by show _ ≤ 7302250; omega⟩ (fun H locs hP hD hS => ?_)
      refine lv_pop hx hb dL_law_1454 rfl ?_
      refine lv_aload_n hx hb dL_law_1455 rfl (lv_at hl 2 rfl) ?_
      refine lv_aload_n hx hb dL_law_1456 rfl (lv_at hl 0 rfl) ?_
      refine lv_iload_n hx hb dL_law_1457 rfl (lv_at hl 3 rfl) ?_
      refine lv_iconst (v := (1 : Int32)) hx hb dL_law_1458 (by decide) ?_
      refine lv_iadd hx hb dL_law_1459 ?_
      refine va_sld hx hb hX hbl hbA hS (zl_in h3 hL (by decide)) dL_law_1460 ?_
      refine lv_aload_n hx hb dL_law_1461 rfl (lv_at hl 0 rfl) ?_
      refine lv_iload_n hx hb dL_law_1462 rfl (lv_at hl 3 rfl) ?_
      refine lv_iconst (v := (2 : Int32)) hx hb dL_law_1463 (by decide) ?_
      refine lv_iadd hx hb dL_law_1464 ?_
      refine va_sld hx hb hX hbl hbA hS (zl_in h3 hL (by decide)) dL_law_1465 ?_
      refine lv_aload_n hx hb dL_law_1466 rfl (lv_at hl 0 rfl) ?_
      refine lv_iload_n hx hb dL_law_1467 rfl (lv_at hl 3 rfl) ?_
      refine lv_iconst (v := (3 : Int32)) hx hb dL_law_1468 (by decide) ?_
      refine lv_iadd hx hb dL_law_1469 ?_
      refine va_sld hx hb hX hbl hbA hS (zl_in h3 hL (by decide)) dL_law_1470 ?_
      refine lv_aload_n hx hb dL_law_1471 rfl (lv_at hl 0 rfl) ?_
      refine lv_iload_n hx hb dL_law_1472 rfl (lv_at hl 3 rfl) ?_
      refine lv_iconst (v := (4 : Int32)) hx hb dL_law_1473 (by decide) ?_
      refine lv_iadd hx hb dL_law_1474 ?_
      refine va_sld hx hb hX hbl hbA hS (zl_in h3 hL (by decide)) dL_law_1475 ?_
      refine lv_aload_n hx hb dL_law_1476 rfl (lv_at hl 0 rfl) ?_
      refine lv_iload_n hx hb dL_law_1477 rfl (lv_at hl 3 rfl) ?_
      refine lv_iconst (v := (5 : Int32)) hx hb dL_law_1478 (by decide) ?_
      refine lv_iadd hx hb dL_law_1479 ?_
      refine va_sld hx hb hX hbl hbA hS (zl_in h3 hL (by decide)) dL_law_1480 ?_
      obtain ⟨R2, hf2, hJ2, hM2⟩ := K_X12_shift l D cs k H.size am w hJ (xs (x3 + (1 : Int32)).toNatClampNeg) (xs (x3 + (2 : Int32)).toNatClampNeg) (xs (x3 + (3 : Int32)).toNatClampNeg) (xs (x3 + (4 : Int32)).toNatClampNeg) (xs (x3 + (5 : Int32)).toNatClampNeg)
      have hf3 := hf2
      rw [← (rl_0 hr :), ← (rl_5 hr :), ← (rl_6 hr :), ← (rl_7 hr :), ← (rl_12 hr :), ← (rl_15 hr :), ← (rl_17 hr :)] at hf3
      obtain ⟨EQ, E1, E2⟩ := pw_shiftB hp0 hp1 (rl_28 hr :) (rl_28 hr :) (pw_shA hf1) hf3
      have EQ2 : RL (z.1, z.2.1, (fun n => zc n 7 R1.2 (z.2.2.1 n)), z.2.2.2.1, z.2.2.2.2.1, z.2.2.2.2.2.1, z.2.2.2.2.2.2.1, z.2.2.2.2.2.2.2) (w.1, w.2.1, (fun n => zc n 0 R2.2.1 (zc n 1 R2.2.2 (w.2.2 n)))) := ⟨(rl_0 hr :), (rl_1 hr :), (rl_2 hr :), (rl_3 hr :), (rl_4 hr :), (rl_5 hr :), (rl_6 hr :), (rl_7 hr :), (rl_8 hr :), (rl_9 hr :), (rl_10 hr :), (rl_11 hr :), (rl_12 hr :), (rl_13 hr :), (rl_14 hr :), (rl_15 hr :), (rl_16 hr :), (rl_17 hr :), (rl_18 hr :), (rl_19 hr :), (rl_20 hr :), (rl_21 hr :), (rl_22 hr :), (PLR_fr (rl_23 hr :) (Int.le_refl _) rfl rfl (fun k k1 k2 => E2 k (by omega))), (PLR_fr (rl_24 hr :) (Int.le_refl _) rfl rfl (fun k k1 k2 => E2 k (by omega))), (PLR_fr (rl_25 hr :) (Int.le_refl _) rfl rfl (fun k k1 k2 => E2 k (by omega))), (PLR_fr (rl_26 hr :) (Int.le_refl _) rfl rfl (fun k k1 k2 => E2 k (by omega))), (PLR_fr (rl_27 hr :) (Int.le_refl _) rfl rfl (fun k k1 k2 => E2 k (by omega))), E1, (rl_29 hr :), (rl_30 hr :), (rl_31 hr :), (rl_32 hr :), (rl_33 hr :)⟩
      refine zk_LMi (As := [.int (xs (x3 + (1 : Int32)).toNatClampNeg), .int (xs (x3 + (2 : Int32)).toNatClampNeg), .int (xs (x3 + (3 : Int32)).toNatClampNeg), .int (xs (x3 + (4 : Int32)).toNatClampNeg), .int (xs (x3 + (5 : Int32)).toNatClampNeg)]) (rest := []) hE hO hM2 ⟨hx, hb, hml, hown, ht⟩ (cwV 5 ht gl_166 rfl rfl rfl (by decide +kernel) ⟨Nat.le_of_ble_eq_true rfl, Nat.le_of_ble_eq_true rfl⟩) (va_recv hK hP (ci := 12) (q0 := 0) rfl rfl) hP hD hS hK hA rfl hl.1 (Nat.le_of_ble_eq_true rfl) dL_law_1481 ⟨by show _ ≤ 600000; omega, by show _ ≤ 7302250; omega⟩ (fun H locs hP hD hS => ?_)
      refine lv_pop hx hb dL_law_1484 rfl ?_
      refine lv_goto (tgt := 1544) hx hb dL_law_1485 (by decide) ?_
      exact kk _ _ H locs ls _ _ hI2 hJ2 EQ2 (by omega) (by omega) hP hD hS (lv_sub hl [0, 1, 2, 3] rfl)
