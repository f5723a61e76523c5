theorem dL_law_1427 : decode cL_law 1427 = .ok (.aload_n 1, 1) := by decide +kernel
theorem dL_law_1428 : decode cL_law 1428 = .ok (.aload_n 0, 1) := by decide +kernel
theorem dL_law_1429 : decode cL_law 1429 = .ok (.iload_n 3, 1) := by decide +kernel
theorem dL_law_1430 : decode cL_law 1430 = .ok (.iconst 1, 1) := by decide +kernel
theorem dL_law_1431 : decode cL_law 1431 = .ok (.iadd, 1) := by decide +kernel
theorem dL_law_1432 : decode cL_law 1432 = .ok (.iaload, 1) := by decide +kernel
theorem dL_law_1433 : decode cL_law 1433 = .ok (.aload_n 0, 1) := by decide +kernel
theorem dL_law_1434 : decode cL_law 1434 = .ok (.iload_n 3, 1) := by decide +kernel
theorem dL_law_1435 : decode cL_law 1435 = .ok (.iconst 2, 1) := by decide +kernel
theorem dL_law_1436 : decode cL_law 1436 = .ok (.iadd, 1) := by decide +kernel
theorem dL_law_1437 : decode cL_law 1437 = .ok (.iaload, 1) := by decide +kernel
theorem dL_law_1438 : decode cL_law 1438 = .ok (.aload_n 0, 1) := by decide +kernel
theorem dL_law_1439 : decode cL_law 1439 = .ok (.iload_n 3, 1) := by decide +kernel
theorem dL_law_1440 : decode cL_law 1440 = .ok (.iconst 3, 1) := by decide +kernel
theorem dL_law_1441 : decode cL_law 1441 = .ok (.iadd, 1) := by decide +kernel
theorem dL_law_1442 : decode cL_law 1442 = .ok (.iaload, 1) := by decide +kernel
theorem dL_law_1443 : decode cL_law 1443 = .ok (.aload_n 0, 1) := by decide +kernel
theorem dL_law_1444 : decode cL_law 1444 = .ok (.iload_n 3, 1) := by decide +kernel
theorem dL_law_1445 : decode cL_law 1445 = .ok (.iconst 4, 1) := by decide +kernel
theorem dL_law_1446 : decode cL_law 1446 = .ok (.iadd, 1) := by decide +kernel
theorem dL_law_1447 : decode cL_law 1447 = .ok (.iaload, 1) := by decide +kernel
theorem dL_law_1448 : decode cL_law 1448 = .ok (.aload_n 0, 1) := by decide +kernel
theorem dL_law_1449 : decode cL_law 1449 = .ok (.iload_n 3, 1) := by decide +kernel
theorem dL_law_1450 : decode cL_law 1450 = .ok (.iconst 5, 1) := by decide +kernel
theorem dL_law_1451 : decode cL_law 1451 = .ok (.iadd, 1) := by decide +kernel
theorem dL_law_1452 : decode cL_law 1452 = .ok (.iaload, 1) := by decide +kernel
theorem dL_law_1453 : decode cL_law 1453 = .ok (.invokevirtual 162, 3) := by decide +kernel
theorem dL_law_1456 : decode cL_law 1456 = .ok (.aload_n 2, 1) := by decide +kernel
theorem dL_law_1457 : decode cL_law 1457 = .ok (.aload_n 0, 1) := by decide +kernel
theorem dL_law_1458 : decode cL_law 1458 = .ok (.iload_n 3, 1) := by decide +kernel
theorem dL_law_1459 : decode cL_law 1459 = .ok (.iconst 1, 1) := by decide +kernel
theorem dL_law_1460 : decode cL_law 1460 = .ok (.iadd, 1) := by decide +kernel
theorem dL_law_1461 : decode cL_law 1461 = .ok (.iaload, 1) := by decide +kernel
theorem dL_law_1462 : decode cL_law 1462 = .ok (.aload_n 0, 1) := by decide +kernel
theorem dL_law_1463 : decode cL_law 1463 = .ok (.iload_n 3, 1) := by decide +kernel
theorem dL_law_1464 : decode cL_law 1464 = .ok (.iconst 2, 1) := by decide +kernel
theorem dL_law_1465 : decode cL_law 1465 = .ok (.iadd, 1) := by decide +kernel
theorem dL_law_1466 : decode cL_law 1466 = .ok (.iaload, 1) := by decide +kernel
theorem dL_law_1467 : decode cL_law 1467 = .ok (.aload_n 0, 1) := by decide +kernel
theorem dL_law_1468 : decode cL_law 1468 = .ok (.iload_n 3, 1) := by decide +kernel
theorem dL_law_1469 : decode cL_law 1469 = .ok (.iconst 3, 1) := by decide +kernel
theorem dL_law_1470 : decode cL_law 1470 = .ok (.iadd, 1) := by decide +kernel
theorem dL_law_1471 : decode cL_law 1471 = .ok (.iaload, 1) := by decide +kernel
theorem dL_law_1472 : decode cL_law 1472 = .ok (.aload_n 0, 1) := by decide +kernel
theorem dL_law_1473 : decode cL_law 1473 = .ok (.iload_n 3, 1) := by decide +kernel
theorem dL_law_1474 : decode cL_law 1474 = .ok (.iconst 4, 1) := by decide +kernel
theorem dL_law_1475 : decode cL_law 1475 = .ok (.iadd, 1) := by decide +kernel
theorem dL_law_1476 : decode cL_law 1476 = .ok (.iaload, 1) := by decide +kernel
theorem dL_law_1477 : decode cL_law 1477 = .ok (.aload_n 0, 1) := by decide +kernel
theorem dL_law_1478 : decode cL_law 1478 = .ok (.iload_n 3, 1) := by decide +kernel
theorem dL_law_1479 : decode cL_law 1479 = .ok (.iconst 5, 1) := by decide +kernel
theorem dL_law_1480 : decode cL_law 1480 = .ok (.iadd, 1) := by decide +kernel
theorem dL_law_1481 : decode cL_law 1481 = .ok (.iaload, 1) := by decide +kernel
theorem dL_law_1482 : decode cL_law 1482 = .ok (.invokevirtual 166, 3) := by decide +kernel
theorem dL_law_1485 : decode cL_law 1485 = .ok (.if_icmp .eq 61, 3) := by decide +kernel
set_option maxHeartbeats 8000000 in
set_option maxRecDepth 100000 in
theorem law_case_35 {p : Program} {l : Launch} {e : Env} {s : State} {m : MethodId} {below : List Frame} {meth : Method} {c : Code} {b : Nat} {xs : Nat → Int32} {D : va_G} {cs : Nat → ClassId} {k : (Nat → Nat) × (Nat → Nat)} {ad ae am : Nat → Nat} {wb : Nat} {g pf : Nat → Option Nat} (C0 : lw_At p s m meth c b 6 xs) (hK : va_K D classes (zT cs) s) (hO : zO s) (hE : zE k (fun q : Nat => s.heap.size ≤ q) s) (GF : ∀ t, t < 8 → g (24 + t) = some (ae 0)) (PF : ∀ j, j < 6 → pf j = some (ae (2 + 2 * j))) (H : Heap) (locs : List Loc) (ls : Array Slot) (hP : va_P D classes (zF ad cs ae wb g pf ++ zM am cs) H) (hD : va_D (fun q : Nat => s.heap.size ≤ q) (zF ad cs ae wb g pf ++ zM am cs)) (hS : va_S (fun q : Nat => s.heap.size ≤ q) s.heap H locs) (hl : lv_has ls 4 [(0, .ref b), (1, .ref (ad 0)), (2, .ref (am 41)), (3, .int (0 : Int32))]) : W p l e room_1 s m #[Value.ref b] below meth c H locs 2000 200000 (lw_Z below #[Value.ref b] s) (F0 m 1427 ls []) := by
  obtain ⟨hx, hb, hr, hml, hown, hts, hX, hbl, hlocks, hgv⟩ := id C0
  have hA : ∀ q : Nat, s.heap.size ≤ q → (fun q : Nat => s.heap.size ≤ q) q := fun _ h => h
  have hbA : ¬ (fun q : Nat => s.heap.size ≤ q) b := Nat.not_le.mpr hbl
  have ht : ∀ w ∈ zW, w.before #[Value.ref b] s = true := fun w hw => hts w (List.mem_filter.mp hw).1
  obtain ⟨j0, hj0, hp0⟩ := zk_pl (xs ((0 : Int32) + (1 : Int32)).toNatClampNeg)
  rcases (show j0 = 0 ∨ j0 = 1 ∨ j0 = 2 ∨ j0 = 3 ∨ j0 = 4 ∨ j0 = 5 by omega) with rfl | rfl | rfl | rfl | rfl | rfl
  · obtain ⟨j1, hj1, hp1⟩ := zk_pl (xs ((0 : Int32) + (3 : Int32)).toNatClampNeg)
    rcases (show j1 = 0 ∨ j1 = 1 ∨ j1 = 2 ∨ j1 = 3 ∨ j1 = 4 ∨ j1 = 5 by omega) with rfl | rfl | rfl | rfl | rfl | rfl
    · obtain ⟨R1, R2, h1, h2, eq⟩ := pe_shiftA (g := g) (pf := pf) (ae := ae) (wb := wb) GF PF 0 (by omega) (xs ((0 : Int32) + (1 : Int32)).toNatClampNeg) (xs ((0 : Int32) + (2 : Int32)).toNatClampNeg) (xs ((0 : Int32) + (3 : Int32)).toNatClampNeg) (xs ((0 : Int32) + (4 : Int32)).toNatClampNeg) (xs ((0 : Int32) + (5 : Int32)).toNatClampNeg) hp0 hp1
      refine lv_aload_n hx hb dL_law_1427 rfl (lv_at hl 1 rfl) ?_
      refine lv_aload_n hx hb dL_law_1428 rfl (lv_at hl 0 rfl) ?_
      refine lv_iload_n hx hb dL_law_1429 rfl (lv_at hl 3 rfl) ?_
      refine lv_iconst (v := (1 : Int32)) hx hb dL_law_1430 (by decide) ?_
      refine lv_iadd hx hb dL_law_1431 ?_
      refine va_sld hx hb hX hbl hbA hS (by unfold vp_in; decide) dL_law_1432 ?_
      refine lv_aload_n hx hb dL_law_1433 rfl (lv_at hl 0 rfl) ?_
      refine lv_iload_n hx hb dL_law_1434 rfl (lv_at hl 3 rfl) ?_
      refine lv_iconst (v := (2 : Int32)) hx hb dL_law_1435 (by decide) ?_
      refine lv_iadd hx hb dL_law_1436 ?_
      refine va_sld hx hb hX hbl hbA hS (by unfold vp_in; decide) dL_law_1437 ?_
      refine lv_aload_n hx hb dL_law_1438 rfl (lv_at hl 0 rfl) ?_
      refine lv_iload_n hx hb dL_law_1439 rfl (lv_at hl 3 rfl) ?_
      refine lv_iconst (v := (3 : Int32)) hx hb dL_law_1440 (by decide) ?_
      refine lv_iadd hx hb dL_law_1441 ?_
      refine va_sld hx hb hX hbl hbA hS (by unfold vp_in; decide) dL_law_1442 ?_
      refine lv_aload_n hx hb dL_law_1443 rfl (lv_at hl 0 rfl) ?_
      refine lv_iload_n hx hb dL_law_1444 rfl (lv_at hl 3 rfl) ?_
      refine lv_iconst (v := (4 : Int32)) hx hb dL_law_1445 (by decide) ?_
      refine lv_iadd hx hb dL_law_1446 ?_
      refine va_sld hx hb hX hbl hbA hS (by unfold vp_in; decide) dL_law_1447 ?_
      refine lv_aload_n hx hb dL_law_1448 rfl (lv_at hl 0 rfl) ?_
      refine lv_iload_n hx hb dL_law_1449 rfl (lv_at hl 3 rfl) ?_
      refine lv_iconst (v := (5 : Int32)) hx hb dL_law_1450 (by decide) ?_
      refine lv_iadd hx hb dL_law_1451 ?_
      refine va_sld hx hb hX hbl hbA hS (by unfold vp_in; decide) dL_law_1452 ?_
      refine zk_vi (post := (fun r u => (r, u) = R1)) (w1 := fun u => (wl_X11_shift ad cs (ae 2) (ae 3) pf (-1) 0 0)) (As := [.int (xs ((0 : Int32) + (1 : Int32)).toNatClampNeg), .int (xs ((0 : Int32) + (2 : Int32)).toNatClampNeg), .int (xs ((0 : Int32) + (3 : Int32)).toNatClampNeg), .int (xs ((0 : Int32) + (4 : Int32)).toNatClampNeg), .int (xs ((0 : Int32) + (5 : Int32)).toNatClampNeg)]) (rest := []) (c_X11_shift l D cs ad (ae 2) (ae 3)  H.size (xs ((0 : Int32) + (1 : Int32)).toNatClampNeg) (xs ((0 : Int32) + (2 : Int32)).toNatClampNeg) (xs ((0 : Int32) + (3 : Int32)).toNatClampNeg) (xs ((0 : Int32) + (4 : Int32)).toNatClampNeg) (xs ((0 : Int32) + (5 : Int32)).toNatClampNeg) pf (-1) 0 0 R1 h1) ⟨hx, hb, hml, hown, ht⟩ (cwV 5 ht gl_162 rfl rfl rfl (by decide +kernel) ⟨Nat.le_of_ble_eq_true rfl, Nat.le_of_ble_eq_true rfl⟩) (va_recv hK hP (ci := 11) (q0 := 0) rfl rfl) hP hD hS hK hA [0, 1, 43] [55, 56, 57, 58, 59, 60, 61, 62, 63, 64, 65, 66, 67, 68, 69, 70, 71, 72, 73, 74, 75, 76, 77, 78, 79, 80, 81, 82, 83, 84, 85, 86, 87, 88, 89, 90, 91, 92, 93, 94, 95, 96, 97, 98] rfl rfl law_hR law_nd (law_dis rfl) rfl hl.1 (Nat.le_of_ble_eq_true rfl) dL_law_1453 ⟨Nat.le_of_ble_eq_true rfl, Nat.le_of_ble_eq_true rfl⟩ (fun r1 u1 H locs hq1 hP hD hS => ?_)
      have e1 : r1 = R1.1 := congrArg Prod.fst hq1
      rw [law_fm] at hP hD
      refine lv_aload_n hx hb dL_law_1456 rfl (lv_at hl 2 rfl) ?_
      refine lv_aload_n hx hb dL_law_1457 rfl (lv_at hl 0 rfl) ?_
      refine lv_iload_n hx hb dL_law_1458 rfl (lv_at hl 3 rfl) ?_
      refine lv_iconst (v := (1 : Int32)) hx hb dL_law_1459 (by decide) ?_
      refine lv_iadd hx hb dL_law_1460 ?_
      refine va_sld hx hb hX hbl hbA hS (by unfold vp_in; decide) dL_law_1461 ?_
      refine lv_aload_n hx hb dL_law_1462 rfl (lv_at hl 0 rfl) ?_
      refine lv_iload_n hx hb dL_law_1463 rfl (lv_at hl 3 rfl) ?_
      refine lv_iconst (v := (2 : Int32)) hx hb dL_law_1464 (by decide) ?_
      refine lv_iadd hx hb dL_law_1465 ?_
      refine va_sld hx hb hX hbl hbA hS (by unfold vp_in; decide) dL_law_1466 ?_
      refine lv_aload_n hx hb dL_law_1467 rfl (lv_at hl 0 rfl) ?_
      refine lv_iload_n hx hb dL_law_1468 rfl (lv_at hl 3 rfl) ?_
      refine lv_iconst (v := (3 : Int32)) hx hb dL_law_1469 (by decide) ?_
      refine lv_iadd hx hb dL_law_1470 ?_
      refine va_sld hx hb hX hbl hbA hS (by unfold vp_in; decide) dL_law_1471 ?_
      refine lv_aload_n hx hb dL_law_1472 rfl (lv_at hl 0 rfl) ?_
      refine lv_iload_n hx hb dL_law_1473 rfl (lv_at hl 3 rfl) ?_
      refine lv_iconst (v := (4 : Int32)) hx hb dL_law_1474 (by decide) ?_
      refine lv_iadd hx hb dL_law_1475 ?_
      refine va_sld hx hb hX hbl hbA hS (by unfold vp_in; decide) dL_law_1476 ?_
      refine lv_aload_n hx hb dL_law_1477 rfl (lv_at hl 0 rfl) ?_
      refine lv_iload_n hx hb dL_law_1478 rfl (lv_at hl 3 rfl) ?_
      refine lv_iconst (v := (5 : Int32)) hx hb dL_law_1479 (by decide) ?_
      refine lv_iadd hx hb dL_law_1480 ?_
      refine va_sld hx hb hX hbl hbA hS (by unfold vp_in; decide) dL_law_1481 ?_
      refine zk_vi (post := (fun r u => (r, u) = R2)) (w1 := fun u => (wl_X12_shift am cs 0 0 0 0 0 0 0 0 0 0 0 0 0 0 0 0 0 ((upd (upd (upd (upd (upd (upd (fun _ => 0) ((0 : Int32)).toNatClampNeg (-1 : Int32)) ((1 : Int32)).toNatClampNeg (-1 : Int32)) ((2 : Int32)).toNatClampNeg (-1 : Int32)) ((3 : Int32)).toNatClampNeg (-1 : Int32)) ((4 : Int32)).toNatClampNeg (-1 : Int32)) ((5 : Int32)).toNatClampNeg (-1 : Int32))) ((fun _ => 0)) u.1 u.2)) (As := [.int (xs ((0 : Int32) + (1 : Int32)).toNatClampNeg), .int (xs ((0 : Int32) + (2 : Int32)).toNatClampNeg), .int (xs ((0 : Int32) + (3 : Int32)).toNatClampNeg), .int (xs ((0 : Int32) + (4 : Int32)).toNatClampNeg), .int (xs ((0 : Int32) + (5 : Int32)).toNatClampNeg)]) (rest := [.int r1]) (c_X12_shift l D cs am   H.size 4000 (xs ((0 : Int32) + (1 : Int32)).toNatClampNeg) (xs ((0 : Int32) + (2 : Int32)).toNatClampNeg) (xs ((0 : Int32) + (3 : Int32)).toNatClampNeg) (xs ((0 : Int32) + (4 : Int32)).toNatClampNeg) (xs ((0 : Int32) + (5 : Int32)).toNatClampNeg) 0 0 0 0 0 0 0 0 0 0 0 0 0 0 0 0 0 ((upd (upd (upd (upd (upd (upd (fun _ => 0) ((0 : Int32)).toNatClampNeg (-1 : Int32)) ((1 : Int32)).toNatClampNeg (-1 : Int32)) ((2 : Int32)).toNatClampNeg (-1 : Int32)) ((3 : Int32)).toNatClampNeg (-1 : Int32)) ((4 : Int32)).toNatClampNeg (-1 : Int32)) ((5 : Int32)).toNatClampNeg (-1 : Int32))) ((fun _ => 0)) ((fun _ => 0)) ((fun _ => 0)) R2 h2) ⟨hx, hb, hml, hown, ht⟩ (cwV 5 ht gl_166 rfl rfl rfl (by decide +kernel) ⟨Nat.le_of_ble_eq_true rfl, Nat.le_of_ble_eq_true rfl⟩) (va_recv hK hP (ci := 12) (q0 := 0) rfl rfl) hP hD hS hK hA [0, 40, 41, 42, 43] [] rfl rfl rfl rfl (by decide) rfl hl.1 (Nat.le_of_ble_eq_true rfl) dL_law_1482 ⟨Nat.le_of_ble_eq_true rfl, Nat.le_of_ble_eq_true rfl⟩ (fun r2 u2 H locs hq2 hP hD hS => ?_)
      have e2 : r2 = R2.1 := congrArg Prod.fst hq2
      have EQ : r1 = r2 := by rw [e1, e2]; exact eq
      refine lv_icmp_eq (tgt := 1546) hx hb dL_law_1485 (by decide) (fun cc => ?_) (fun cc => absurd EQ cc)
      exact law_next C0 (by decide) (by decide) H locs ls hS (lv_sub hl [0, 3] rfl)
    · obtain ⟨R1, R2, h1, h2, eq⟩ := pe_shift (g := g) (pf := pf) (ae := ae) (wb := wb) GF PF 0 (by omega) 1 (by omega) (xs ((0 : Int32) + (1 : Int32)).toNatClampNeg) (xs ((0 : Int32) + (2 : Int32)).toNatClampNeg) (xs ((0 : Int32) + (3 : Int32)).toNatClampNeg) (xs ((0 : Int32) + (4 : Int32)).toNatClampNeg) (xs ((0 : Int32) + (5 : Int32)).toNatClampNeg) hp0 hp1
      refine lv_aload_n hx hb dL_law_1427 rfl (lv_at hl 1 rfl) ?_
      refine lv_aload_n hx hb dL_law_1428 rfl (lv_at hl 0 rfl) ?_
      refine lv_iload_n hx hb dL_law_1429 rfl (lv_at hl 3 rfl) ?_
      refine lv_iconst (v := (1 : Int32)) hx hb dL_law_1430 (by decide) ?_
      refine lv_iadd hx hb dL_law_1431 ?_
      refine va_sld hx hb hX hbl hbA hS (by unfold vp_in; decide) dL_law_1432 ?_
      refine lv_aload_n hx hb dL_law_1433 rfl (lv_at hl 0 rfl) ?_
      refine lv_iload_n hx hb dL_law_1434 rfl (lv_at hl 3 rfl) ?_
      refine lv_iconst (v := (2 : Int32)) hx hb dL_law_1435 (by decide) ?_
      refine lv_iadd hx hb dL_law_1436 ?_
      refine va_sld hx hb hX hbl hbA hS (by unfold vp_in; decide) dL_law_1437 ?_
      refine lv_aload_n hx hb dL_law_1438 rfl (lv_at hl 0 rfl) ?_
      refine lv_iload_n hx hb dL_law_1439 rfl (lv_at hl 3 rfl) ?_
      refine lv_iconst (v := (3 : Int32)) hx hb dL_law_1440 (by decide) ?_
      refine lv_iadd hx hb dL_law_1441 ?_
      refine va_sld hx hb hX hbl hbA hS (by unfold vp_in; decide) dL_law_1442 ?_
      refine lv_aload_n hx hb dL_law_1443 rfl (lv_at hl 0 rfl) ?_
      refine lv_iload_n hx hb dL_law_1444 rfl (lv_at hl 3 rfl) ?_
      refine lv_iconst (v := (4 : Int32)) hx hb dL_law_1445 (by decide) ?_
      refine lv_iadd hx hb dL_law_1446 ?_
      refine va_sld hx hb hX hbl hbA hS (by unfold vp_in; decide) dL_law_1447 ?_
      refine lv_aload_n hx hb dL_law_1448 rfl (lv_at hl 0 rfl) ?_
      refine lv_iload_n hx hb dL_law_1449 rfl (lv_at hl 3 rfl) ?_
      refine lv_iconst (v := (5 : Int32)) hx hb dL_law_1450 (by decide) ?_
      refine lv_iadd hx hb dL_law_1451 ?_
      refine va_sld hx hb hX hbl hbA hS (by unfold vp_in; decide) dL_law_1452 ?_
      refine zk_vi (post := (fun r u => (r, u) = R1)) (w1 := fun u => (wl_X11_shiftB ad cs (ae 2) (ae 3) (ae 4) (ae 5) pf (-1) 0 0 (-1) 0 0)) (As := [.int (xs ((0 : Int32) + (1 : Int32)).toNatClampNeg), .int (xs ((0 : Int32) + (2 : Int32)).toNatClampNeg), .int (xs ((0 : Int32) + (3 : Int32)).toNatClampNeg), .int (xs ((0 : Int32) + (4 : Int32)).toNatClampNeg), .int (xs ((0 : Int32) + (5 : Int32)).toNatClampNeg)]) (rest := []) (c_X11_shiftB l D cs ad (ae 2) (ae 3) (ae 4) (ae 5)  H.size (xs ((0 : Int32) + (1 : Int32)).toNatClampNeg) (xs ((0 : Int32) + (2 : Int32)).toNatClampNeg) (xs ((0 : Int32) + (3 : Int32)).toNatClampNeg) (xs ((0 : Int32) + (4 : Int32)).toNatClampNeg) (xs ((0 : Int32) + (5 : Int32)).toNatClampNeg) pf (-1) 0 0 (-1) 0 0 R1 h1) ⟨hx, hb, hml, hown, ht⟩ (cwV 5 ht gl_162 rfl rfl rfl (by decide +kernel) ⟨Nat.le_of_ble_eq_true rfl, Nat.le_of_ble_eq_true rfl⟩) (va_recv hK hP (ci := 11) (q0 := 0) rfl rfl) hP hD hS hK hA [0, 1, 43, 45] [55, 56, 57, 58, 59, 60, 61, 62, 63, 64, 65, 66, 67, 68, 69, 70, 71, 72, 73, 74, 75, 76, 77, 78, 79, 80, 81, 82, 83, 84, 85, 86, 87, 88, 89, 90, 91, 92, 93, 94, 95, 96, 97, 98] rfl rfl law_hR law_nd (law_dis rfl) rfl hl.1 (Nat.le_of_ble_eq_true rfl) dL_law_1453 ⟨Nat.le_of_ble_eq_true rfl, Nat.le_of_ble_eq_true rfl⟩ (fun r1 u1 H locs hq1 hP hD hS => ?_)
      have e1 : r1 = R1.1 := congrArg Prod.fst hq1
      rw [law_fm] at hP hD
      refine lv_aload_n hx hb dL_law_1456 rfl (lv_at hl 2 rfl) ?_
      refine lv_aload_n hx hb dL_law_1457 rfl (lv_at hl 0 rfl) ?_
      refine lv_iload_n hx hb dL_law_1458 rfl (lv_at hl 3 rfl) ?_
      refine lv_iconst (v := (1 : Int32)) hx hb dL_law_1459 (by decide) ?_
      refine lv_iadd hx hb dL_law_1460 ?_
      refine va_sld hx hb hX hbl hbA hS (by unfold vp_in; decide) dL_law_1461 ?_
      refine lv_aload_n hx hb dL_law_1462 rfl (lv_at hl 0 rfl) ?_
      refine lv_iload_n hx hb dL_law_1463 rfl (lv_at hl 3 rfl) ?_
      refine lv_iconst (v := (2 : Int32)) hx hb dL_law_1464 (by decide) ?_
      refine lv_iadd hx hb dL_law_1465 ?_
      refine va_sld hx hb hX hbl hbA hS (by unfold vp_in; decide) dL_law_1466 ?_
      refine lv_aload_n hx hb dL_law_1467 rfl (lv_at hl 0 rfl) ?_
      refine lv_iload_n hx hb dL_law_1468 rfl (lv_at hl 3 rfl) ?_
      refine lv_iconst (v := (3 : Int32)) hx hb dL_law_1469 (by decide) ?_
      refine lv_iadd hx hb dL_law_1470 ?_
      refine va_sld hx hb hX hbl hbA hS (by unfold vp_in; decide) dL_law_1471 ?_
      refine lv_aload_n hx hb dL_law_1472 rfl (lv_at hl 0 rfl) ?_
      refine lv_iload_n hx hb dL_law_1473 rfl (lv_at hl 3 rfl) ?_
      refine lv_iconst (v := (4 : Int32)) hx hb dL_law_1474 (by decide) ?_
      refine lv_iadd hx hb dL_law_1475 ?_
      refine va_sld hx hb hX hbl hbA hS (by unfold vp_in; decide) dL_law_1476 ?_
      refine lv_aload_n hx hb dL_law_1477 rfl (lv_at hl 0 rfl) ?_
      refine lv_iload_n hx hb dL_law_1478 rfl (lv_at hl 3 rfl) ?_
      refine lv_iconst (v := (5 : Int32)) hx hb dL_law_1479 (by decide) ?_
      refine lv_iadd hx hb dL_law_1480 ?_
      refine va_sld hx hb hX hbl hbA hS (by unfold vp_in; decide) dL_law_1481 ?_
      refine zk_vi (post := (fun r u => (r, u) = R2)) (w1 := fun u => (wl_X12_shift am cs 0 0 0 0 0 0 0 0 0 0 0 0 0 0 0 0 0 ((upd (upd (upd (upd (upd (upd (fun _ => 0) ((0 : Int32)).toNatClampNeg (-1 : Int32)) ((1 : Int32)).toNatClampNeg (-1 : Int32)) ((2 : Int32)).toNatClampNeg (-1 : Int32)) ((3 : Int32)).toNatClampNeg (-1 : Int32)) ((4 : Int32)).toNatClampNeg (-1 : Int32)) ((5 : Int32)).toNatClampNeg (-1 : Int32))) ((fun _ => 0)) u.1 u.2)) (As := [.int (xs ((0 : Int32) + (1 : Int32)).toNatClampNeg), .int (xs ((0 : Int32) + (2 : Int32)).toNatClampNeg), .int (xs ((0 : Int32) + (3 : Int32)).toNatClampNeg), .int (xs ((0 : Int32) + (4 : Int32)).toNatClampNeg), .int (xs ((0 : Int32) + (5 : Int32)).toNatClampNeg)]) (rest := [.int r1]) (c_X12_shift l D cs am   H.size 4000 (xs ((0 : Int32) + (1 : Int32)).toNatClampNeg) (xs ((0 : Int32) + (2 : Int32)).toNatClampNeg) (xs ((0 : Int32) + (3 : Int32)).toNatClampNeg) (xs ((0 : Int32) + (4 : Int32)).toNatClampNeg) (xs ((0 : Int32) + (5 : Int32)).toNatClampNeg) 0 0 0 0 0 0 0 0 0 0 0 0 0 0 0 0 0 ((upd (upd (upd (upd (upd (upd (fun _ => 0) ((0 : Int32)).toNatClampNeg (-1 : Int32)) ((1 : Int32)).toNatClampNeg (-1 : Int32)) ((2 : Int32)).toNatClampNeg (-1 : Int32)) ((3 : Int32)).toNatClampNeg (-1 : Int32)) ((4 : Int32)).toNatClampNeg (-1 : Int32)) ((5 : Int32)).toNatClampNeg (-1 : Int32))) ((fun _ => 0)) ((fun _ => 0)) ((fun _ => 0)) R2 h2) ⟨hx, hb, hml, hown, ht⟩ (cwV 5 ht gl_166 rfl rfl rfl (by decide +kernel) ⟨Nat.le_of_ble_eq_true rfl, Nat.le_of_ble_eq_true rfl⟩) (va_recv hK hP (ci := 12) (q0 := 0) rfl rfl) hP hD hS hK hA [0, 40, 41, 42, 43] [] rfl rfl rfl rfl (by decide) rfl hl.1 (Nat.le_of_ble_eq_true rfl) dL_law_1482 ⟨Nat.le_of_ble_eq_true rfl, Nat.le_of_ble_eq_true rfl⟩ (fun r2 u2 H locs hq2 hP hD hS => ?_)
      have e2 : r2 = R2.1 := congrArg Prod.fst hq2
      have EQ : r1 = r2 := by rw [e1, e2]; exact eq
      refine lv_icmp_eq (tgt := 1546) hx hb dL_law_1485 (by decide) (fun cc => ?_) (fun cc => absurd EQ cc)
      exact law_next C0 (by decide) (by decide) H locs ls hS (lv_sub hl [0, 3] rfl)
    · obtain ⟨R1, R2, h1, h2, eq⟩ := pe_shift (g := g) (pf := pf) (ae := ae) (wb := wb) GF PF 0 (by omega) 2 (by omega) (xs ((0 : Int32) + (1 : Int32)).toNatClampNeg) (xs ((0 : Int32) + (2 : Int32)).toNatClampNeg) (xs ((0 : Int32) + (3 : Int32)).toNatClampNeg) (xs ((0 : Int32) + (4 : Int32)).toNatClampNeg) (xs ((0 : Int32) + (5 : Int32)).toNatClampNeg) hp0 hp1
      refine lv_aload_n hx hb dL_law_1427 rfl (lv_at hl 1 rfl) ?_
      refine lv_aload_n hx hb dL_law_1428 rfl (lv_at hl 0 rfl) ?_
      refine lv_iload_n hx hb dL_law_1429 rfl (lv_at hl 3 rfl) ?_
      refine lv_iconst (v := (1 : Int32)) hx hb dL_law_1430 (by decide) ?_
      refine lv_iadd hx hb dL_law_1431 ?_
      refine va_sld hx hb hX hbl hbA hS (by unfold vp_in; decide) dL_law_1432 ?_
      refine lv_aload_n hx hb dL_law_1433 rfl (lv_at hl 0 rfl) ?_
      refine lv_iload_n hx hb dL_law_1434 rfl (lv_at hl 3 rfl) ?_
      refine lv_iconst (v := (2 : Int32)) hx hb dL_law_1435 (by decide) ?_
      refine lv_iadd hx hb dL_law_1436 ?_
      refine va_sld hx hb hX hbl hbA hS (by unfold vp_in; decide) dL_law_1437 ?_
      refine lv_aload_n hx hb dL_law_1438 rfl (lv_at hl 0 rfl) ?_
      refine lv_iload_n hx hb dL_law_1439 rfl (lv_at hl 3 rfl) ?_
      refine lv_iconst (v := (3 : Int32)) hx hb dL_law_1440 (by decide) ?_
      refine lv_iadd hx hb dL_law_1441 ?_
      refine va_sld hx hb hX hbl hbA hS (by unfold vp_in; decide) dL_law_1442 ?_
      refine lv_aload_n hx hb dL_law_1443 rfl (lv_at hl 0 rfl) ?_
      refine lv_iload_n hx hb dL_law_1444 rfl (lv_at hl 3 rfl) ?_
      refine lv_iconst (v := (4 : Int32)) hx hb dL_law_1445 (by decide) ?_
      refine lv_iadd hx hb dL_law_1446 ?_
      refine va_sld hx hb hX hbl hbA hS (by unfold vp_in; decide) dL_law_1447 ?_
      refine lv_aload_n hx hb dL_law_1448 rfl (lv_at hl 0 rfl) ?_
      refine lv_iload_n hx hb dL_law_1449 rfl (lv_at hl 3 rfl) ?_
      refine lv_iconst (v := (5 : Int32)) hx hb dL_law_1450 (by decide) ?_
      refine lv_iadd hx hb dL_law_1451 ?_
      refine va_sld hx hb hX hbl hbA hS (by unfold vp_in; decide) dL_law_1452 ?_
      refine zk_vi (post := (fun r u => (r, u) = R1)) (w1 := fun u => (wl_X11_shiftB ad cs (ae 2) (ae 3) (ae 6) (ae 7) pf (-1) 0 0 (-1) 0 0)) (As := [.int (xs ((0 : Int32) + (1 : Int32)).toNatClampNeg), .int (xs ((0 : Int32) + (2 : Int32)).toNatClampNeg), .int (xs ((0 : Int32) + (3 : Int32)).toNatClampNeg), .int (xs ((0 : Int32) + (4 : Int32)).toNatClampNeg), .int (xs ((0 : Int32) + (5 : Int32)).toNatClampNeg)]) (rest := []) (c_X11_shiftB l D cs ad (ae 2) (ae 3) (ae 6) (ae 7)  H.size (xs ((0 : Int32) + (1 : Int32)).toNatClampNeg) (xs ((0 : Int32) + (2 : Int32)).toNatClampNeg) (xs ((0 : Int32) + (3 : Int32)).toNatClampNeg) (xs ((0 : Int32) + (4 : Int32)).toNatClampNeg) (xs ((0 : Int32) + (5 : Int32)).toNatClampNeg) pf (-1) 0 0 (-1) 0 0 R1 h1) ⟨hx, hb, hml, hown, ht⟩ (cwV 5 ht gl_162 rfl rfl rfl (by decide +kernel) ⟨Nat.le_of_ble_eq_true rfl, Nat.le_of_ble_eq_true rfl⟩) (va_recv hK hP (ci := 11) (q0 := 0) rfl rfl) hP hD hS hK hA [0, 1, 43, 47] [55, 56, 57, 58, 59, 60, 61, 62, 63, 64, 65, 66, 67, 68, 69, 70, 71, 72, 73, 74, 75, 76, 77, 78, 79, 80, 81, 82, 83, 84, 85, 86, 87, 88, 89, 90, 91, 92, 93, 94, 95, 96, 97, 98] rfl rfl law_hR law_nd (law_dis rfl) rfl hl.1 (Nat.le_of_ble_eq_true rfl) dL_law_1453 ⟨Nat.le_of_ble_eq_true rfl, Nat.le_of_ble_eq_true rfl⟩ (fun r1 u1 H locs hq1 hP hD hS => ?_)
      have e1 : r1 = R1.1 := congrArg Prod.fst hq1
      rw [law_fm] at hP hD
      refine lv_aload_n hx hb dL_law_1456 rfl (lv_at hl 2 rfl) ?_
      refine lv_aload_n hx hb dL_law_1457 rfl (lv_at hl 0 rfl) ?_
      refine lv_iload_n hx hb dL_law_1458 rfl (lv_at hl 3 rfl) ?_
      refine lv_iconst (v := (1 : Int32)) hx hb dL_law_1459 (by decide) ?_
      refine lv_iadd hx hb dL_law_1460 ?_
      refine va_sld hx hb hX hbl hbA hS (by unfold vp_in; decide) dL_law_1461 ?_
      refine lv_aload_n hx hb dL_law_1462 rfl (lv_at hl 0 rfl) ?_
      refine lv_iload_n hx hb dL_law_1463 rfl (lv_at hl 3 rfl) ?_
      refine lv_iconst (v := (2 : Int32)) hx hb dL_law_1464 (by decide) ?_
      refine lv_iadd hx hb dL_law_1465 ?_
      refine va_sld hx hb hX hbl hbA hS (by unfold vp_in; decide) dL_law_1466 ?_
      refine lv_aload_n hx hb dL_law_1467 rfl (lv_at hl 0 rfl) ?_
      refine lv_iload_n hx hb dL_law_1468 rfl (lv_at hl 3 rfl) ?_
      refine lv_iconst (v := (3 : Int32)) hx hb dL_law_1469 (by decide) ?_
      refine lv_iadd hx hb dL_law_1470 ?_
      refine va_sld hx hb hX hbl hbA hS (by unfold vp_in; decide) dL_law_1471 ?_
      refine lv_aload_n hx hb dL_law_1472 rfl (lv_at hl 0 rfl) ?_
      refine lv_iload_n hx hb dL_law_1473 rfl (lv_at hl 3 rfl) ?_
      refine lv_iconst (v := (4 : Int32)) hx hb dL_law_1474 (by decide) ?_
      refine lv_iadd hx hb dL_law_1475 ?_
      refine va_sld hx hb hX hbl hbA hS (by unfold vp_in; decide) dL_law_1476 ?_
      refine lv_aload_n hx hb dL_law_1477 rfl (lv_at hl 0 rfl) ?_
      refine lv_iload_n hx hb dL_law_1478 rfl (lv_at hl 3 rfl) ?_
      refine lv_iconst (v := (5 : Int32)) hx hb dL_law_1479 (by decide) ?_
      refine lv_iadd hx hb dL_law_1480 ?_
      refine va_sld hx hb hX hbl hbA hS (by unfold vp_in; decide) dL_law_1481 ?_
      refine zk_vi (post := (fun r u => (r, u) = R2)) (w1 := fun u => (wl_X12_shift am cs 0 0 0 0 0 0 0 0 0 0 0 0 0 0 0 0 0 ((upd (upd (upd (upd (upd (upd (fun _ => 0) ((0 : Int32)).toNatClampNeg (-1 : Int32)) ((1 : Int32)).toNatClampNeg (-1 : Int32)) ((2 : Int32)).toNatClampNeg (-1 : Int32)) ((3 : Int32)).toNatClampNeg (-1 : Int32)) ((4 : Int32)).toNatClampNeg (-1 : Int32)) ((5 : Int32)).toNatClampNeg (-1 : Int32))) ((fun _ => 0)) u.1 u.2)) (As := [.int (xs ((0 : Int32) + (1 : Int32)).toNatClampNeg), .int (xs ((0 : Int32) + (2 : Int32)).toNatClampNeg), .int (xs ((0 : Int32) + (3 : Int32)).toNatClampNeg), .int (xs ((0 : Int32) + (4 : Int32)).toNatClampNeg), .int (xs ((0 : Int32) + (5 : Int32)).toNatClampNeg)]) (rest := [.int r1]) (c_X12_shift l D cs am   H.size 4000 (xs ((0 : Int32) + (1 : Int32)).toNatClampNeg) (xs ((0 : Int32) + (2 : Int32)).toNatClampNeg) (xs ((0 : Int32) + (3 : Int32)).toNatClampNeg) (xs ((0 : Int32) + (4 : Int32)).toNatClampNeg) (xs ((0 : Int32) + (5 : Int32)).toNatClampNeg) 0 0 0 0 0 0 0 0 0 0 0 0 0 0 0 0 0 ((upd (upd (upd (upd (upd (upd (fun _ => 0) ((0 : Int32)).toNatClampNeg (-1 : Int32)) ((1 : Int32)).toNatClampNeg (-1 : Int32)) ((2 : Int32)).toNatClampNeg (-1 : Int32)) ((3 : Int32)).toNatClampNeg (-1 : Int32)) ((4 : Int32)).toNatClampNeg (-1 : Int32)) ((5 : Int32)).toNatClampNeg (-1 : Int32))) ((fun _ => 0)) ((fun _ => 0)) ((fun _ => 0)) R2 h2) ⟨hx, hb, hml, hown, ht⟩ (cwV 5 ht gl_166 rfl rfl rfl (by decide +kernel) ⟨Nat.le_of_ble_eq_true rfl, Nat.le_of_ble_eq_true rfl⟩) (va_recv hK hP (ci := 12) (q0 := 0) rfl rfl) hP hD hS hK hA [0, 40, 41, 42, 43] [] rfl rfl rfl rfl (by decide) rfl hl.1 (Nat.le_of_ble_eq_true rfl) dL_law_1482 ⟨Nat.le_of_ble_eq_true rfl, Nat.le_of_ble_eq_true rfl⟩ (fun r2 u2 H locs hq2 hP hD hS => ?_)
      have e2 : r2 = R2.1 := congrArg Prod.fst hq2
      have EQ : r1 = r2 := by rw [e1, e2]; exact eq
      refine lv_icmp_eq (tgt := 1546) hx hb dL_law_1485 (by decide) (fun cc => ?_) (fun cc => absurd EQ cc)
      exact law_next C0 (by decide) (by decide) H locs ls hS (lv_sub hl [0, 3] rfl)
    · obtain ⟨R1, R2, h1, h2, eq⟩ := pe_shift (g := g) (pf := pf) (ae := ae) (wb := wb) GF PF 0 (by omega) 3 (by omega) (xs ((0 : Int32) + (1 : Int32)).toNatClampNeg) (xs ((0 : Int32) + (2 : Int32)).toNatClampNeg) (xs ((0 : Int32) + (3 : Int32)).toNatClampNeg) (xs ((0 : Int32) + (4 : Int32)).toNatClampNeg) (xs ((0 : Int32) + (5 : Int32)).toNatClampNeg) hp0 hp1
      refine lv_aload_n hx hb dL_law_1427 rfl (lv_at hl 1 rfl) ?_
      refine lv_aload_n hx hb dL_law_1428 rfl (lv_at hl 0 rfl) ?_
      refine lv_iload_n hx hb dL_law_1429 rfl (lv_at hl 3 rfl) ?_
      refine lv_iconst (v := (1 : Int32)) hx hb dL_law_1430 (by decide) ?_
      refine lv_iadd hx hb dL_law_1431 ?_
      refine va_sld hx hb hX hbl hbA hS (by unfold vp_in; decide) dL_law_1432 ?_
      refine lv_aload_n hx hb dL_law_1433 rfl (lv_at hl 0 rfl) ?_
      refine lv_iload_n hx hb dL_law_1434 rfl (lv_at hl 3 rfl) ?_
      refine lv_iconst (v := (2 : Int32)) hx hb dL_law_1435 (by decide) ?_
      refine lv_iadd hx hb dL_law_1436 ?_
      refine va_sld hx hb hX hbl hbA hS (by unfold vp_in; decide) dL_law_1437 ?_
      refine lv_aload_n hx hb dL_law_1438 rfl (lv_at hl 0 rfl) ?_
      refine lv_iload_n hx hb dL_law_1439 rfl (lv_at hl 3 rfl) ?_
      refine lv_iconst (v := (3 : Int32)) hx hb dL_law_1440 (by decide) ?_
      refine lv_iadd hx hb dL_law_1441 ?_
      refine va_sld hx hb hX hbl hbA hS (by unfold vp_in; decide) dL_law_1442 ?_
      refine lv_aload_n hx hb dL_law_1443 rfl (lv_at hl 0 rfl) ?_
      refine lv_iload_n hx hb dL_law_1444 rfl (lv_at hl 3 rfl) ?_
      refine lv_iconst (v := (4 : Int32)) hx hb dL_law_1445 (by decide) ?_
      refine lv_iadd hx hb dL_law_1446 ?_
      refine va_sld hx hb hX hbl hbA hS (by unfold vp_in; decide) dL_law_1447 ?_
      refine lv_aload_n hx hb dL_law_1448 rfl (lv_at hl 0 rfl) ?_
      refine lv_iload_n hx hb dL_law_1449 rfl (lv_at hl 3 rfl) ?_
      refine lv_iconst (v := (5 : Int32)) hx hb dL_law_1450 (by decide) ?_
      refine lv_iadd hx hb dL_law_1451 ?_
      refine va_sld hx hb hX hbl hbA hS (by unfold vp_in; decide) dL_law_1452 ?_
      refine zk_vi (post := (fun r u => (r, u) = R1)) (w1 := fun u => (wl_X11_shiftB ad cs (ae 2) (ae 3) (ae 8) (ae 9) pf (-1) 0 0 (-1) 0 0)) (As := [.int (xs ((0 : Int32) + (1 : Int32)).toNatClampNeg), .int (xs ((0 : Int32) + (2 : Int32)).toNatClampNeg), .int (xs ((0 : Int32) + (3 : Int32)).toNatClampNeg), .int (xs ((0 : Int32) + (4 : Int32)).toNatClampNeg), .int (xs ((0 : Int32) + (5 : Int32)).toNatClampNeg)]) (rest := []) (c_X11_shiftB l D cs ad (ae 2) (ae 3) (ae 8) (ae 9)  H.size (xs ((0 : Int32) + (1 : Int32)).toNatClampNeg) (xs ((0 : Int32) + (2 : Int32)).toNatClampNeg) (xs ((0 : Int32) + (3 : Int32)).toNatClampNeg) (xs ((0 : Int32) + (4 : Int32)).toNatClampNeg) (xs ((0 : Int32) + (5 : Int32)).toNatClampNeg) pf (-1) 0 0 (-1) 0 0 R1 h1) ⟨hx, hb, hml, hown, ht⟩ (cwV 5 ht gl_162 rfl rfl rfl (by decide +kernel) ⟨Nat.le_of_ble_eq_true rfl, Nat.le_of_ble_eq_true rfl⟩) (va_recv hK hP (ci := 11) (q0 := 0) rfl rfl) hP hD hS hK hA [0, 1, 43, 49] [55, 56, 57, 58, 59, 60, 61, 62, 63, 64, 65, 66, 67, 68, 69, 70, 71, 72, 73, 74, 75, 76, 77, 78, 79, 80, 81, 82, 83, 84, 85, 86, 87, 88, 89, 90, 91, 92, 93, 94, 95, 96, 97, 98] rfl rfl law_hR law_nd (law_dis rfl) rfl hl.1 (Nat.le_of_ble_eq_true rfl) dL_law_1453 ⟨Nat.le_of_ble_eq_true rfl, Nat.le_of_ble_eq_true rfl⟩ (fun r1 u1 H locs hq1 hP hD hS => ?_)
      have e1 : r1 = R1.1 := congrArg Prod.fst hq1
      rw [law_fm] at hP hD
      refine lv_aload_n hx hb dL_law_1456 rfl (lv_at hl 2 rfl) ?_
      refine lv_aload_n hx hb dL_law_1457 rfl (lv_at hl 0 rfl) ?_
      refine lv_iload_n hx hb dL_law_1458 rfl (lv_at hl 3 rfl) ?_
      refine lv_iconst (v := (1 : Int32)) hx hb dL_law_1459 (by decide) ?_
      refine lv_iadd hx hb dL_law_1460 ?_
      refine va_sld hx hb hX hbl hbA hS (by unfold vp_in; decide) dL_law_1461 ?_
      refine lv_aload_n hx hb dL_law_1462 rfl (lv_at hl 0 rfl) ?_
      refine lv_iload_n hx hb dL_law_1463 rfl (lv_at hl 3 rfl) ?_
      refine lv_iconst (v := (2 : Int32)) hx hb dL_law_1464 (by decide) ?_
      refine lv_iadd hx hb dL_law_1465 ?_
      refine va_sld hx hb hX hbl hbA hS (by unfold vp_in; decide) dL_law_1466 ?_
      refine lv_aload_n hx hb dL_law_1467 rfl (lv_at hl 0 rfl) ?_
      refine lv_iload_n hx hb dL_law_1468 rfl (lv_at hl 3 rfl) ?_
      refine lv_iconst (v := (3 : Int32)) hx hb dL_law_1469 (by decide) ?_
      refine lv_iadd hx hb dL_law_1470 ?_
      refine va_sld hx hb hX hbl hbA hS (by unfold vp_in; decide) dL_law_1471 ?_
      refine lv_aload_n hx hb dL_law_1472 rfl (lv_at hl 0 rfl) ?_
      refine lv_iload_n hx hb dL_law_1473 rfl (lv_at hl 3 rfl) ?_
      refine lv_iconst (v := (4 : Int32)) hx hb dL_law_1474 (by decide) ?_
      refine lv_iadd hx hb dL_law_1475 ?_
      refine va_sld hx hb hX hbl hbA hS (by unfold vp_in; decide) dL_law_1476 ?_
      refine lv_aload_n hx hb dL_law_1477 rfl (lv_at hl 0 rfl) ?_
      refine lv_iload_n hx hb dL_law_1478 rfl (lv_at hl 3 rfl) ?_
      refine lv_iconst (v := (5 : Int32)) hx hb dL_law_1479 (by decide) ?_
      refine lv_iadd hx hb dL_law_1480 ?_
      refine va_sld hx hb hX hbl hbA hS (by unfold vp_in; decide) dL_law_1481 ?_
      refine zk_vi (post := (fun r u => (r, u) = R2)) (w1 := fun u => (wl_X12_shift am cs 0 0 0 0 0 0 0 0 0 0 0 0 0 0 0 0 0 ((upd (upd (upd (upd (upd (upd (fun _ => 0) ((0 : Int32)).toNatClampNeg (-1 : Int32)) ((1 : Int32)).toNatClampNeg (-1 : Int32)) ((2 : Int32)).toNatClampNeg (-1 : Int32)) ((3 : Int32)).toNatClampNeg (-1 : Int32)) ((4 : Int32)).toNatClampNeg (-1 : Int32)) ((5 : Int32)).toNatClampNeg (-1 : Int32))) ((fun _ => 0)) u.1 u.2)) (As := [.int (xs ((0 : Int32) + (1 : Int32)).toNatClampNeg), .int (xs ((0 : Int32) + (2 : Int32)).toNatClampNeg), .int (xs ((0 : Int32) + (3 : Int32)).toNatClampNeg), .int (xs ((0 : Int32) + (4 : Int32)).toNatClampNeg), .int (xs ((0 : Int32) + (5 : Int32)).toNatClampNeg)]) (rest := [.int r1]) (c_X12_shift l D cs am   H.size 4000 (xs ((0 : Int32) + (1 : Int32)).toNatClampNeg) (xs ((0 : Int32) + (2 : Int32)).toNatClampNeg) (xs ((0 : Int32) + (3 : Int32)).toNatClampNeg) (xs ((0 : Int32) + (4 : Int32)).toNatClampNeg) (xs ((0 : Int32) + (5 : Int32)).toNatClampNeg) 0 0 0 0 0 0 0 0 0 0 0 0 0 0 0 0 0 ((upd (upd (upd (upd (upd (upd (fun _ => 0) ((0 : Int32)).toNatClampNeg (-1 : Int32)) ((1 : Int32)).toNatClampNeg (-1 : Int32)) ((2 : Int32)).toNatClampNeg (-1 : Int32)) ((3 : Int32)).toNatClampNeg (-1 : Int32)) ((4 : Int32)).toNatClampNeg (-1 : Int32)) ((5 : Int32)).toNatClampNeg (-1 : Int32))) ((fun _ => 0)) ((fun _ => 0)) ((fun _ => 0)) R2 h2) ⟨hx, hb, hml, hown, ht⟩ (cwV 5 ht gl_166 rfl rfl rfl (by decide +kernel) ⟨Nat.le_of_ble_eq_true rfl, Nat.le_of_ble_eq_true rfl⟩) (va_recv hK hP (ci := 12) (q0 := 0) rfl rfl) hP hD hS hK hA [0, 40, 41, 42, 43] [] rfl rfl rfl rfl (by decide) rfl hl.1 (Nat.le_of_ble_eq_true rfl) dL_law_1482 ⟨Nat.le_of_ble_eq_true rfl, Nat.le_of_ble_eq_true rfl⟩ (fun r2 u2 H locs hq2 hP hD hS => ?_)
      have e2 : r2 = R2.1 := congrArg Prod.fst hq2
      have EQ : r1 = r2 := by rw [e1, e2]; exact eq
      refine lv_icmp_eq (tgt := 1546) hx hb dL_law_1485 (by decide) (fun cc => ?_) (fun cc => absurd EQ cc)
      exact law_next C0 (by decide) (by decide) H locs ls hS (lv_sub hl [0, 3] rfl)
    · obtain ⟨R1, R2, h1, h2, eq⟩ := pe_shift (g := g) (pf := pf) (ae := ae) (wb := wb) GF PF 0 (by omega) 4 (by omega) (xs ((0 : Int32) + (1 : Int32)).toNatClampNeg) (xs ((0 : Int32) + (2 : Int32)).toNatClampNeg) (xs ((0 : Int32) + (3 : Int32)).toNatClampNeg) (xs ((0 : Int32) + (4 : Int32)).toNatClampNeg) (xs ((0 : Int32) + (5 : Int32)).toNatClampNeg) hp0 hp1
      refine lv_aload_n hx hb dL_law_1427 rfl (lv_at hl 1 rfl) ?_
      refine lv_aload_n hx hb dL_law_1428 rfl (lv_at hl 0 rfl) ?_
      refine lv_iload_n hx hb dL_law_1429 rfl (lv_at hl 3 rfl) ?_
      refine lv_iconst (v := (1 : Int32)) hx hb dL_law_1430 (by decide) ?_
      refine lv_iadd hx hb dL_law_1431 ?_
      refine va_sld hx hb hX hbl hbA hS (by unfold vp_in; decide) dL_law_1432 ?_
      refine lv_aload_n hx hb dL_law_1433 rfl (lv_at hl 0 rfl) ?_
      refine lv_iload_n hx hb dL_law_1434 rfl (lv_at hl 3 rfl) ?_
      refine lv_iconst (v := (2 : Int32)) hx hb dL_law_1435 (by decide) ?_
      refine lv_iadd hx hb dL_law_1436 ?_
      refine va_sld hx hb hX hbl hbA hS (by unfold vp_in; decide) dL_law_1437 ?_
      refine lv_aload_n hx hb dL_law_1438 rfl (lv_at hl 0 rfl) ?_
      refine lv_iload_n hx hb dL_law_1439 rfl (lv_at hl 3 rfl) ?_
      refine lv_iconst (v := (3 : Int32)) hx hb dL_law_1440 (by decide) ?_
      refine lv_iadd hx hb dL_law_1441 ?_
      refine va_sld hx hb hX hbl hbA hS (by unfold vp_in; decide) dL_law_1442 ?_
      refine lv_aload_n hx hb dL_law_1443 rfl (lv_at hl 0 rfl) ?_
      refine lv_iload_n hx hb dL_law_1444 rfl (lv_at hl 3 rfl) ?_
      refine lv_iconst (v := (4 : Int32)) hx hb dL_law_1445 (by decide) ?_
      refine lv_iadd hx hb dL_law_1446 ?_
      refine va_sld hx hb hX hbl hbA hS (by unfold vp_in; decide) dL_law_1447 ?_
      refine lv_aload_n hx hb dL_law_1448 rfl (lv_at hl 0 rfl) ?_
      refine lv_iload_n hx hb dL_law_1449 rfl (lv_at hl 3 rfl) ?_
      refine lv_iconst (v := (5 : Int32)) hx hb dL_law_1450 (by decide) ?_
      refine lv_iadd hx hb dL_law_1451 ?_
      refine va_sld hx hb hX hbl hbA hS (by unfold vp_in; decide) dL_law_1452 ?_
      refine zk_vi (post := (fun r u => (r, u) = R1)) (w1 := fun u => (wl_X11_shiftB ad cs (ae 2) (ae 3) (ae 10) (ae 11) pf (-1) 0 0 (-1) 0 0)) (As := [.int (xs ((0 : Int32) + (1 : Int32)).toNatClampNeg), .int (xs ((0 : Int32) + (2 : Int32)).toNatClampNeg), .int (xs ((0 : Int32) + (3 : Int32)).toNatClampNeg), .int (xs ((0 : Int32) + (4 : Int32)).toNatClampNeg), .int (xs ((0 : Int32) + (5 : Int32)).toNatClampNeg)]) (rest := []) (c_X11_shiftB l D cs ad (ae 2) (ae 3) (ae 10) (ae 11)  H.size (xs ((0 : Int32) + (1 : Int32)).toNatClampNeg) (xs ((0 : Int32) + (2 : Int32)).toNatClampNeg) (xs ((0 : Int32) + (3 : Int32)).toNatClampNeg) (xs ((0 : Int32) + (4 : Int32)).toNatClampNeg) (xs ((0 : Int32) + (5 : Int32)).toNatClampNeg) pf (-1) 0 0 (-1) 0 0 R1 h1) ⟨hx, hb, hml, hown, ht⟩ (cwV 5 ht gl_162 rfl rfl rfl (by decide +kernel) ⟨Nat.le_of_ble_eq_true rfl, Nat.le_of_ble_eq_true rfl⟩) (va_recv hK hP (ci := 11) (q0 := 0) rfl rfl) hP hD hS hK hA [0, 1, 43, 51] [55, 56, 57, 58, 59, 60, 61, 62, 63, 64, 65, 66, 67, 68, 69, 70, 71, 72, 73, 74, 75, 76, 77, 78, 79, 80, 81, 82, 83, 84, 85, 86, 87, 88, 89, 90, 91, 92, 93, 94, 95, 96, 97, 98] rfl rfl law_hR law_nd (law_dis rfl) rfl hl.1 (Nat.le_of_ble_eq_true rfl) dL_law_1453 ⟨Nat.le_of_ble_eq_true rfl, Nat.le_of_ble_eq_true rfl⟩ (fun r1 u1 H locs hq1 hP hD hS => ?_)
      have e1 : r1 = R1.1 := congrArg Prod.fst hq1
      rw [law_fm] at hP hD
      refine lv_aload_n hx hb dL_law_1456 rfl (lv_at hl 2 rfl) ?_
      refine lv_aload_n hx hb dL_law_1457 rfl (lv_at hl 0 rfl) ?_
      refine lv_iload_n hx hb dL_law_1458 rfl (lv_at hl 3 rfl) ?_
      refine lv_iconst (v := (1 : Int32)) hx hb dL_law_1459 (by decide) ?_
      refine lv_iadd hx hb dL_law_1460 ?_
      refine va_sld hx hb hX hbl hbA hS (by unfold vp_in; decide) dL_law_1461 ?_
      refine lv_aload_n hx hb dL_law_1462 rfl (lv_at hl 0 rfl) ?_
      refine lv_iload_n hx hb dL_law_1463 rfl (lv_at hl 3 rfl) ?_
      refine lv_iconst (v := (2 : Int32)) hx hb dL_law_1464 (by decide) ?_
      refine lv_iadd hx hb dL_law_1465 ?_
      refine va_sld hx hb hX hbl hbA hS (by unfold vp_in; decide) dL_law_1466 ?_
      refine lv_aload_n hx hb dL_law_1467 rfl (lv_at hl 0 rfl) ?_
      refine lv_iload_n hx hb dL_law_1468 rfl (lv_at hl 3 rfl) ?_
      refine lv_iconst (v := (3 : Int32)) hx hb dL_law_1469 (by decide) ?_
      refine lv_iadd hx hb dL_law_1470 ?_
      refine va_sld hx hb hX hbl hbA hS (by unfold vp_in; decide) dL_law_1471 ?_
      refine lv_aload_n hx hb dL_law_1472 rfl (lv_at hl 0 rfl) ?_
      refine lv_iload_n hx hb dL_law_1473 rfl (lv_at hl 3 rfl) ?_
      refine lv_iconst (v := (4 : Int32)) hx hb dL_law_1474 (by decide) ?_
      refine lv_iadd hx hb dL_law_1475 ?_
      refine va_sld hx hb hX hbl hbA hS (by unfold vp_in; decide) dL_law_1476 ?_
      refine lv_aload_n hx hb dL_law_1477 rfl (lv_at hl 0 rfl) ?_
      refine lv_iload_n hx hb dL_law_1478 rfl (lv_at hl 3 rfl) ?_
      refine lv_iconst (v := (5 : Int32)) hx hb dL_law_1479 (by decide) ?_
      refine lv_iadd hx hb dL_law_1480 ?_
      refine va_sld hx hb hX hbl hbA hS (by unfold vp_in; decide) dL_law_1481 ?_
      refine zk_vi (post := (fun r u => (r, u) = R2)) (w1 := fun u => (wl_X12_shift am cs 0 0 0 0 0 0 0 0 0 0 0 0 0 0 0 0 0 ((upd (upd (upd (upd (upd (upd (fun _ => 0) ((0 : Int32)).toNatClampNeg (-1 : Int32)) ((1 : Int32)).toNatClampNeg (-1 : Int32)) ((2 : Int32)).toNatClampNeg (-1 : Int32)) ((3 : Int32)).toNatClampNeg (-1 : Int32)) ((4 : Int32)).toNatClampNeg (-1 : Int32)) ((5 : Int32)).toNatClampNeg (-1 : Int32))) ((fun _ => 0)) u.1 u.2)) (As := [.int (xs ((0 : Int32) + (1 : Int32)).toNatClampNeg), .int (xs ((0 : Int32) + (2 : Int32)).toNatClampNeg), .int (xs ((0 : Int32) + (3 : Int32)).toNatClampNeg), .int (xs ((0 : Int32) + (4 : Int32)).toNatClampNeg), .int (xs ((0 : Int32) + (5 : Int32)).toNatClampNeg)]) (rest := [.int r1]) (c_X12_shift l D cs am   H.size 4000 (xs ((0 : Int32) + (1 : Int32)).toNatClampNeg) (xs ((0 : Int32) + (2 : Int32)).toNatClampNeg) (xs ((0 : Int32) + (3 : Int32)).toNatClampNeg) (xs ((0 : Int32) + (4 : Int32)).toNatClampNeg) (xs ((0 : Int32) + (5 : Int32)).toNatClampNeg) 0 0 0 0 0 0 0 0 0 0 0 0 0 0 0 0 0 ((upd (upd (upd (upd (upd (upd (fun _ => 0) ((0 : Int32)).toNatClampNeg (-1 : Int32)) ((1 : Int32)).toNatClampNeg (-1 : Int32)) ((2 : Int32)).toNatClampNeg (-1 : Int32)) ((3 : Int32)).toNatClampNeg (-1 : Int32)) ((4 : Int32)).toNatClampNeg (-1 : Int32)) ((5 : Int32)).toNatClampNeg (-1 : Int32))) ((fun _ => 0)) ((fun _ => 0)) ((fun _ => 0)) R2 h2) ⟨hx, hb, hml, hown, ht⟩ (cwV 5 ht gl_166 rfl rfl rfl (by decide +kernel) ⟨Nat.le_of_ble_eq_true rfl, Nat.le_of_ble_eq_true rfl⟩) (va_recv hK hP (ci := 12) (q0 := 0) rfl rfl) hP hD hS hK hA [0, 40, 41, 42, 43] [] rfl rfl rfl rfl (by decide) rfl hl.1 (Nat.le_of_ble_eq_true rfl) dL_law_1482 ⟨Nat.le_of_ble_eq_true rfl, Nat.le_of_ble_eq_true rfl⟩ (fun r2 u2 H locs hq2 hP hD hS => ?_)
      have e2 : r2 = R2.1 := congrArg Prod.fst hq2
      have EQ : r1 = r2 := by rw [e1, e2]; exact eq
      refine lv_icmp_eq (tgt := 1546) hx hb dL_law_1485 (by decide) (fun cc => ?_) (fun cc => absurd EQ cc)
      exact law_next C0 (by decide) (by decide) H locs ls hS (lv_sub hl [0, 3] rfl)
    · obtain ⟨R1, R2, h1, h2, eq⟩ := pe_shift (g := g) (pf := pf) (ae := ae) (wb := wb) GF PF 0 (by omega) 5 (by omega) (xs ((0 : Int32) + (1 : Int32)).toNatClampNeg) (xs ((0 : Int32) + (2 : Int32)).toNatClampNeg) (xs ((0 : Int32) + (3 : Int32)).toNatClampNeg) (xs ((0 : Int32) + (4 : Int32)).toNatClampNeg) (xs ((0 : Int32) + (5 : Int32)).toNatClampNeg) hp0 hp1
      refine lv_aload_n hx hb dL_law_1427 rfl (lv_at hl 1 rfl) ?_
      refine lv_aload_n hx hb dL_law_1428 rfl (lv_at hl 0 rfl) ?_
      refine lv_iload_n hx hb dL_law_1429 rfl (lv_at hl 3 rfl) ?_
      refine lv_iconst (v := (1 : Int32)) hx hb dL_law_1430 (by decide) ?_
      refine lv_iadd hx hb dL_law_1431 ?_
      refine va_sld hx hb hX hbl hbA hS (by unfold vp_in; decide) dL_law_1432 ?_
      refine lv_aload_n hx hb dL_law_1433 rfl (lv_at hl 0 rfl) ?_
      refine lv_iload_n hx hb dL_law_1434 rfl (lv_at hl 3 rfl) ?_
      refine lv_iconst (v := (2 : Int32)) hx hb dL_law_1435 (by decide) ?_
      refine lv_iadd hx hb dL_law_1436 ?_
      refine va_sld hx hb hX hbl hbA hS (by unfold vp_in; decide) dL_law_1437 ?_
      refine lv_aload_n hx hb dL_law_1438 rfl (lv_at hl 0 rfl) ?_
      refine lv_iload_n hx hb dL_law_1439 rfl (lv_at hl 3 rfl) ?_
      refine lv_iconst (v := (3 : Int32)) hx hb dL_law_1440 (by decide) ?_
      refine lv_iadd hx hb dL_law_1441 ?_
      refine va_sld hx hb hX hbl hbA hS (by unfold vp_in; decide) dL_law_1442 ?_
      refine lv_aload_n hx hb dL_law_1443 rfl (lv_at hl 0 rfl) ?_
      refine lv_iload_n hx hb dL_law_1444 rfl (lv_at hl 3 rfl) ?_
      refine lv_iconst (v := (4 : Int32)) hx hb dL_law_1445 (by decide) ?_
      refine lv_iadd hx hb dL_law_1446 ?_
      refine va_sld hx hb hX hbl hbA hS (by unfold vp_in; decide) dL_law_1447 ?_
      refine lv_aload_n hx hb dL_law_1448 rfl (lv_at hl 0 rfl) ?_
      refine lv_iload_n hx hb dL_law_1449 rfl (lv_at hl 3 rfl) ?_
      refine lv_iconst (v := (5 : Int32)) hx hb dL_law_1450 (by decide) ?_
      refine lv_iadd hx hb dL_law_1451 ?_
      refine va_sld hx hb hX hbl hbA hS (by unfold vp_in; decide) dL_law_1452 ?_
      refine zk_vi (post := (fun r u => (r, u) = R1)) (w1 := fun u => (wl_X11_shiftB ad cs (ae 2) (ae 3) (ae 12) (ae 13) pf (-1) 0 0 (-1) 0 0)) (As := [.int (xs ((0 : Int32) + (1 : Int32)).toNatClampNeg), .int (xs ((0 : Int32) + (2 : Int32)).toNatClampNeg), .int (xs ((0 : Int32) + (3 : Int32)).toNatClampNeg), .int (xs ((0 : Int32) + (4 : Int32)).toNatClampNeg), .int (xs ((0 : Int32) + (5 : Int32)).toNatClampNeg)]) (rest := []) (c_X11_shiftB l D cs ad (ae 2) (ae 3) (ae 12) (ae 13)  H.size (xs ((0 : Int32) + (1 : Int32)).toNatClampNeg) (xs ((0 : Int32) + (2 : Int32)).toNatClampNeg) (xs ((0 : Int32) + (3 : Int32)).toNatClampNeg) (xs ((0 : Int32) + (4 : Int32)).toNatClampNeg) (xs ((0 : Int32) + (5 : Int32)).toNatClampNeg) pf (-1) 0 0 (-1) 0 0 R1 h1) ⟨hx, hb, hml, hown, ht⟩ (cwV 5 ht gl_162 rfl rfl rfl (by decide +kernel) ⟨Nat.le_of_ble_eq_true rfl, Nat.le_of_ble_eq_true rfl⟩) (va_recv hK hP (ci := 11) (q0 := 0) rfl rfl) hP hD hS hK hA [0, 1, 43, 53] [55, 56, 57, 58, 59, 60, 61, 62, 63, 64, 65, 66, 67, 68, 69, 70, 71, 72, 73, 74, 75, 76, 77, 78, 79, 80, 81, 82, 83, 84, 85, 86, 87, 88, 89, 90, 91, 92, 93, 94, 95, 96, 97, 98] rfl rfl law_hR law_nd (law_dis rfl) rfl hl.1 (Nat.le_of_ble_eq_true rfl) dL_law_1453 ⟨Nat.le_of_ble_eq_true rfl, Nat.le_of_ble_eq_true rfl⟩ (fun r1 u1 H locs hq1 hP hD hS => ?_)
      have e1 : r1 = R1.1 := congrArg Prod.fst hq1
      rw [law_fm] at hP hD
      refine lv_aload_n hx hb dL_law_1456 rfl (lv_at hl 2 rfl) ?_
      refine lv_aload_n hx hb dL_law_1457 rfl (lv_at hl 0 rfl) ?_
      refine lv_iload_n hx hb dL_law_1458 rfl (lv_at hl 3 rfl) ?_
      refine lv_iconst (v := (1 : Int32)) hx hb dL_law_1459 (by decide) ?_
      refine lv_iadd hx hb dL_law_1460 ?_
      refine va_sld hx hb hX hbl hbA hS (by unfold vp_in; decide) dL_law_1461 ?_
      refine lv_aload_n hx hb dL_law_1462 rfl (lv_at hl 0 rfl) ?_
      refine lv_iload_n hx hb dL_law_1463 rfl (lv_at hl 3 rfl) ?_
      refine lv_iconst (v := (2 : Int32)) hx hb dL_law_1464 (by decide) ?_
      refine lv_iadd hx hb dL_law_1465 ?_
      refine va_sld hx hb hX hbl hbA hS (by unfold vp_in; decide) dL_law_1466 ?_
      refine lv_aload_n hx hb dL_law_1467 rfl (lv_at hl 0 rfl) ?_
      refine lv_iload_n hx hb dL_law_1468 rfl (lv_at hl 3 rfl) ?_
      refine lv_iconst (v := (3 : Int32)) hx hb dL_law_1469 (by decide) ?_
      refine lv_iadd hx hb dL_law_1470 ?_
      refine va_sld hx hb hX hbl hbA hS (by unfold vp_in; decide) dL_law_1471 ?_
      refine lv_aload_n hx hb dL_law_1472 rfl (lv_at hl 0 rfl) ?_
      refine lv_iload_n hx hb dL_law_1473 rfl (lv_at hl 3 rfl) ?_
      refine lv_iconst (v := (4 : Int32)) hx hb dL_law_1474 (by decide) ?_
      refine lv_iadd hx hb dL_law_1475 ?_
      refine va_sld hx hb hX hbl hbA hS (by unfold vp_in; decide) dL_law_1476 ?_
      refine lv_aload_n hx hb dL_law_1477 rfl (lv_at hl 0 rfl) ?_
      refine lv_iload_n hx hb dL_law_1478 rfl (lv_at hl 3 rfl) ?_
      refine lv_iconst (v := (5 : Int32)) hx hb dL_law_1479 (by decide) ?_
      refine lv_iadd hx hb dL_law_1480 ?_
      refine va_sld hx hb hX hbl hbA hS (by unfold vp_in; decide) dL_law_1481 ?_
      refine zk_vi (post := (fun r u => (r, u) = R2)) (w1 := fun u => (wl_X12_shift am cs 0 0 0 0 0 0 0 0 0 0 0 0 0 0 0 0 0 ((upd (upd (upd (upd (upd (upd (fun _ => 0) ((0 : Int32)).toNatClampNeg (-1 : Int32)) ((1 : Int32)).toNatClampNeg (-1 : Int32)) ((2 : Int32)).toNatClampNeg (-1 : Int32)) ((3 : Int32)).toNatClampNeg (-1 : Int32)) ((4 : Int32)).toNatClampNeg (-1 : Int32)) ((5 : Int32)).toNatClampNeg (-1 : Int32))) ((fun _ => 0)) u.1 u.2)) (As := [.int (xs ((0 : Int32) + (1 : Int32)).toNatClampNeg), .int (xs ((0 : Int32) + (2 : Int32)).toNatClampNeg), .int (xs ((0 : Int32) + (3 : Int32)).toNatClampNeg), .int (xs ((0 : Int32) + (4 : Int32)).toNatClampNeg), .int (xs ((0 : Int32) + (5 : Int32)).toNatClampNeg)]) (rest := [.int r1]) (c_X12_shift l D cs am   H.size 4000 (xs ((0 : Int32) + (1 : Int32)).toNatClampNeg) (xs ((0 : Int32) + (2 : Int32)).toNatClampNeg) (xs ((0 : Int32) + (3 : Int32)).toNatClampNeg) (xs ((0 : Int32) + (4 : Int32)).toNatClampNeg) (xs ((0 : Int32) + (5 : Int32)).toNatClampNeg) 0 0 0 0 0 0 0 0 0 0 0 0 0 0 0 0 0 ((upd (upd (upd (upd (upd (upd (fun _ => 0) ((0 : Int32)).toNatClampNeg (-1 : Int32)) ((1 : Int32)).toNatClampNeg (-1 : Int32)) ((2 : Int32)).toNatClampNeg (-1 : Int32)) ((3 : Int32)).toNatClampNeg (-1 : Int32)) ((4 : Int32)).toNatClampNeg (-1 : Int32)) ((5 : Int32)).toNatClampNeg (-1 : Int32))) ((fun _ => 0)) ((fun _ => 0)) ((fun _ => 0)) R2 h2) ⟨hx, hb, hml, hown, ht⟩ (cwV 5 ht gl_166 rfl rfl rfl (by decide +kernel) ⟨Nat.le_of_ble_eq_true rfl, Nat.le_of_ble_eq_true rfl⟩) (va_recv hK hP (ci := 12) (q0 := 0) rfl rfl) hP hD hS hK hA [0, 40, 41, 42, 43] [] rfl rfl rfl rfl (by decide) rfl hl.1 (Nat.le_of_ble_eq_true rfl) dL_law_1482 ⟨Nat.le_of_ble_eq_true rfl, Nat.le_of_ble_eq_true rfl⟩ (fun r2 u2 H locs hq2 hP hD hS => ?_)
      have e2 : r2 = R2.1 := congrArg Prod.fst hq2
      have EQ : r1 = r2 := by rw [e1, e2]; exact eq
      refine lv_icmp_eq (tgt := 1546) hx hb dL_law_1485 (by decide) (fun cc => ?_) (fun cc => absurd EQ cc)
      exact law_next C0 (by decide) (by decide) H locs ls hS (lv_sub hl [0, 3] rfl)
  · obtain ⟨j1, hj1, hp1⟩ := zk_pl (xs ((0 : Int32) + (3 : Int32)).toNatClampNeg)
    rcases (show j1 = 0 ∨ j1 = 1 ∨ j1 = 2 ∨ j1 = 3 ∨ j1 = 4 ∨ j1 = 5 by omega) with rfl | rfl | rfl | rfl | rfl | rfl
    · obtain ⟨R1, R2, h1, h2, eq⟩ := pe_shift (g := g) (pf := pf) (ae := ae) (wb := wb) GF PF 1 (by omega) 0 (by omega) (xs ((0 : Int32) + (1 : Int32)).toNatClampNeg) (xs ((0 : Int32) + (2 : Int32)).toNatClampNeg) (xs ((0 : Int32) + (3 : Int32)).toNatClampNeg) (xs ((0 : Int32) + (4 : Int32)).toNatClampNeg) (xs ((0 : Int32) + (5 : Int32)).toNatClampNeg) hp0 hp1
      refine lv_aload_n hx hb dL_law_1427 rfl (lv_at hl 1 rfl) ?_
      refine lv_aload_n hx hb dL_law_1428 rfl (lv_at hl 0 rfl) ?_
      refine lv_iload_n hx hb dL_law_1429 rfl (lv_at hl 3 rfl) ?_
      refine lv_iconst (v := (1 : Int32)) hx hb dL_law_1430 (by decide) ?_
      refine lv_iadd hx hb dL_law_1431 ?_
      refine va_sld hx hb hX hbl hbA hS (by unfold vp_in; decide) dL_law_1432 ?_
      refine lv_aload_n hx hb dL_law_1433 rfl (lv_at hl 0 rfl) ?_
      refine lv_iload_n hx hb dL_law_1434 rfl (lv_at hl 3 rfl) ?_
      refine lv_iconst (v := (2 : Int32)) hx hb dL_law_1435 (by decide) ?_
      refine lv_iadd hx hb dL_law_1436 ?_
      refine va_sld hx hb hX hbl hbA hS (by unfold vp_in; decide) dL_law_1437 ?_
      refine lv_aload_n hx hb dL_law_1438 rfl (lv_at hl 0 rfl) ?_
      refine lv_iload_n hx hb dL_law_1439 rfl (lv_at hl 3 rfl) ?_
      refine lv_iconst (v := (3 : Int32)) hx hb dL_law_1440 (by decide) ?_
      refine lv_iadd hx hb dL_law_1441 ?_
      refine va_sld hx hb hX hbl hbA hS (by unfold vp_in; decide) dL_law_1442 ?_
      refine lv_aload_n hx hb dL_law_1443 rfl (lv_at hl 0 rfl) ?_
      refine lv_iload_n hx hb dL_law_1444 rfl (lv_at hl 3 rfl) ?_
      refine lv_iconst (v := (4 : Int32)) hx hb dL_law_1445 (by decide) ?_
      refine lv_iadd hx hb dL_law_1446 ?_
      refine va_sld hx hb hX hbl hbA hS (by unfold vp_in; decide) dL_law_1447 ?_
      refine lv_aload_n hx hb dL_law_1448 rfl (lv_at hl 0 rfl) ?_
      refine lv_iload_n hx hb dL_law_1449 rfl (lv_at hl 3 rfl) ?_
      refine lv_iconst (v := (5 : Int32)) hx hb dL_law_1450 (by decide) ?_
      refine lv_iadd hx hb dL_law_1451 ?_
      refine va_sld hx hb hX hbl hbA hS (by unfold vp_in; decide) dL_law_1452 ?_
      refine zk_vi (post := (fun r u => (r, u) = R1)) (w1 := fun u => (wl_X11_shiftB ad cs (ae 4) (ae 5) (ae 2) (ae 3) pf (-1) 0 0 (-1) 0 0)) (As := [.int (xs ((0 : Int32) + (1 : Int32)).toNatClampNeg), .int (xs ((0 : Int32) + (2 : Int32)).toNatClampNeg), .int (xs ((0 : Int32) + (3 : Int32)).toNatClampNeg), .int (xs ((0 : Int32) + (4 : Int32)).toNatClampNeg), .int (xs ((0 : Int32) + (5 : Int32)).toNatClampNeg)]) (rest := []) (c_X11_shiftB l D cs ad (ae 4) (ae 5) (ae 2) (ae 3)  H.size (xs ((0 : Int32) + (1 : Int32)).toNatClampNeg) (xs ((0 : Int32) + (2 : Int32)).toNatClampNeg) (xs ((0 : Int32) + (3 : Int32)).toNatClampNeg) (xs ((0 : Int32) + (4 : Int32)).toNatClampNeg) (xs ((0 : Int32) + (5 : Int32)).toNatClampNeg) pf (-1) 0 0 (-1) 0 0 R1 h1) ⟨hx, hb, hml, hown, ht⟩ (cwV 5 ht gl_162 rfl rfl rfl (by decide +kernel) ⟨Nat.le_of_ble_eq_true rfl, Nat.le_of_ble_eq_true rfl⟩) (va_recv hK hP (ci := 11) (q0 := 0) rfl rfl) hP hD hS hK hA [0, 1, 45, 43] [55, 56, 57, 58, 59, 60, 61, 62, 63, 64, 65, 66, 67, 68, 69, 70, 71, 72, 73, 74, 75, 76, 77, 78, 79, 80, 81, 82, 83, 84, 85, 86, 87, 88, 89, 90, 91, 92, 93, 94, 95, 96, 97, 98] rfl rfl law_hR law_nd (law_dis rfl) rfl hl.1 (Nat.le_of_ble_eq_true rfl) dL_law_1453 ⟨Nat.le_of_ble_eq_true rfl, Nat.le_of_ble_eq_true rfl⟩ (fun r1 u1 H locs hq1 hP hD hS => ?_)
      have e1 : r1 = R1.1 := congrArg Prod.fst hq1
      rw [law_fm] at hP hD
      refine lv_aload_n hx hb dL_law_1456 rfl (lv_at hl 2 rfl) ?_
      refine lv_aload_n hx hb dL_law_1457 rfl (lv_at hl 0 rfl) ?_
      refine lv_iload_n hx hb dL_law_1458 rfl (lv_at hl 3 rfl) ?_
      refine lv_iconst (v := (1 : Int32)) hx hb dL_law_1459 (by decide) ?_
      refine lv_iadd hx hb dL_law_1460 ?_
      refine va_sld hx hb hX hbl hbA hS (by unfold vp_in; decide) dL_law_1461 ?_
      refine lv_aload_n hx hb dL_law_1462 rfl (lv_at hl 0 rfl) ?_
      refine lv_iload_n hx hb dL_law_1463 rfl (lv_at hl 3 rfl) ?_
      refine lv_iconst (v := (2 : Int32)) hx hb dL_law_1464 (by decide) ?_
      refine lv_iadd hx hb dL_law_1465 ?_
      refine va_sld hx hb hX hbl hbA hS (by unfold vp_in; decide) dL_law_1466 ?_
      refine lv_aload_n hx hb dL_law_1467 rfl (lv_at hl 0 rfl) ?_
      refine lv_iload_n hx hb dL_law_1468 rfl (lv_at hl 3 rfl) ?_
      refine lv_iconst (v := (3 : Int32)) hx hb dL_law_1469 (by decide) ?_
      refine lv_iadd hx hb dL_law_1470 ?_
      refine va_sld hx hb hX hbl hbA hS (by unfold vp_in; decide) dL_law_1471 ?_
      refine lv_aload_n hx hb dL_law_1472 rfl (lv_at hl 0 rfl) ?_
      refine lv_iload_n hx hb dL_law_1473 rfl (lv_at hl 3 rfl) ?_
      refine lv_iconst (v := (4 : Int32)) hx hb dL_law_1474 (by decide) ?_
      refine lv_iadd hx hb dL_law_1475 ?_
      refine va_sld hx hb hX hbl hbA hS (by unfold vp_in; decide) dL_law_1476 ?_
      refine lv_aload_n hx hb dL_law_1477 rfl (lv_at hl 0 rfl) ?_
      refine lv_iload_n hx hb dL_law_1478 rfl (lv_at hl 3 rfl) ?_
      refine lv_iconst (v := (5 : Int32)) hx hb dL_law_1479 (by decide) ?_
      refine lv_iadd hx hb dL_law_1480 ?_
      refine va_sld hx hb hX hbl hbA hS (by unfold vp_in; decide) dL_law_1481 ?_
      refine zk_vi (post := (fun r u => (r, u) = R2)) (w1 := fun u => (wl_X12_shift am cs 0 0 0 0 0 0 0 0 0 0 0 0 0 0 0 0 0 ((upd (upd (upd (upd (upd (upd (fun _ => 0) ((0 : Int32)).toNatClampNeg (-1 : Int32)) ((1 : Int32)).toNatClampNeg (-1 : Int32)) ((2 : Int32)).toNatClampNeg (-1 : Int32)) ((3 : Int32)).toNatClampNeg (-1 : Int32)) ((4 : Int32)).toNatClampNeg (-1 : Int32)) ((5 : Int32)).toNatClampNeg (-1 : Int32))) ((fun _ => 0)) u.1 u.2)) (As := [.int (xs ((0 : Int32) + (1 : Int32)).toNatClampNeg), .int (xs ((0 : Int32) + (2 : Int32)).toNatClampNeg), .int (xs ((0 : Int32) + (3 : Int32)).toNatClampNeg), .int (xs ((0 : Int32) + (4 : Int32)).toNatClampNeg), .int (xs ((0 : Int32) + (5 : Int32)).toNatClampNeg)]) (rest := [.int r1]) (c_X12_shift l D cs am   H.size 4000 (xs ((0 : Int32) + (1 : Int32)).toNatClampNeg) (xs ((0 : Int32) + (2 : Int32)).toNatClampNeg) (xs ((0 : Int32) + (3 : Int32)).toNatClampNeg) (xs ((0 : Int32) + (4 : Int32)).toNatClampNeg) (xs ((0 : Int32) + (5 : Int32)).toNatClampNeg) 0 0 0 0 0 0 0 0 0 0 0 0 0 0 0 0 0 ((upd (upd (upd (upd (upd (upd (fun _ => 0) ((0 : Int32)).toNatClampNeg (-1 : Int32)) ((1 : Int32)).toNatClampNeg (-1 : Int32)) ((2 : Int32)).toNatClampNeg (-1 : Int32)) ((3 : Int32)).toNatClampNeg (-1 : Int32)) ((4 : Int32)).toNatClampNeg (-1 : Int32)) ((5 : Int32)).toNatClampNeg (-1 : Int32))) ((fun _ => 0)) ((fun _ => 0)) ((fun _ => 0)) R2 h2) ⟨hx, hb, hml, hown, ht⟩ (cwV 5 ht gl_166 rfl rfl rfl (by decide +kernel) ⟨Nat.le_of_ble_eq_true rfl, Nat.le_of_ble_eq_true rfl⟩) (va_recv hK hP (ci := 12) (q0 := 0) rfl rfl) hP hD hS hK hA [0, 40, 41, 42, 43] [] rfl rfl rfl rfl (by decide) rfl hl.1 (Nat.le_of_ble_eq_true rfl) dL_law_1482 ⟨Nat.le_of_ble_eq_true rfl, Nat.le_of_ble_eq_true rfl⟩ (fun r2 u2 H locs hq2 hP hD hS => ?_)
      have e2 : r2 = R2.1 := congrArg Prod.fst hq2
      have EQ : r1 = r2 := by rw [e1, e2]; exact eq
      refine lv_icmp_eq (tgt := 1546) hx hb dL_law_1485 (by decide) (fun cc => ?_) (fun cc => absurd EQ cc)
      exact law_next C0 (by decide) (by decide) H locs ls hS (lv_sub hl [0, 3] rfl)
    · obtain ⟨R1, R2, h1, h2, eq⟩ := pe_shiftA (g := g) (pf := pf) (ae := ae) (wb := wb) GF PF 1 (by omega) (xs ((0 : Int32) + (1 : Int32)).toNatClampNeg) (xs ((0 : Int32) + (2 : Int32)).toNatClampNeg) (xs ((0 : Int32) + (3 : Int32)).toNatClampNeg) (xs ((0 : Int32) + (4 : Int32)).toNatClampNeg) (xs ((0 : Int32) + (5 : Int32)).toNatClampNeg) hp0 hp1
      refine lv_aload_n hx hb dL_law_1427 rfl (lv_at hl 1 rfl) ?_
      refine lv_aload_n hx hb dL_law_1428 rfl (lv_at hl 0 rfl) ?_
      refine lv_iload_n hx hb dL_law_1429 rfl (lv_at hl 3 rfl) ?_
      refine lv_iconst (v := (1 : Int32)) hx hb dL_law_1430 (by decide) ?_
      refine lv_iadd hx hb dL_law_1431 ?_
      refine va_sld hx hb hX hbl hbA hS (by unfold vp_in; decide) dL_law_1432 ?_
      refine lv_aload_n hx hb dL_law_1433 rfl (lv_at hl 0 rfl) ?_
      refine lv_iload_n hx hb dL_law_1434 rfl (lv_at hl 3 rfl) ?_
      refine lv_iconst (v := (2 : Int32)) hx hb dL_law_1435 (by decide) ?_
      refine lv_iadd hx hb dL_law_1436 ?_
      refine va_sld hx hb hX hbl hbA hS (by unfold vp_in; decide) dL_law_1437 ?_
      refine lv_aload_n hx hb dL_law_1438 rfl (lv_at hl 0 rfl) ?_
      refine lv_iload_n hx hb dL_law_1439 rfl (lv_at hl 3 rfl) ?_
      refine lv_iconst (v := (3 : Int32)) hx hb dL_law_1440 (by decide) ?_
      refine lv_iadd hx hb dL_law_1441 ?_
      refine va_sld hx hb hX hbl hbA hS (by unfold vp_in; decide) dL_law_1442 ?_
      refine lv_aload_n hx hb dL_law_1443 rfl (lv_at hl 0 rfl) ?_
      refine lv_iload_n hx hb dL_law_1444 rfl (lv_at hl 3 rfl) ?_
      refine lv_iconst (v := (4 : Int32)) hx hb dL_law_1445 (by decide) ?_
      refine lv_iadd hx hb dL_law_1446 ?_
      refine va_sld hx hb hX hbl hbA hS (by unfold vp_in; decide) dL_law_1447 ?_
      refine lv_aload_n hx hb dL_law_1448 rfl (lv_at hl 0 rfl) ?_
      refine lv_iload_n hx hb dL_law_1449 rfl (lv_at hl 3 rfl) ?_
      refine lv_iconst (v := (5 : Int32)) hx hb dL_law_1450 (by decide) ?_
      refine lv_iadd hx hb dL_law_1451 ?_
      refine va_sld hx hb hX hbl hbA hS (by unfold vp_in; decide) dL_law_1452 ?_
      refine zk_vi (post := (fun r u => (r, u) = R1)) (w1 := fun u => (wl_X11_shift ad cs (ae 4) (ae 5) pf (-1) 0 0)) (As := [.int (xs ((0 : Int32) + (1 : Int32)).toNatClampNeg), .int (xs ((0 : Int32) + (2 : Int32)).toNatClampNeg), .int (xs ((0 : Int32) + (3 : Int32)).toNatClampNeg), .int (xs ((0 : Int32) + (4 : Int32)).toNatClampNeg), .int (xs ((0 : Int32) + (5 : Int32)).toNatClampNeg)]) (rest := []) (c_X11_shift l D cs ad (ae 4) (ae 5)  H.size (xs ((0 : Int32) + (1 : Int32)).toNatClampNeg) (xs ((0 : Int32) + (2 : Int32)).toNatClampNeg) (xs ((0 : Int32) + (3 : Int32)).toNatClampNeg) (xs ((0 : Int32) + (4 : Int32)).toNatClampNeg) (xs ((0 : Int32) + (5 : Int32)).toNatClampNeg) pf (-1) 0 0 R1 h1) ⟨hx, hb, hml, hown, ht⟩ (cwV 5 ht gl_162 rfl rfl rfl (by decide +kernel) ⟨Nat.le_of_ble_eq_true rfl, Nat.le_of_ble_eq_true rfl⟩) (va_recv hK hP (ci := 11) (q0 := 0) rfl rfl) hP hD hS hK hA [0, 1, 45] [55, 56, 57, 58, 59, 60, 61, 62, 63, 64, 65, 66, 67, 68, 69, 70, 71, 72, 73, 74, 75, 76, 77, 78, 79, 80, 81, 82, 83, 84, 85, 86, 87, 88, 89, 90, 91, 92, 93, 94, 95, 96, 97, 98] rfl rfl law_hR law_nd (law_dis rfl) rfl hl.1 (Nat.le_of_ble_eq_true rfl) dL_law_1453 ⟨Nat.le_of_ble_eq_true rfl, Nat.le_of_ble_eq_true rfl⟩ (fun r1 u1 H locs hq1 hP hD hS => ?_)
      have e1 : r1 = R1.1 := congrArg Prod.fst hq1
      rw [law_fm] at hP hD
      refine lv_aload_n hx hb dL_law_1456 rfl (lv_at hl 2 rfl) ?_
      refine lv_aload_n hx hb dL_law_1457 rfl (lv_at hl 0 rfl) ?_
      refine lv_iload_n hx hb dL_law_1458 rfl (lv_at hl 3 rfl) ?_
      refine lv_iconst (v := (1 : Int32)) hx hb dL_law_1459 (by decide) ?_
      refine lv_iadd hx hb dL_law_1460 ?_
      refine va_sld hx hb hX hbl hbA hS (by unfold vp_in; decide) dL_law_1461 ?_
      refine lv_aload_n hx hb dL_law_1462 rfl (lv_at hl 0 rfl) ?_
      refine lv_iload_n hx hb dL_law_1463 rfl (lv_at hl 3 rfl) ?_
      refine lv_iconst (v := (2 : Int32)) hx hb dL_law_1464 (by decide) ?_
      refine lv_iadd hx hb dL_law_1465 ?_
      refine va_sld hx hb hX hbl hbA hS (by unfold vp_in; decide) dL_law_1466 ?_
      refine lv_aload_n hx hb dL_law_1467 rfl (lv_at hl 0 rfl) ?_
      refine lv_iload_n hx hb dL_law_1468 rfl (lv_at hl 3 rfl) ?_
      refine lv_iconst (v := (3 : Int32)) hx hb dL_law_1469 (by decide) ?_
      refine lv_iadd hx hb dL_law_1470 ?_
      refine va_sld hx hb hX hbl hbA hS (by unfold vp_in; decide) dL_law_1471 ?_
      refine lv_aload_n hx hb dL_law_1472 rfl (lv_at hl 0 rfl) ?_
      refine lv_iload_n hx hb dL_law_1473 rfl (lv_at hl 3 rfl) ?_
      refine lv_iconst (v := (4 : Int32)) hx hb dL_law_1474 (by decide) ?_
      refine lv_iadd hx hb dL_law_1475 ?_
      refine va_sld hx hb hX hbl hbA hS (by unfold vp_in; decide) dL_law_1476 ?_
      refine lv_aload_n hx hb dL_law_1477 rfl (lv_at hl 0 rfl) ?_
      refine lv_iload_n hx hb dL_law_1478 rfl (lv_at hl 3 rfl) ?_
      refine lv_iconst (v := (5 : Int32)) hx hb dL_law_1479 (by decide) ?_
      refine lv_iadd hx hb dL_law_1480 ?_
      refine va_sld hx hb hX hbl hbA hS (by unfold vp_in; decide) dL_law_1481 ?_
      refine zk_vi (post := (fun r u => (r, u) = R2)) (w1 := fun u => (wl_X12_shift am cs 0 0 0 0 0 0 0 0 0 0 0 0 0 0 0 0 0 ((upd (upd (upd (upd (upd (upd (fun _ => 0) ((0 : Int32)).toNatClampNeg (-1 : Int32)) ((1 : Int32)).toNatClampNeg (-1 : Int32)) ((2 : Int32)).toNatClampNeg (-1 : Int32)) ((3 : Int32)).toNatClampNeg (-1 : Int32)) ((4 : Int32)).toNatClampNeg (-1 : Int32)) ((5 : Int32)).toNatClampNeg (-1 : Int32))) ((fun _ => 0)) u.1 u.2)) (As := [.int (xs ((0 : Int32) + (1 : Int32)).toNatClampNeg), .int (xs ((0 : Int32) + (2 : Int32)).toNatClampNeg), .int (xs ((0 : Int32) + (3 : Int32)).toNatClampNeg), .int (xs ((0 : Int32) + (4 : Int32)).toNatClampNeg), .int (xs ((0 : Int32) + (5 : Int32)).toNatClampNeg)]) (rest := [.int r1]) (c_X12_shift l D cs am   H.size 4000 (xs ((0 : Int32) + (1 : Int32)).toNatClampNeg) (xs ((0 : Int32) + (2 : Int32)).toNatClampNeg) (xs ((0 : Int32) + (3 : Int32)).toNatClampNeg) (xs ((0 : Int32) + (4 : Int32)).toNatClampNeg) (xs ((0 : Int32) + (5 : Int32)).toNatClampNeg) 0 0 0 0 0 0 0 0 0 0 0 0 0 0 0 0 0 ((upd (upd (upd (upd (upd (upd (fun _ => 0) ((0 : Int32)).toNatClampNeg (-1 : Int32)) ((1 : Int32)).toNatClampNeg (-1 : Int32)) ((2 : Int32)).toNatClampNeg (-1 : Int32)) ((3 : Int32)).toNatClampNeg (-1 : Int32)) ((4 : Int32)).toNatClampNeg (-1 : Int32)) ((5 : Int32)).toNatClampNeg (-1 : Int32))) ((fun _ => 0)) ((fun _ => 0)) ((fun _ => 0)) R2 h2) ⟨hx, hb, hml, hown, ht⟩ (cwV 5 ht gl_166 rfl rfl rfl (by decide +kernel) ⟨Nat.le_of_ble_eq_true rfl, Nat.le_of_ble_eq_true rfl⟩) (va_recv hK hP (ci := 12) (q0 := 0) rfl rfl) hP hD hS hK hA [0, 40, 41, 42, 43] [] rfl rfl rfl rfl (by decide) rfl hl.1 (Nat.le_of_ble_eq_true rfl) dL_law_1482 ⟨Nat.le_of_ble_eq_true rfl, Nat.le_of_ble_eq_true rfl⟩ (fun r2 u2 H locs hq2 hP hD hS => ?_)
      have e2 : r2 = R2.1 := congrArg Prod.fst hq2
      have EQ : r1 = r2 := by rw [e1, e2]; exact eq
      refine lv_icmp_eq (tgt := 1546) hx hb dL_law_1485 (by decide) (fun cc => ?_) (fun cc => absurd EQ cc)
      exact law_next C0 (by decide) (by decide) H locs ls hS (lv_sub hl [0, 3] rfl)
    · obtain ⟨R1, R2, h1, h2, eq⟩ := pe_shift (g := g) (pf := pf) (ae := ae) (wb := wb) GF PF 1 (by omega) 2 (by omega) (xs ((0 : Int32) + (1 : Int32)).toNatClampNeg) (xs ((0 : Int32) + (2 : Int32)).toNatClampNeg) (xs ((0 : Int32) + (3 : Int32)).toNatClampNeg) (xs ((0 : Int32) + (4 : Int32)).toNatClampNeg) (xs ((0 : Int32) + (5 : Int32)).toNatClampNeg) hp0 hp1
      refine lv_aload_n hx hb dL_law_1427 rfl (lv_at hl 1 rfl) ?_
      refine lv_aload_n hx hb dL_law_1428 rfl (lv_at hl 0 rfl) ?_
      refine lv_iload_n hx hb dL_law_1429 rfl (lv_at hl 3 rfl) ?_
      refine lv_iconst (v := (1 : Int32)) hx hb dL_law_1430 (by decide) ?_
      refine lv_iadd hx hb dL_law_1431 ?_
      refine va_sld hx hb hX hbl hbA hS (by unfold vp_in; decide) dL_law_1432 ?_
      refine lv_aload_n hx hb dL_law_1433 rfl (lv_at hl 0 rfl) ?_
      refine lv_iload_n hx hb dL_law_1434 rfl (lv_at hl 3 rfl) ?_
      refine lv_iconst (v := (2 : Int32)) hx hb dL_law_1435 (by decide) ?_
      refine lv_iadd hx hb dL_law_1436 ?_
      refine va_sld hx hb hX hbl hbA hS (by unfold vp_in; decide) dL_law_1437 ?_
      refine lv_aload_n hx hb dL_law_1438 rfl (lv_at hl 0 rfl) ?_
      refine lv_iload_n hx hb dL_law_1439 rfl (lv_at hl 3 rfl) ?_
      refine lv_iconst (v := (3 : Int32)) hx hb dL_law_1440 (by decide) ?_
      refine lv_iadd hx hb dL_law_1441 ?_
      refine va_sld hx hb hX hbl hbA hS (by unfold vp_in; decide) dL_law_1442 ?_
      refine lv_aload_n hx hb dL_law_1443 rfl (lv_at hl 0 rfl) ?_
      refine lv_iload_n hx hb dL_law_1444 rfl (lv_at hl 3 rfl) ?_
      refine lv_iconst (v := (4 : Int32)) hx hb dL_law_1445 (by decide) ?_
      refine lv_iadd hx hb dL_law_1446 ?_
      refine va_sld hx hb hX hbl hbA hS (by unfold vp_in; decide) dL_law_1447 ?_
      refine lv_aload_n hx hb dL_law_1448 rfl (lv_at hl 0 rfl) ?_
      refine lv_iload_n hx hb dL_law_1449 rfl (lv_at hl 3 rfl) ?_
      refine lv_iconst (v := (5 : Int32)) hx hb dL_law_1450 (by decide) ?_
      refine lv_iadd hx hb dL_law_1451 ?_
      refine va_sld hx hb hX hbl hbA hS (by unfold vp_in; decide) dL_law_1452 ?_
      refine zk_vi (post := (fun r u => (r, u) = R1)) (w1 := fun u => (wl_X11_shiftB ad cs (ae 4) (ae 5) (ae 6) (ae 7) pf (-1) 0 0 (-1) 0 0)) (As := [.int (xs ((0 : Int32) + (1 : Int32)).toNatClampNeg), .int (xs ((0 : Int32) + (2 : Int32)).toNatClampNeg), .int (xs ((0 : Int32) + (3 : Int32)).toNatClampNeg), .int (xs ((0 : Int32) + (4 : Int32)).toNatClampNeg), .int (xs ((0 : Int32) + (5 : Int32)).toNatClampNeg)]) (rest := []) (c_X11_shiftB l D cs ad (ae 4) (ae 5) (ae 6) (ae 7)  H.size (xs ((0 : Int32) + (1 : Int32)).toNatClampNeg) (xs ((0 : Int32) + (2 : Int32)).toNatClampNeg) (xs ((0 : Int32) + (3 : Int32)).toNatClampNeg) (xs ((0 : Int32) + (4 : Int32)).toNatClampNeg) (xs ((0 : Int32) + (5 : Int32)).toNatClampNeg) pf (-1) 0 0 (-1) 0 0 R1 h1) ⟨hx, hb, hml, hown, ht⟩ (cwV 5 ht gl_162 rfl rfl rfl (by decide +kernel) ⟨Nat.le_of_ble_eq_true rfl, Nat.le_of_ble_eq_true rfl⟩) (va_recv hK hP (ci := 11) (q0 := 0) rfl rfl) hP hD hS hK hA [0, 1, 45, 47] [55, 56, 57, 58, 59, 60, 61, 62, 63, 64, 65, 66, 67, 68, 69, 70, 71, 72, 73, 74, 75, 76, 77, 78, 79, 80, 81, 82, 83, 84, 85, 86, 87, 88, 89, 90, 91, 92, 93, 94, 95, 96, 97, 98] rfl rfl law_hR law_nd (law_dis rfl) rfl hl.1 (Nat.le_of_ble_eq_true rfl) dL_law_1453 ⟨Nat.le_of_ble_eq_true rfl, Nat.le_of_ble_eq_true rfl⟩ (fun r1 u1 H locs hq1 hP hD hS => ?_)
      have e1 : r1 = R1.1 := congrArg Prod.fst hq1
      rw [law_fm] at hP hD
      refine lv_aload_n hx hb dL_law_1456 rfl (lv_at hl 2 rfl) ?_
      refine lv_aload_n hx hb dL_law_1457 rfl (lv_at hl 0 rfl) ?_
      refine lv_iload_n hx hb dL_law_1458 rfl (lv_at hl 3 rfl) ?_
      refine lv_iconst (v := (1 : Int32)) hx hb dL_law_1459 (by decide) ?_
      refine lv_iadd hx hb dL_law_1460 ?_
      refine va_sld hx hb hX hbl hbA hS (by unfold vp_in; decide) dL_law_1461 ?_
      refine lv_aload_n hx hb dL_law_1462 rfl (lv_at hl 0 rfl) ?_
      refine lv_iload_n hx hb dL_law_1463 rfl (lv_at hl 3 rfl) ?_
      refine lv_iconst (v := (2 : Int32)) hx hb dL_law_1464 (by decide) ?_
      refine lv_iadd hx hb dL_law_1465 ?_
      refine va_sld hx hb hX hbl hbA hS (by unfold vp_in; decide) dL_law_1466 ?_
      refine lv_aload_n hx hb dL_law_1467 rfl (lv_at hl 0 rfl) ?_
      refine lv_iload_n hx hb dL_law_1468 rfl (lv_at hl 3 rfl) ?_
      refine lv_iconst (v := (3 : Int32)) hx hb dL_law_1469 (by decide) ?_
      refine lv_iadd hx hb dL_law_1470 ?_
      refine va_sld hx hb hX hbl hbA hS (by unfold vp_in; decide) dL_law_1471 ?_
      refine lv_aload_n hx hb dL_law_1472 rfl (lv_at hl 0 rfl) ?_
      refine lv_iload_n hx hb dL_law_1473 rfl (lv_at hl 3 rfl) ?_
      refine lv_iconst (v := (4 : Int32)) hx hb dL_law_1474 (by decide) ?_
      refine lv_iadd hx hb dL_law_1475 ?_
      refine va_sld hx hb hX hbl hbA hS (by unfold vp_in; decide) dL_law_1476 ?_
      refine lv_aload_n hx hb dL_law_1477 rfl (lv_at hl 0 rfl) ?_
      refine lv_iload_n hx hb dL_law_1478 rfl (lv_at hl 3 rfl) ?_
      refine lv_iconst (v := (5 : Int32)) hx hb dL_law_1479 (by decide) ?_
      refine lv_iadd hx hb dL_law_1480 ?_
      refine va_sld hx hb hX hbl hbA hS (by unfold vp_in; decide) dL_law_1481 ?_
      refine zk_vi (post := (fun r u => (r, u) = R2)) (w1 := fun u => (wl_X12_shift am cs 0 0 0 0 0 0 0 0 0 0 0 0 0 0 0 0 0 ((upd (upd (upd (upd (upd (upd (fun _ => 0) ((0 : Int32)).toNatClampNeg (-1 : Int32)) ((1 : Int32)).toNatClampNeg (-1 : Int32)) ((2 : Int32)).toNatClampNeg (-1 : Int32)) ((3 : Int32)).toNatClampNeg (-1 : Int32)) ((4 : Int32)).toNatClampNeg (-1 : Int32)) ((5 : Int32)).toNatClampNeg (-1 : Int32))) ((fun _ => 0)) u.1 u.2)) (As := [.int (xs ((0 : Int32) + (1 : Int32)).toNatClampNeg), .int (xs ((0 : Int32) + (2 : Int32)).toNatClampNeg), .int (xs ((0 : Int32) + (3 : Int32)).toNatClampNeg), .int (xs ((0 : Int32) + (4 : Int32)).toNatClampNeg), .int (xs ((0 : Int32) + (5 : Int32)).toNatClampNeg)]) (rest := [.int r1]) (c_X12_shift l D cs am   H.size 4000 (xs ((0 : Int32) + (1 : Int32)).toNatClampNeg) (xs ((0 : Int32) + (2 : Int32)).toNatClampNeg) (xs ((0 : Int32) + (3 : Int32)).toNatClampNeg) (xs ((0 : Int32) + (4 : Int32)).toNatClampNeg) (xs ((0 : Int32) + (5 : Int32)).toNatClampNeg) 0 0 0 0 0 0 0 0 0 0 0 0 0 0 0 0 0 ((upd (upd (upd (upd (upd (upd (fun _ => 0) ((0 : Int32)).toNatClampNeg (-1 : Int32)) ((1 : Int32)).toNatClampNeg (-1 : Int32)) ((2 : Int32)).toNatClampNeg (-1 : Int32)) ((3 : Int32)).toNatClampNeg (-1 : Int32)) ((4 : Int32)).toNatClampNeg (-1 : Int32)) ((5 : Int32)).toNatClampNeg (-1 : Int32))) ((fun _ => 0)) ((fun _ => 0)) ((fun _ => 0)) R2 h2) ⟨hx, hb, hml, hown, ht⟩ (cwV 5 ht gl_166 rfl rfl rfl (by decide +kernel) ⟨Nat.le_of_ble_eq_true rfl, Nat.le_of_ble_eq_true rfl⟩) (va_recv hK hP (ci := 12) (q0 := 0) rfl rfl) hP hD hS hK hA [0, 40, 41, 42, 43] [] rfl rfl rfl rfl (by decide) rfl hl.1 (Nat.le_of_ble_eq_true rfl) dL_law_1482 ⟨Nat.le_of_ble_eq_true rfl, Nat.le_of_ble_eq_true rfl⟩ (fun r2 u2 H locs hq2 hP hD hS => ?_)
      have e2 : r2 = R2.1 := congrArg Prod.fst hq2
      have EQ : r1 = r2 := by rw [e1, e2]; exact eq
      refine lv_icmp_eq (tgt := 1546) hx hb dL_law_1485 (by decide) (fun cc => ?_) (fun cc => absurd EQ cc)
      exact law_next C0 (by decide) (by decide) H locs ls hS (lv_sub hl [0, 3] rfl)
    · obtain ⟨R1, R2, h1, h2, eq⟩ := pe_shift (g := g) (pf := pf) (ae := ae) (wb := wb) GF PF 1 (by omega) 3 (by omega) (xs ((0 : Int32) + (1 : Int32)).toNatClampNeg) (xs ((0 : Int32) + (2 : Int32)).toNatClampNeg) (xs ((0 : Int32) + (3 : Int32)).toNatClampNeg) (xs ((0 : Int32) + (4 : Int32)).toNatClampNeg) (xs ((0 : Int32) + (5 : Int32)).toNatClampNeg) hp0 hp1
      refine lv_aload_n hx hb dL_law_1427 rfl (lv_at hl 1 rfl) ?_
      refine lv_aload_n hx hb dL_law_1428 rfl (lv_at hl 0 rfl) ?_
      refine lv_iload_n hx hb dL_law_1429 rfl (lv_at hl 3 rfl) ?_
      refine lv_iconst (v := (1 : Int32)) hx hb dL_law_1430 (by decide) ?_
      refine lv_iadd hx hb dL_law_1431 ?_
      refine va_sld hx hb hX hbl hbA hS (by unfold vp_in; decide) dL_law_1432 ?_
      refine lv_aload_n hx hb dL_law_1433 rfl (lv_at hl 0 rfl) ?_
      refine lv_iload_n hx hb dL_law_1434 rfl (lv_at hl 3 rfl) ?_
      refine lv_iconst (v := (2 : Int32)) hx hb dL_law_1435 (by decide) ?_
      refine lv_iadd hx hb dL_law_1436 ?_
      refine va_sld hx hb hX hbl hbA hS (by unfold vp_in; decide) dL_law_1437 ?_
      refine lv_aload_n hx hb dL_law_1438 rfl (lv_at hl 0 rfl) ?_
      refine lv_iload_n hx hb dL_law_1439 rfl (lv_at hl 3 rfl) ?_
      refine lv_iconst (v := (3 : Int32)) hx hb dL_law_1440 (by decide) ?_
      refine lv_iadd hx hb dL_law_1441 ?_
      refine va_sld hx hb hX hbl hbA hS (by unfold vp_in; decide) dL_law_1442 ?_
      refine lv_aload_n hx hb dL_law_1443 rfl (lv_at hl 0 rfl) ?_
      refine lv_iload_n hx hb dL_law_1444 rfl (lv_at hl 3 rfl) ?_
      refine lv_iconst (v := (4 : Int32)) hx hb dL_law_1445 (by decide) ?_
      refine lv_iadd hx hb dL_law_1446 ?_
      refine va_sld hx hb hX hbl hbA hS (by unfold vp_in; decide) dL_law_1447 ?_
      refine lv_aload_n hx hb dL_law_1448 rfl (lv_at hl 0 rfl) ?_
      refine lv_iload_n hx hb dL_law_1449 rfl (lv_at hl 3 rfl) ?_
      refine lv_iconst (v := (5 : Int32)) hx hb dL_law_1450 (by decide) ?_
      refine lv_iadd hx hb dL_law_1451 ?_
      refine va_sld hx hb hX hbl hbA hS (by unfold vp_in; decide) dL_law_1452 ?_
      refine zk_vi (post := (fun r u => (r, u) = R1)) (w1 := fun u => (wl_X11_shiftB ad cs (ae 4) (ae 5) (ae 8) (ae 9) pf (-1) 0 0 (-1) 0 0)) (As := [.int (xs ((0 : Int32) + (1 : Int32)).toNatClampNeg), .int (xs ((0 : Int32) + (2 : Int32)).toNatClampNeg), .int (xs ((0 : Int32) + (3 : Int32)).toNatClampNeg), .int (xs ((0 : Int32) + (4 : Int32)).toNatClampNeg), .int (xs ((0 : Int32) + (5 : Int32)).toNatClampNeg)]) (rest := []) (c_X11_shiftB l D cs ad (ae 4) (ae 5) (ae 8) (ae 9)  H.size (xs ((0 : Int32) + (1 : Int32)).toNatClampNeg) (xs ((0 : Int32) + (2 : Int32)).toNatClampNeg) (xs ((0 : Int32) + (3 : Int32)).toNatClampNeg) (xs ((0 : Int32) + (4 : Int32)).toNatClampNeg) (xs ((0 : Int32) + (5 : Int32)).toNatClampNeg) pf (-1) 0 0 (-1) 0 0 R1 h1) ⟨hx, hb, hml, hown, ht⟩ (cwV 5 ht gl_162 rfl rfl rfl (by decide +kernel) ⟨Nat.le_of_ble_eq_true rfl, Nat.le_of_ble_eq_true rfl⟩) (va_recv hK hP (ci := 11) (q0 := 0) rfl rfl) hP hD hS hK hA [0, 1, 45, 49] [55, 56, 57, 58, 59, 60, 61, 62, 63, 64, 65, 66, 67, 68, 69, 70, 71, 72, 73, 74, 75, 76, 77, 78, 79, 80, 81, 82, 83, 84, 85, 86, 87, 88, 89, 90, 91, 92, 93, 94, 95, 96, 97, 98] rfl rfl law_hR law_nd (law_dis rfl) rfl hl.1 (Nat.le_of_ble_eq_true rfl) dL_law_1453 ⟨Nat.le_of_ble_eq_true rfl, Nat.le_of_ble_eq_true rfl⟩ (fun r1 u1 H locs hq1 hP hD hS => ?_)
      have e1 : r1 = R1.1 := congrArg Prod.fst hq1
      rw [law_fm] at hP hD
      refine lv_aload_n hx hb dL_law_1456 rfl (lv_at hl 2 rfl) ?_
      refine lv_aload_n hx hb dL_law_1457 rfl (lv_at hl 0 rfl) ?_
      refine lv_iload_n hx hb dL_law_1458 rfl (lv_at hl 3 rfl) ?_
      refine lv_iconst (v := (1 : Int32)) hx hb dL_law_1459 (by decide) ?_
      refine lv_iadd hx hb dL_law_1460 ?_
      refine va_sld hx hb hX hbl hbA hS (by unfold vp_in; decide) dL_law_1461 ?_
      refine lv_aload_n hx hb dL_law_1462 rfl (lv_at hl 0 rfl) ?_
      refine lv_iload_n hx hb dL_law_1463 rfl (lv_at hl 3 rfl) ?_
      refine lv_iconst (v := (2 : Int32)) hx hb dL_law_1464 (by decide) ?_
      refine lv_iadd hx hb dL_law_1465 ?_
      refine va_sld hx hb hX hbl hbA hS (by unfold vp_in; decide) dL_law_1466 ?_
      refine lv_aload_n hx hb dL_law_1467 rfl (lv_at hl 0 rfl) ?_
      refine lv_iload_n hx hb dL_law_1468 rfl (lv_at hl 3 rfl) ?_
      refine lv_iconst (v := (3 : Int32)) hx hb dL_law_1469 (by decide) ?_
      refine lv_iadd hx hb dL_law_1470 ?_
      refine va_sld hx hb hX hbl hbA hS (by unfold vp_in; decide) dL_law_1471 ?_
      refine lv_aload_n hx hb dL_law_1472 rfl (lv_at hl 0 rfl) ?_
      refine lv_iload_n hx hb dL_law_1473 rfl (lv_at hl 3 rfl) ?_
      refine lv_iconst (v := (4 : Int32)) hx hb dL_law_1474 (by decide) ?_
      refine lv_iadd hx hb dL_law_1475 ?_
      refine va_sld hx hb hX hbl hbA hS (by unfold vp_in; decide) dL_law_1476 ?_
      refine lv_aload_n hx hb dL_law_1477 rfl (lv_at hl 0 rfl) ?_
      refine lv_iload_n hx hb dL_law_1478 rfl (lv_at hl 3 rfl) ?_
      refine lv_iconst (v := (5 : Int32)) hx hb dL_law_1479 (by decide) ?_
      refine lv_iadd hx hb dL_law_1480 ?_
      refine va_sld hx hb hX hbl hbA hS (by unfold vp_in; decide) dL_law_1481 ?_
      refine zk_vi (post := (fun r u => (r, u) = R2)) (w1 := fun u => (wl_X12_shift am cs 0 0 0 0 0 0 0 0 0 0 0 0 0 0 0 0 0 ((upd (upd (upd (upd (upd (upd (fun _ => 0) ((0 : Int32)).toNatClampNeg (-1 : Int32)) ((1 : Int32)).toNatClampNeg (-1 : Int32)) ((2 : Int32)).toNatClampNeg (-1 : Int32)) ((3 : Int32)).toNatClampNeg (-1 : Int32)) ((4 : Int32)).toNatClampNeg (-1 : Int32)) ((5 : Int32)).toNatClampNeg (-1 : Int32))) ((fun _ => 0)) u.1 u.2)) (As := [.int (xs ((0 : Int32) + (1 : Int32)).toNatClampNeg), .int (xs ((0 : Int32) + (2 : Int32)).toNatClampNeg), .int (xs ((0 : Int32) + (3 : Int32)).toNatClampNeg), .int (xs ((0 : Int32) + (4 : Int32)).toNatClampNeg), .int (xs ((0 : Int32) + (5 : Int32)).toNatClampNeg)]) (rest := [.int r1]) (c_X12_shift l D cs am   H.size 4000 (xs ((0 : Int32) + (1 : Int32)).toNatClampNeg) (xs ((0 : Int32) + (2 : Int32)).toNatClampNeg) (xs ((0 : Int32) + (3 : Int32)).toNatClampNeg) (xs ((0 : Int32) + (4 : Int32)).toNatClampNeg) (xs ((0 : Int32) + (5 : Int32)).toNatClampNeg) 0 0 0 0 0 0 0 0 0 0 0 0 0 0 0 0 0 ((upd (upd (upd (upd (upd (upd (fun _ => 0) ((0 : Int32)).toNatClampNeg (-1 : Int32)) ((1 : Int32)).toNatClampNeg (-1 : Int32)) ((2 : Int32)).toNatClampNeg (-1 : Int32)) ((3 : Int32)).toNatClampNeg (-1 : Int32)) ((4 : Int32)).toNatClampNeg (-1 : Int32)) ((5 : Int32)).toNatClampNeg (-1 : Int32))) ((fun _ => 0)) ((fun _ => 0)) ((fun _ => 0)) R2 h2) ⟨hx, hb, hml, hown, ht⟩ (cwV 5 ht gl_166 rfl rfl rfl (by decide +kernel) ⟨Nat.le_of_ble_eq_true rfl, Nat.le_of_ble_eq_true rfl⟩) (va_recv hK hP (ci := 12) (q0 := 0) rfl rfl) hP hD hS hK hA [0, 40, 41, 42, 43] [] rfl rfl rfl rfl (by decide) rfl hl.1 (Nat.le_of_ble_eq_true rfl) dL_law_1482 ⟨Nat.le_of_ble_eq_true rfl, Nat.le_of_ble_eq_true rfl⟩ (fun r2 u2 H locs hq2 hP hD hS => ?_)
      have e2 : r2 = R2.1 := congrArg Prod.fst hq2
      have EQ : r1 = r2 := by rw [e1, e2]; exact eq
      refine lv_icmp_eq (tgt := 1546) hx hb dL_law_1485 (by decide) (fun cc => ?_) (fun cc => absurd EQ cc)
      exact law_next C0 (by decide) (by decide) H locs ls hS (lv_sub hl [0, 3] rfl)
    · obtain ⟨R1, R2, h1, h2, eq⟩ := pe_shift (g := g) (pf := pf) (ae := ae) (wb := wb) GF PF 1 (by omega) 4 (by omega) (xs ((0 : Int32) + (1 : Int32)).toNatClampNeg) (xs ((0 : Int32) + (2 : Int32)).toNatClampNeg) (xs ((0 : Int32) + (3 : Int32)).toNatClampNeg) (xs ((0 : Int32) + (4 : Int32)).toNatClampNeg) (xs ((0 : Int32) + (5 : Int32)).toNatClampNeg) hp0 hp1
      refine lv_aload_n hx hb dL_law_1427 rfl (lv_at hl 1 rfl) ?_
      refine lv_aload_n hx hb dL_law_1428 rfl (lv_at hl 0 rfl) ?_
      refine lv_iload_n hx hb dL_law_1429 rfl (lv_at hl 3 rfl) ?_
      refine lv_iconst (v := (1 : Int32)) hx hb dL_law_1430 (by decide) ?_
      refine lv_iadd hx hb dL_law_1431 ?_
      refine va_sld hx hb hX hbl hbA hS (by unfold vp_in; decide) dL_law_1432 ?_
      refine lv_aload_n hx hb dL_law_1433 rfl (lv_at hl 0 rfl) ?_
      refine lv_iload_n hx hb dL_law_1434 rfl (lv_at hl 3 rfl) ?_
      refine lv_iconst (v := (2 : Int32)) hx hb dL_law_1435 (by decide) ?_
      refine lv_iadd hx hb dL_law_1436 ?_
      refine va_sld hx hb hX hbl hbA hS (by unfold vp_in; decide) dL_law_1437 ?_
      refine lv_aload_n hx hb dL_law_1438 rfl (lv_at hl 0 rfl) ?_
      refine lv_iload_n hx hb dL_law_1439 rfl (lv_at hl 3 rfl) ?_
      refine lv_iconst (v := (3 : Int32)) hx hb dL_law_1440 (by decide) ?_
      refine lv_iadd hx hb dL_law_1441 ?_
      refine va_sld hx hb hX hbl hbA hS (by unfold vp_in; decide) dL_law_1442 ?_
      refine lv_aload_n hx hb dL_law_1443 rfl (lv_at hl 0 rfl) ?_
      refine lv_iload_n hx hb dL_law_1444 rfl (lv_at hl 3 rfl) ?_
      refine lv_iconst (v := (4 : Int32)) hx hb dL_law_1445 (by decide) ?_
      refine lv_iadd hx hb dL_law_1446 ?_
      refine va_sld hx hb hX hbl hbA hS (by unfold vp_in; decide) dL_law_1447 ?_
      refine lv_aload_n hx hb dL_law_1448 rfl (lv_at hl 0 rfl) ?_
      refine lv_iload_n hx hb dL_law_1449 rfl (lv_at hl 3 rfl) ?_
      refine lv_iconst (v := (5 : Int32)) hx hb dL_law_1450 (by decide) ?_
      refine lv_iadd hx hb dL_law_1451 ?_
      refine va_sld hx hb hX hbl hbA hS (by unfold vp_in; decide) dL_law_1452 ?_
      refine zk_vi (post := (fun r u => (r, u) = R1)) (w1 := fun u => (wl_X11_shiftB ad cs (ae 4) (ae 5) (ae 10) (ae 11) pf (-1) 0 0 (-1) 0 0)) (As := [.int (xs ((0 : Int32) + (1 : Int32)).toNatClampNeg), .int (xs ((0 : Int32) + (2 : Int32)).toNatClampNeg), .int (xs ((0 : Int32) + (3 : Int32)).toNatClampNeg), .int (xs ((0 : Int32) + (4 : Int32)).toNatClampNeg), .int (xs ((0 : Int32) + (5 : Int32)).toNatClampNeg)]) (rest := []) (c_X11_shiftB l D cs ad (ae 4) (ae 5) (ae 10) (ae 11)  H.size (xs ((0 : Int32) + (1 : Int32)).toNatClampNeg) (xs ((0 : Int32) + (2 : Int32)).toNatClampNeg) (xs ((0 : Int32) + (3 : Int32)).toNatClampNeg) (xs ((0 : Int32) + (4 : Int32)).toNatClampNeg) (xs ((0 : Int32) + (5 : Int32)).toNatClampNeg) pf (-1) 0 0 (-1) 0 0 R1 h1) ⟨hx, hb, hml, hown, ht⟩ (cwV 5 ht gl_162 rfl rfl rfl (by decide +kernel) ⟨Nat.le_of_ble_eq_true rfl, Nat.le_of_ble_eq_true rfl⟩) (va_recv hK hP (ci := 11) (q0 := 0) rfl rfl) hP hD hS hK hA [0, 1, 45, 51] [55, 56, 57, 58, 59, 60, 61, 62, 63, 64, 65, 66, 67, 68, 69, 70, 71, 72, 73, 74, 75, 76, 77, 78, 79, 80, 81, 82, 83, 84, 85, 86, 87, 88, 89, 90, 91, 92, 93, 94, 95, 96, 97, 98] rfl rfl law_hR law_nd (law_dis rfl) rfl hl.1 (Nat.le_of_ble_eq_true rfl) dL_law_1453 ⟨Nat.le_of_ble_eq_true rfl, Nat.le_of_ble_eq_true rfl⟩ (fun r1 u1 H locs hq1 hP hD hS => ?_)
      have e1 : r1 = R1.1 := congrArg Prod.fst hq1
      rw [law_fm] at hP hD
      refine lv_aload_n hx hb dL_law_1456 rfl (lv_at hl 2 rfl) ?_
      refine lv_aload_n hx hb dL_law_1457 rfl (lv_at hl 0 rfl) ?_
      refine lv_iload_n hx hb dL_law_1458 rfl (lv_at hl 3 rfl) ?_
      refine lv_iconst (v := (1 : Int32)) hx hb dL_law_1459 (by decide) ?_
      refine lv_iadd hx hb dL_law_1460 ?_
      refine va_sld hx hb hX hbl hbA hS (by unfold vp_in; decide) dL_law_1461 ?_
      refine lv_aload_n hx hb dL_law_1462 rfl (lv_at hl 0 rfl) ?_
      refine lv_iload_n hx hb dL_law_1463 rfl (lv_at hl 3 rfl) ?_
      refine lv_iconst (v := (2 : Int32)) hx hb dL_law_1464 (by decide) ?_
      refine lv_iadd hx hb dL_law_1465 ?_
      refine va_sld hx hb hX hbl hbA hS (by unfold vp_in; decide) dL_law_1466 ?_
      refine lv_aload_n hx hb dL_law_1467 rfl (lv_at hl 0 rfl) ?_
      refine lv_iload_n hx hb dL_law_1468 rfl (lv_at hl 3 rfl) ?_
      refine lv_iconst (v := (3 : Int32)) hx hb dL_law_1469 (by decide) ?_
      refine lv_iadd hx hb dL_law_1470 ?_
      refine va_sld hx hb hX hbl hbA hS (by unfold vp_in; decide) dL_law_1471 ?_
      refine lv_aload_n hx hb dL_law_1472 rfl (lv_at hl 0 rfl) ?_
      refine lv_iload_n hx hb dL_law_1473 rfl (lv_at hl 3 rfl) ?_
      refine lv_iconst (v := (4 : Int32)) hx hb dL_law_1474 (by decide) ?_
      refine lv_iadd hx hb dL_law_1475 ?_
      refine va_sld hx hb hX hbl hbA hS (by unfold vp_in; decide) dL_law_1476 ?_
      refine lv_aload_n hx hb dL_law_1477 rfl (lv_at hl 0 rfl) ?_
      refine lv_iload_n hx hb dL_law_1478 rfl (lv_at hl 3 rfl) ?_
      refine lv_iconst (v := (5 : Int32)) hx hb dL_law_1479 (by decide) ?_
      refine lv_iadd hx hb dL_law_1480 ?_
      refine va_sld hx hb hX hbl hbA hS (by unfold vp_in; decide) dL_law_1481 ?_
      refine zk_vi (post := (fun r u => (r, u) = R2)) (w1 := fun u => (wl_X12_shift am cs 0 0 0 0 0 0 0 0 0 0 0 0 0 0 0 0 0 ((upd (upd (upd (upd (upd (upd (fun _ => 0) ((0 : Int32)).toNatClampNeg (-1 : Int32)) ((1 : Int32)).toNatClampNeg (-1 : Int32)) ((2 : Int32)).toNatClampNeg (-1 : Int32)) ((3 : Int32)).toNatClampNeg (-1 : Int32)) ((4 : Int32)).toNatClampNeg (-1 : Int32)) ((5 : Int32)).toNatClampNeg (-1 : Int32))) ((fun _ => 0)) u.1 u.2)) (As := [.int (xs ((0 : Int32) + (1 : Int32)).toNatClampNeg), .int (xs ((0 : Int32) + (2 : Int32)).toNatClampNeg), .int (xs ((0 : Int32) + (3 : Int32)).toNatClampNeg), .int (xs ((0 : Int32) + (4 : Int32)).toNatClampNeg), .int (xs ((0 : Int32) + (5 : Int32)).toNatClampNeg)]) (rest := [.int r1]) (c_X12_shift l D cs am   H.size 4000 (xs ((0 : Int32) + (1 : Int32)).toNatClampNeg) (xs ((0 : Int32) + (2 : Int32)).toNatClampNeg) (xs ((0 : Int32) + (3 : Int32)).toNatClampNeg) (xs ((0 : Int32) + (4 : Int32)).toNatClampNeg) (xs ((0 : Int32) + (5 : Int32)).toNatClampNeg) 0 0 0 0 0 0 0 0 0 0 0 0 0 0 0 0 0 ((upd (upd (upd (upd (upd (upd (fun _ => 0) ((0 : Int32)).toNatClampNeg (-1 : Int32)) ((1 : Int32)).toNatClampNeg (-1 : Int32)) ((2 : Int32)).toNatClampNeg (-1 : Int32)) ((3 : Int32)).toNatClampNeg (-1 : Int32)) ((4 : Int32)).toNatClampNeg (-1 : Int32)) ((5 : Int32)).toNatClampNeg (-1 : Int32))) ((fun _ => 0)) ((fun _ => 0)) ((fun _ => 0)) R2 h2) ⟨hx, hb, hml, hown, ht⟩ (cwV 5 ht gl_166 rfl rfl rfl (by decide +kernel) ⟨Nat.le_of_ble_eq_true rfl, Nat.le_of_ble_eq_true rfl⟩) (va_recv hK hP (ci := 12) (q0 := 0) rfl rfl) hP hD hS hK hA [0, 40, 41, 42, 43] [] rfl rfl rfl rfl (by decide) rfl hl.1 (Nat.le_of_ble_eq_true rfl) dL_law_1482 ⟨Nat.le_of_ble_eq_true rfl, Nat.le_of_ble_eq_true rfl⟩ (fun r2 u2 H locs hq2 hP hD hS => ?_)
      have e2 : r2 = R2.1 := congrArg Prod.fst hq2
      have EQ : r1 = r2 := by rw [e1, e2]; exact eq
      refine lv_icmp_eq (tgt := 1546) hx hb dL_law_1485 (by decide) (fun cc => ?_) (fun cc => absurd EQ cc)
      exact law_next C0 (by decide) (by decide) H locs ls hS (lv_sub hl [0, 3] rfl)
    · obtain ⟨R1, R2, h1, h2, eq⟩ := pe_shift (g := g) (pf := pf) (ae := ae) (wb := wb) GF PF 1 (by omega) 5 (by omega) (xs ((0 : Int32) + (1 : Int32)).toNatClampNeg) (xs ((0 : Int32) + (2 : Int32)).toNatClampNeg) (xs ((0 : Int32) + (3 : Int32)).toNatClampNeg) (xs ((0 : Int32) + (4 : Int32)).toNatClampNeg) (xs ((0 : Int32) + (5 : Int32)).toNatClampNeg) hp0 hp1
      refine lv_aload_n hx hb dL_law_1427 rfl (lv_at hl 1 rfl) ?_
      refine lv_aload_n hx hb dL_law_1428 rfl (lv_at hl 0 rfl) ?_
      refine lv_iload_n hx hb dL_law_1429 rfl (lv_at hl 3 rfl) ?_
      refine lv_iconst (v := (1 : Int32)) hx hb dL_law_1430 (by decide) ?_
      refine lv_iadd hx hb dL_law_1431 ?_
      refine va_sld hx hb hX hbl hbA hS (by unfold vp_in; decide) dL_law_1432 ?_
      refine lv_aload_n hx hb dL_law_1433 rfl (lv_at hl 0 rfl) ?_
      refine lv_iload_n hx hb dL_law_1434 rfl (lv_at hl 3 rfl) ?_
      refine lv_iconst (v := (2 : Int32)) hx hb dL_law_1435 (by decide) ?_
      refine lv_iadd hx hb dL_law_1436 ?_
      refine va_sld hx hb hX hbl hbA hS (by unfold vp_in; decide) dL_law_1437 ?_
      refine lv_aload_n hx hb dL_law_1438 rfl (lv_at hl 0 rfl) ?_
      refine lv_iload_n hx hb dL_law_1439 rfl (lv_at hl 3 rfl) ?_
      refine lv_iconst (v := (3 : Int32)) hx hb dL_law_1440 (by decide) ?_
      refine lv_iadd hx hb dL_law_1441 ?_
      refine va_sld hx hb hX hbl hbA hS (by unfold vp_in; decide) dL_law_1442 ?_
      refine lv_aload_n hx hb dL_law_1443 rfl (lv_at hl 0 rfl) ?_
      refine lv_iload_n hx hb dL_law_1444 rfl (lv_at hl 3 rfl) ?_
      refine lv_iconst (v := (4 : Int32)) hx hb dL_law_1445 (by decide) ?_
      refine lv_iadd hx hb dL_law_1446 ?_
      refine va_sld hx hb hX hbl hbA hS (by unfold vp_in; decide) dL_law_1447 ?_
      refine lv_aload_n hx hb dL_law_1448 rfl (lv_at hl 0 rfl) ?_
      refine lv_iload_n hx hb dL_law_1449 rfl (lv_at hl 3 rfl) ?_
      refine lv_iconst (v := (5 : Int32)) hx hb dL_law_1450 (by decide) ?_
      refine lv_iadd hx hb dL_law_1451 ?_
      refine va_sld hx hb hX hbl hbA hS (by unfold vp_in; decide) dL_law_1452 ?_
      refine zk_vi (post := (fun r u => (r, u) = R1)) (w1 := fun u => (wl_X11_shiftB ad cs (ae 4) (ae 5) (ae 12) (ae 13) pf (-1) 0 0 (-1) 0 0)) (As := [.int (xs ((0 : Int32) + (1 : Int32)).toNatClampNeg), .int (xs ((0 : Int32) + (2 : Int32)).toNatClampNeg), .int (xs ((0 : Int32) + (3 : Int32)).toNatClampNeg), .int (xs ((0 : Int32) + (4 : Int32)).toNatClampNeg), .int (xs ((0 : Int32) + (5 : Int32)).toNatClampNeg)]) (rest := []) (c_X11_shiftB l D cs ad (ae 4) (ae 5) (ae 12) (ae 13)  H.size (xs ((0 : Int32) + (1 : Int32)).toNatClampNeg) (xs ((0 : Int32) + (2 : Int32)).toNatClampNeg) (xs ((0 : Int32) + (3 : Int32)).toNatClampNeg) (xs ((0 : Int32) + (4 : Int32)).toNatClampNeg) (xs ((0 : Int32) + (5 : Int32)).toNatClampNeg) pf (-1) 0 0 (-1) 0 0 R1 h1) ⟨hx, hb, hml, hown, ht⟩ (cwV 5 ht gl_162 rfl rfl rfl (by decide +kernel) ⟨Nat.le_of_ble_eq_true rfl, Nat.le_of_ble_eq_true rfl⟩) (va_recv hK hP (ci := 11) (q0 := 0) rfl rfl) hP hD hS hK hA [0, 1, 45, 53] [55, 56, 57, 58, 59, 60, 61, 62, 63, 64, 65, 66, 67, 68, 69, 70, 71, 72, 73, 74, 75, 76, 77, 78, 79, 80, 81, 82, 83, 84, 85, 86, 87, 88, 89, 90, 91, 92, 93, 94, 95, 96, 97, 98] rfl rfl law_hR law_nd (law_dis rfl) rfl hl.1 (Nat.le_of_ble_eq_true rfl) dL_law_1453 ⟨Nat.le_of_ble_eq_true rfl, Nat.le_of_ble_eq_true rfl⟩ (fun r1 u1 H locs hq1 hP hD hS => ?_)
      have e1 : r1 = R1.1 := congrArg Prod.fst hq1
      rw [law_fm] at hP hD
      refine lv_aload_n hx hb dL_law_1456 rfl (lv_at hl 2 rfl) ?_
      refine lv_aload_n hx hb dL_law_1457 rfl (lv_at hl 0 rfl) ?_
      refine lv_iload_n hx hb dL_law_1458 rfl (lv_at hl 3 rfl) ?_
      refine lv_iconst (v := (1 : Int32)) hx hb dL_law_1459 (by decide) ?_
      refine lv_iadd hx hb dL_law_1460 ?_
      refine va_sld hx hb hX hbl hbA hS (by unfold vp_in; decide) dL_law_1461 ?_
      refine lv_aload_n hx hb dL_law_1462 rfl (lv_at hl 0 rfl) ?_
      refine lv_iload_n hx hb dL_law_1463 rfl (lv_at hl 3 rfl) ?_
      refine lv_iconst (v := (2 : Int32)) hx hb dL_law_1464 (by decide) ?_
      refine lv_iadd hx hb dL_law_1465 ?_
      refine va_sld hx hb hX hbl hbA hS (by unfold vp_in; decide) dL_law_1466 ?_
      refine lv_aload_n hx hb dL_law_1467 rfl (lv_at hl 0 rfl) ?_
      refine lv_iload_n hx hb dL_law_1468 rfl (lv_at hl 3 rfl) ?_
      refine lv_iconst (v := (3 : Int32)) hx hb dL_law_1469 (by decide) ?_
      refine lv_iadd hx hb dL_law_1470 ?_
      refine va_sld hx hb hX hbl hbA hS (by unfold vp_in; decide) dL_law_1471 ?_
      refine lv_aload_n hx hb dL_law_1472 rfl (lv_at hl 0 rfl) ?_
      refine lv_iload_n hx hb dL_law_1473 rfl (lv_at hl 3 rfl) ?_
      refine lv_iconst (v := (4 : Int32)) hx hb dL_law_1474 (by decide) ?_
      refine lv_iadd hx hb dL_law_1475 ?_
      refine va_sld hx hb hX hbl hbA hS (by unfold vp_in; decide) dL_law_1476 ?_
      refine lv_aload_n hx hb dL_law_1477 rfl (lv_at hl 0 rfl) ?_
      refine lv_iload_n hx hb dL_law_1478 rfl (lv_at hl 3 rfl) ?_
      refine lv_iconst (v := (5 : Int32)) hx hb dL_law_1479 (by decide) ?_
      refine lv_iadd hx hb dL_law_1480 ?_
      refine va_sld hx hb hX hbl hbA hS (by unfold vp_in; decide) dL_law_1481 ?_
      refine zk_vi (post := (fun r u => (r, u) = R2)) (w1 := fun u => (wl_X12_shift am cs 0 0 0 0 0 0 0 0 0 0 0 0 0 0 0 0 0 ((upd (upd (upd (upd (upd (upd (fun _ => 0) ((0 : Int32)).toNatClampNeg (-1 : Int32)) ((1 : Int32)).toNatClampNeg (-1 : Int32)) ((2 : Int32)).toNatClampNeg (-1 : Int32)) ((3 : Int32)).toNatClampNeg (-1 : Int32)) ((4 : Int32)).toNatClampNeg (-1 : Int32)) ((5 : Int32)).toNatClampNeg (-1 : Int32))) ((fun _ => 0)) u.1 u.2)) (As := [.int (xs ((0 : Int32) + (1 : Int32)).toNatClampNeg), .int (xs ((0 : Int32) + (2 : Int32)).toNatClampNeg), .int (xs ((0 : Int32) + (3 : Int32)).toNatClampNeg), .int (xs ((0 : Int32) + (4 : Int32)).toNatClampNeg), .int (xs ((0 : Int32) + (5 : Int32)).toNatClampNeg)]) (rest := [.int r1]) (c_X12_shift l D cs am   H.size 4000 (xs ((0 : Int32) + (1 : Int32)).toNatClampNeg) (xs ((0 : Int32) + (2 : Int32)).toNatClampNeg) (xs ((0 : Int32) + (3 : Int32)).toNatClampNeg) (xs ((0 : Int32) + (4 : Int32)).toNatClampNeg) (xs ((0 : Int32) + (5 : Int32)).toNatClampNeg) 0 0 0 0 0 0 0 0 0 0 0 0 0 0 0 0 0 ((upd (upd (upd (upd (upd (upd (fun _ => 0) ((0 : Int32)).toNatClampNeg (-1 : Int32)) ((1 : Int32)).toNatClampNeg (-1 : Int32)) ((2 : Int32)).toNatClampNeg (-1 : Int32)) ((3 : Int32)).toNatClampNeg (-1 : Int32)) ((4 : Int32)).toNatClampNeg (-1 : Int32)) ((5 : Int32)).toNatClampNeg (-1 : Int32))) ((fun _ => 0)) ((fun _ => 0)) ((fun _ => 0)) R2 h2) ⟨hx, hb, hml, hown, ht⟩ (cwV 5 ht gl_166 rfl rfl rfl (by decide +kernel) ⟨Nat.le_of_ble_eq_true rfl, Nat.le_of_ble_eq_true rfl⟩) (va_recv hK hP (ci := 12) (q0 := 0) rfl rfl) hP hD hS hK hA [0, 40, 41, 42, 43] [] rfl rfl rfl rfl (by decide) rfl hl.1 (Nat.le_of_ble_eq_true rfl) dL_law_1482 ⟨Nat.le_of_ble_eq_true rfl, Nat.le_of_ble_eq_true rfl⟩ (fun r2 u2 H locs hq2 hP hD hS => ?_)
      have e2 : r2 = R2.1 := congrArg Prod.fst hq2
      have EQ : r1 = r2 := by rw [e1, e2]; exact eq
      refine lv_icmp_eq (tgt := 1546) hx hb dL_law_1485 (by decide) (fun cc => ?_) (fun cc => absurd EQ cc)
      exact law_next C0 (by decide) (by decide) H locs ls hS (lv_sub hl [0, 3] rfl)
  · obtain ⟨j1, hj1, hp1⟩ := zk_pl (xs ((0 : Int32) + (3 : Int32)).toNatClampNeg)
    rcases (show j1 = 0 ∨ j1 = 1 ∨ j1 = 2 ∨ j1 = 3 ∨ j1 = 4 ∨ j1 = 5 by omega) with rfl | rfl | rfl | rfl | rfl | rfl
    · obtain ⟨R1, R2, h1, h2, eq⟩ := pe_shift (g := g) (pf := pf) (ae := ae) (wb := wb) GF PF 2 (by omega) 0 (by omega) (xs ((0 : Int32) + (1 : Int32)).toNatClampNeg) (xs ((0 : Int32) + (2 : Int32)).toNatClampNeg) (xs ((0 : Int32) + (3 : Int32)).toNatClampNeg) (xs ((0 : Int32) + (4 : Int32)).toNatClampNeg) (xs ((0 : Int32) + (5 : Int32)).toNatClampNeg) hp0 hp1
      refine lv_aload_n hx hb dL_law_1427 rfl (lv_at hl 1 rfl) ?_
      refine lv_aload_n hx hb dL_law_1428 rfl (lv_at hl 0 rfl) ?_
      refine lv_iload_n hx hb dL_law_1429 rfl (lv_at hl 3 rfl) ?_
      refine lv_iconst (v := (1 : Int32)) hx hb dL_law_1430 (by decide) ?_
      refine lv_iadd hx hb dL_law_1431 ?_
      refine va_sld hx hb hX hbl hbA hS (by unfold vp_in; decide) dL_law_1432 ?_
      refine lv_aload_n hx hb dL_law_1433 rfl (lv_at hl 0 rfl) ?_
      refine lv_iload_n hx hb dL_law_1434 rfl (lv_at hl 3 rfl) ?_
      refine lv_iconst (v := (2 : Int32)) hx hb dL_law_1435 (by decide) ?_
      refine lv_iadd hx hb dL_law_1436 ?_
      refine va_sld hx hb hX hbl hbA hS (by unfold vp_in; decide) dL_law_1437 ?_
      refine lv_aload_n hx hb dL_law_1438 rfl (lv_at hl 0 rfl) ?_
      refine lv_iload_n hx hb dL_law_1439 rfl (lv_at hl 3 rfl) ?_
      refine lv_iconst (v := (3 : Int32)) hx hb dL_law_1440 (by decide) ?_
      refine lv_iadd hx hb dL_law_1441 ?_
      refine va_sld hx hb hX hbl hbA hS (by unfold vp_in; decide) dL_law_1442 ?_
      refine lv_aload_n hx hb dL_law_1443 rfl (lv_at hl 0 rfl) ?_
      refine lv_iload_n hx hb dL_law_1444 rfl (lv_at hl 3 rfl) ?_
      refine lv_iconst (v := (4 : Int32)) hx hb dL_law_1445 (by decide) ?_
      refine lv_iadd hx hb dL_law_1446 ?_
      refine va_sld hx hb hX hbl hbA hS (by unfold vp_in; decide) dL_law_1447 ?_
      refine lv_aload_n hx hb dL_law_1448 rfl (lv_at hl 0 rfl) ?_
      refine lv_iload_n hx hb dL_law_1449 rfl (lv_at hl 3 rfl) ?_
      refine lv_iconst (v := (5 : Int32)) hx hb dL_law_1450 (by decide) ?_
      refine lv_iadd hx hb dL_law_1451 ?_
      refine va_sld hx hb hX hbl hbA hS (by unfold vp_in; decide) dL_law_1452 ?_
      refine zk_vi (post := (fun r u => (r, u) = R1)) (w1 := fun u => (wl_X11_shiftB ad cs (ae 6) (ae 7) (ae 2) (ae 3) pf (-1) 0 0 (-1) 0 0)) (As := [.int (xs ((0 : Int32) + (1 : Int32)).toNatClampNeg), .int (xs ((0 : Int32) + (2 : Int32)).toNatClampNeg), .int (xs ((0 : Int32) + (3 : Int32)).toNatClampNeg), .int (xs ((0 : Int32) + (4 : Int32)).toNatClampNeg), .int (xs ((0 : Int32) + (5 : Int32)).toNatClampNeg)]) (rest := []) (c_X11_shiftB l D cs ad (ae 6) (ae 7) (ae 2) (ae 3)  H.size (xs ((0 : Int32) + (1 : Int32)).toNatClampNeg) (xs ((0 : Int32) + (2 : Int32)).toNatClampNeg) (xs ((0 : Int32) + (3 : Int32)).toNatClampNeg) (xs ((0 : Int32) + (4 : Int32)).toNatClampNeg) (xs ((0 : Int32) + (5 : Int32)).toNatClampNeg) pf (-1) 0 0 (-1) 0 0 R1 h1) ⟨hx, hb, hml, hown, ht⟩ (cwV 5 ht gl_162 rfl rfl rfl (by decide +kernel) ⟨Nat.le_of_ble_eq_true rfl, Nat.le_of_ble_eq_true rfl⟩) (va_recv hK hP (ci := 11) (q0 := 0) rfl rfl) hP hD hS hK hA [0, 1, 47, 43] [55, 56, 57, 58, 59, 60, 61, 62, 63, 64, 65, 66, 67, 68, 69, 70, 71, 72, 73, 74, 75, 76, 77, 78, 79, 80, 81, 82, 83, 84, 85, 86, 87, 88, 89, 90, 91, 92, 93, 94, 95, 96, 97, 98] rfl rfl law_hR law_nd (law_dis rfl) rfl hl.1 (Nat.le_of_ble_eq_true rfl) dL_law_1453 ⟨Nat.le_of_ble_eq_true rfl, Nat.le_of_ble_eq_true rfl⟩ (fun r1 u1 H locs hq1 hP hD hS => ?_)
      have e1 : r1 = R1.1 := congrArg Prod.fst hq1
      rw [law_fm] at hP hD
      refine lv_aload_n hx hb dL_law_1456 rfl (lv_at hl 2 rfl) ?_
      refine lv_aload_n hx hb dL_law_1457 rfl (lv_at hl 0 rfl) ?_
      refine lv_iload_n hx hb dL_law_1458 rfl (lv_at hl 3 rfl) ?_
      refine lv_iconst (v := (1 : Int32)) hx hb dL_law_1459 (by decide) ?_
      refine lv_iadd hx hb dL_law_1460 ?_
      refine va_sld hx hb hX hbl hbA hS (by unfold vp_in; decide) dL_law_1461 ?_
      refine lv_aload_n hx hb dL_law_1462 rfl (lv_at hl 0 rfl) ?_
      refine lv_iload_n hx hb dL_law_1463 rfl (lv_at hl 3 rfl) ?_
      refine lv_iconst (v := (2 : Int32)) hx hb dL_law_1464 (by decide) ?_
      refine lv_iadd hx hb dL_law_1465 ?_
      refine va_sld hx hb hX hbl hbA hS (by unfold vp_in; decide) dL_law_1466 ?_
      refine lv_aload_n hx hb dL_law_1467 rfl (lv_at hl 0 rfl) ?_
      refine lv_iload_n hx hb dL_law_1468 rfl (lv_at hl 3 rfl) ?_
      refine lv_iconst (v := (3 : Int32)) hx hb dL_law_1469 (by decide) ?_
      refine lv_iadd hx hb dL_law_1470 ?_
      refine va_sld hx hb hX hbl hbA hS (by unfold vp_in; decide) dL_law_1471 ?_
      refine lv_aload_n hx hb dL_law_1472 rfl (lv_at hl 0 rfl) ?_
      refine lv_iload_n hx hb dL_law_1473 rfl (lv_at hl 3 rfl) ?_
      refine lv_iconst (v := (4 : Int32)) hx hb dL_law_1474 (by decide) ?_
      refine lv_iadd hx hb dL_law_1475 ?_
      refine va_sld hx hb hX hbl hbA hS (by unfold vp_in; decide) dL_law_1476 ?_
      refine lv_aload_n hx hb dL_law_1477 rfl (lv_at hl 0 rfl) ?_
      refine lv_iload_n hx hb dL_law_1478 rfl (lv_at hl 3 rfl) ?_
      refine lv_iconst (v := (5 : Int32)) hx hb dL_law_1479 (by decide) ?_
      refine lv_iadd hx hb dL_law_1480 ?_
      refine va_sld hx hb hX hbl hbA hS (by unfold vp_in; decide) dL_law_1481 ?_
      refine zk_vi (post := (fun r u => (r, u) = R2)) (w1 := fun u => (wl_X12_shift am cs 0 0 0 0 0 0 0 0 0 0 0 0 0 0 0 0 0 ((upd (upd (upd (upd (upd (upd (fun _ => 0) ((0 : Int32)).toNatClampNeg (-1 : Int32)) ((1 : Int32)).toNatClampNeg (-1 : Int32)) ((2 : Int32)).toNatClampNeg (-1 : Int32)) ((3 : Int32)).toNatClampNeg (-1 : Int32)) ((4 : Int32)).toNatClampNeg (-1 : Int32)) ((5 : Int32)).toNatClampNeg (-1 : Int32))) ((fun _ => 0)) u.1 u.2)) (As := [.int (xs ((0 : Int32) + (1 : Int32)).toNatClampNeg), .int (xs ((0 : Int32) + (2 : Int32)).toNatClampNeg), .int (xs ((0 : Int32) + (3 : Int32)).toNatClampNeg), .int (xs ((0 : Int32) + (4 : Int32)).toNatClampNeg), .int (xs ((0 : Int32) + (5 : Int32)).toNatClampNeg)]) (rest := [.int r1]) (c_X12_shift l D cs am   H.size 4000 (xs ((0 : Int32) + (1 : Int32)).toNatClampNeg) (xs ((0 : Int32) + (2 : Int32)).toNatClampNeg) (xs ((0 : Int32) + (3 : Int32)).toNatClampNeg) (xs ((0 : Int32) + (4 : Int32)).toNatClampNeg) (xs ((0 : Int32) + (5 : Int32)).toNatClampNeg) 0 0 0 0 0 0 0 0 0 0 0 0 0 0 0 0 0 ((upd (upd (upd (upd (upd (upd (fun _ => 0) ((0 : Int32)).toNatClampNeg (-1 : Int32)) ((1 : Int32)).toNatClampNeg (-1 : Int32)) ((2 : Int32)).toNatClampNeg (-1 : Int32)) ((3 : Int32)).toNatClampNeg (-1 : Int32)) ((4 : Int32)).toNatClampNeg (-1 : Int32)) ((5 : Int32)).toNatClampNeg (-1 : Int32))) ((fun _ => 0)) ((fun _ => 0)) ((fun _ => 0)) R2 h2) ⟨hx, hb, hml, hown, ht⟩ (cwV 5 ht gl_166 rfl rfl rfl (by decide +kernel) ⟨Nat.le_of_ble_eq_true rfl, Nat.le_of_ble_eq_true rfl⟩) (va_recv hK hP (ci := 12) (q0 := 0) rfl rfl) hP hD hS hK hA [0, 40, 41, 42, 43] [] rfl rfl rfl rfl (by decide) rfl hl.1 (Nat.le_of_ble_eq_true rfl) dL_law_1482 ⟨Nat.le_of_ble_eq_true rfl, Nat.le_of_ble_eq_true rfl⟩ (fun r2 u2 H locs hq2 hP hD hS => ?_)
      have e2 : r2 = R2.1 := congrArg Prod.fst hq2
      have EQ : r1 = r2 := by rw [e1, e2]; exact eq
      refine lv_icmp_eq (tgt := 1546) hx hb dL_law_1485 (by decide) (fun cc => ?_) (fun cc => absurd EQ cc)
      exact law_next C0 (by decide) (by decide) H locs ls hS (lv_sub hl [0, 3] rfl)
    · obtain ⟨R1, R2, h1, h2, eq⟩ := pe_shift (g := g) (pf := pf) (ae := ae) (wb := wb) GF PF 2 (by omega) 1 (by omega) (xs ((0 : Int32) + (1 : Int32)).toNatClampNeg) (xs ((0 : Int32) + (2 : Int32)).toNatClampNeg) (xs ((0 : Int32) + (3 : Int32)).toNatClampNeg) (xs ((0 : Int32) + (4 : Int32)).toNatClampNeg) (xs ((0 : Int32) + (5 : Int32)).toNatClampNeg) hp0 hp1
      refine lv_aload_n hx hb dL_law_1427 rfl (lv_at hl 1 rfl) ?_
      refine lv_aload_n hx hb dL_law_1428 rfl (lv_at hl 0 rfl) ?_
      refine lv_iload_n hx hb dL_law_1429 rfl (lv_at hl 3 rfl) ?_
      refine lv_iconst (v := (1 : Int32)) hx hb dL_law_1430 (by decide) ?_
      refine lv_iadd hx hb dL_law_1431 ?_
      refine va_sld hx hb hX hbl hbA hS (by unfold vp_in; decide) dL_law_1432 ?_
      refine lv_aload_n hx hb dL_law_1433 rfl (lv_at hl 0 rfl) ?_
      refine lv_iload_n hx hb dL_law_1434 rfl (lv_at hl 3 rfl) ?_
      refine lv_iconst (v := (2 : Int32)) hx hb dL_law_1435 (by decide) ?_
      refine lv_iadd hx hb dL_law_1436 ?_
      refine va_sld hx hb hX hbl hbA hS (by unfold vp_in; decide) dL_law_1437 ?_
      refine lv_aload_n hx hb dL_law_1438 rfl (lv_at hl 0 rfl) ?_
      refine lv_iload_n hx hb dL_law_1439 rfl (lv_at hl 3 rfl) ?_
      refine lv_iconst (v := (3 : Int32)) hx hb dL_law_1440 (by decide) ?_
      refine lv_iadd hx hb dL_law_1441 ?_
      refine va_sld hx hb hX hbl hbA hS (by unfold vp_in; decide) dL_law_1442 ?_
      refine lv_aload_n hx hb dL_law_1443 rfl (lv_at hl 0 rfl) ?_
      refine lv_iload_n hx hb dL_law_1444 rfl (lv_at hl 3 rfl) ?_
      refine lv_iconst (v := (4 : Int32)) hx hb dL_law_1445 (by decide) ?_
      refine lv_iadd hx hb dL_law_1446 ?_
      refine va_sld hx hb hX hbl hbA hS (by unfold vp_in; decide) dL_law_1447 ?_
      refine lv_aload_n hx hb dL_law_1448 rfl (lv_at hl 0 rfl) ?_
      refine lv_iload_n hx hb dL_law_1449 rfl (lv_at hl 3 rfl) ?_
      refine lv_iconst (v := (5 : Int32)) hx hb dL_law_1450 (by decide) ?_
      refine lv_iadd hx hb dL_law_1451 ?_
      refine va_sld hx hb hX hbl hbA hS (by unfold vp_in; decide) dL_law_1452 ?_
      refine zk_vi (post := (fun r u => (r, u) = R1)) (w1 := fun u => (wl_X11_shiftB ad cs (ae 6) (ae 7) (ae 4) (ae 5) pf (-1) 0 0 (-1) 0 0)) (As := [.int (xs ((0 : Int32) + (1 : Int32)).toNatClampNeg), .int (xs ((0 : Int32) + (2 : Int32)).toNatClampNeg), .int (xs ((0 : Int32) + (3 : Int32)).toNatClampNeg), .int (xs ((0 : Int32) + (4 : Int32)).toNatClampNeg), .int (xs ((0 : Int32) + (5 : Int32)).toNatClampNeg)]) (rest := []) (c_X11_shiftB l D cs ad (ae 6) (ae 7) (ae 4) (ae 5)  H.size (xs ((0 : Int32) + (1 : Int32)).toNatClampNeg) (xs ((0 : Int32) + (2 : Int32)).toNatClampNeg) (xs ((0 : Int32) + (3 : Int32)).toNatClampNeg) (xs ((0 : Int32) + (4 : Int32)).toNatClampNeg) (xs ((0 : Int32) + (5 : Int32)).toNatClampNeg) pf (-1) 0 0 (-1) 0 0 R1 h1) ⟨hx, hb, hml, hown, ht⟩ (cwV 5 ht gl_162 rfl rfl rfl (by decide +kernel) ⟨Nat.le_of_ble_eq_true rfl, Nat.le_of_ble_eq_true rfl⟩) (va_recv hK hP (ci := 11) (q0 := 0) rfl rfl) hP hD hS hK hA [0, 1, 47, 45] [55, 56, 57, 58, 59, 60, 61, 62, 63, 64, 65, 66, 67, 68, 69, 70, 71, 72, 73, 74, 75, 76, 77, 78, 79, 80, 81, 82, 83, 84, 85, 86, 87, 88, 89, 90, 91, 92, 93, 94, 95, 96, 97, 98] rfl rfl law_hR law_nd (law_dis rfl) rfl hl.1 (Nat.le_of_ble_eq_true rfl) dL_law_1453 ⟨Nat.le_of_ble_eq_true rfl, Nat.le_of_ble_eq_true rfl⟩ (fun r1 u1 H locs hq1 hP hD hS => ?_)
      have e1 : r1 = R1.1 := congrArg Prod.fst hq1
      rw [law_fm] at hP hD
      refine lv_aload_n hx hb dL_law_1456 rfl (lv_at hl 2 rfl) ?_
      refine lv_aload_n hx hb dL_law_1457 rfl (lv_at hl 0 rfl) ?_
      refine lv_iload_n hx hb dL_law_1458 rfl (lv_at hl 3 rfl) ?_
      refine lv_iconst (v := (1 : Int32)) hx hb dL_law_1459 (by decide) ?_
      refine lv_iadd hx hb dL_law_1460 ?_
      refine va_sld hx hb hX hbl hbA hS (by unfold vp_in; decide) dL_law_1461 ?_
      refine lv_aload_n hx hb dL_law_1462 rfl (lv_at hl 0 rfl) ?_
      refine lv_iload_n hx hb dL_law_1463 rfl (lv_at hl 3 rfl) ?_
      refine lv_iconst (v := (2 : Int32)) hx hb dL_law_1464 (by decide) ?_
      refine lv_iadd hx hb dL_law_1465 ?_
      refine va_sld hx hb hX hbl hbA hS (by unfold vp_in; decide) dL_law_1466 ?_
      refine lv_aload_n hx hb dL_law_1467 rfl (lv_at hl 0 rfl) ?_
      refine lv_iload_n hx hb dL_law_1468 rfl (lv_at hl 3 rfl) ?_
      refine lv_iconst (v := (3 : Int32)) hx hb dL_law_1469 (by decide) ?_
      refine lv_iadd hx hb dL_law_1470 ?_
      refine va_sld hx hb hX hbl hbA hS (by unfold vp_in; decide) dL_law_1471 ?_
      refine lv_aload_n hx hb dL_law_1472 rfl (lv_at hl 0 rfl) ?_
      refine lv_iload_n hx hb dL_law_1473 rfl (lv_at hl 3 rfl) ?_
      refine lv_iconst (v := (4 : Int32)) hx hb dL_law_1474 (by decide) ?_
      refine lv_iadd hx hb dL_law_1475 ?_
      refine va_sld hx hb hX hbl hbA hS (by unfold vp_in; decide) dL_law_1476 ?_
      refine lv_aload_n hx hb dL_law_1477 rfl (lv_at hl 0 rfl) ?_
      refine lv_iload_n hx hb dL_law_1478 rfl (lv_at hl 3 rfl) ?_
      refine lv_iconst (v := (5 : Int32)) hx hb dL_law_1479 (by decide) ?_
      refine lv_iadd hx hb dL_law_1480 ?_
      refine va_sld hx hb hX hbl hbA hS (by unfold vp_in; decide) dL_law_1481 ?_
      refine zk_vi (post := (fun r u => (r, u) = R2)) (w1 := fun u => (wl_X12_shift am cs 0 0 0 0 0 0 0 0 0 0 0 0 0 0 0 0 0 ((upd (upd (upd (upd (upd (upd (fun _ => 0) ((0 : Int32)).toNatClampNeg (-1 : Int32)) ((1 : Int32)).toNatClampNeg (-1 : Int32)) ((2 : Int32)).toNatClampNeg (-1 : Int32)) ((3 : Int32)).toNatClampNeg (-1 : Int32)) ((4 : Int32)).toNatClampNeg (-1 : Int32)) ((5 : Int32)).toNatClampNeg (-1 : Int32))) ((fun _ => 0)) u.1 u.2)) (As := [.int (xs ((0 : Int32) + (1 : Int32)).toNatClampNeg), .int (xs ((0 : Int32) + (2 : Int32)).toNatClampNeg), .int (xs ((0 : Int32) + (3 : Int32)).toNatClampNeg), .int (xs ((0 : Int32) + (4 : Int32)).toNatClampNeg), .int (xs ((0 : Int32) + (5 : Int32)).toNatClampNeg)]) (rest := [.int r1]) (c_X12_shift l D cs am   H.size 4000 (xs ((0 : Int32) + (1 : Int32)).toNatClampNeg) (xs ((0 : Int32) + (2 : Int32)).toNatClampNeg) (xs ((0 : Int32) + (3 : Int32)).toNatClampNeg) (xs ((0 : Int32) + (4 : Int32)).toNatClampNeg) (xs ((0 : Int32) + (5 : Int32)).toNatClampNeg) 0 0 0 0 0 0 0 0 0 0 0 0 0 0 0 0 0 ((upd (upd (upd (upd (upd (upd (fun _ => 0) ((0 : Int32)).toNatClampNeg (-1 : Int32)) ((1 : Int32)).toNatClampNeg (-1 : Int32)) ((2 : Int32)).toNatClampNeg (-1 : Int32)) ((3 : Int32)).toNatClampNeg (-1 : Int32)) ((4 : Int32)).toNatClampNeg (-1 : Int32)) ((5 : Int32)).toNatClampNeg (-1 : Int32))) ((fun _ => 0)) ((fun _ => 0)) ((fun _ => 0)) R2 h2) ⟨hx, hb, hml, hown, ht⟩ (cwV 5 ht gl_166 rfl rfl rfl (by decide +kernel) ⟨Nat.le_of_ble_eq_true rfl, Nat.le_of_ble_eq_true rfl⟩) (va_recv hK hP (ci := 12) (q0 := 0) rfl rfl) hP hD hS hK hA [0, 40, 41, 42, 43] [] rfl rfl rfl rfl (by decide) rfl hl.1 (Nat.le_of_ble_eq_true rfl) dL_law_1482 ⟨Nat.le_of_ble_eq_true rfl, Nat.le_of_ble_eq_true rfl⟩ (fun r2 u2 H locs hq2 hP hD hS => ?_)
      have e2 : r2 = R2.1 := congrArg Prod.fst hq2
      have EQ : r1 = r2 := by rw [e1, e2]; exact eq
      refine lv_icmp_eq (tgt := 1546) hx hb dL_law_1485 (by decide) (fun cc => ?_) (fun cc => absurd EQ cc)
      exact law_next C0 (by decide) (by decide) H locs ls hS (lv_sub hl [0, 3] rfl)
    · obtain ⟨R1, R2, h1, h2, eq⟩ := pe_shiftA (g := g) (pf := pf) (ae := ae) (wb := wb) GF PF 2 (by omega) (xs ((0 : Int32) + (1 : Int32)).toNatClampNeg) (xs ((0 : Int32) + (2 : Int32)).toNatClampNeg) (xs ((0 : Int32) + (3 : Int32)).toNatClampNeg) (xs ((0 : Int32) + (4 : Int32)).toNatClampNeg) (xs ((0 : Int32) + (5 : Int32)).toNatClampNeg) hp0 hp1
      refine lv_aload_n hx hb dL_law_1427 rfl (lv_at hl 1 rfl) ?_
      refine lv_aload_n hx hb dL_law_1428 rfl (lv_at hl 0 rfl) ?_
      refine lv_iload_n hx hb dL_law_1429 rfl (lv_at hl 3 rfl) ?_
      refine lv_iconst (v := (1 : Int32)) hx hb dL_law_1430 (by decide) ?_
      refine lv_iadd hx hb dL_law_1431 ?_
      refine va_sld hx hb hX hbl hbA hS (by unfold vp_in; decide) dL_law_1432 ?_
      refine lv_aload_n hx hb dL_law_1433 rfl (lv_at hl 0 rfl) ?_
      refine lv_iload_n hx hb dL_law_1434 rfl (lv_at hl 3 rfl) ?_
      refine lv_iconst (v := (2 : Int32)) hx hb dL_law_1435 (by decide) ?_
      refine lv_iadd hx hb dL_law_1436 ?_
      refine va_sld hx hb hX hbl hbA hS (by unfold vp_in; decide) dL_law_1437 ?_
      refine lv_aload_n hx hb dL_law_1438 rfl (lv_at hl 0 rfl) ?_
      refine lv_iload_n hx hb dL_law_1439 rfl (lv_at hl 3 rfl) ?_
      refine lv_iconst (v := (3 : Int32)) hx hb dL_law_1440 (by decide) ?_
      refine lv_iadd hx hb dL_law_1441 ?_
      refine va_sld hx hb hX hbl hbA hS (by unfold vp_in; decide) dL_law_1442 ?_
      refine lv_aload_n hx hb dL_law_1443 rfl (lv_at hl 0 rfl) ?_
      refine lv_iload_n hx hb dL_law_1444 rfl (lv_at hl 3 rfl) ?_
      refine lv_iconst (v := (4 : Int32)) hx hb dL_law_1445 (by decide) ?_
      refine lv_iadd hx hb dL_law_1446 ?_
      refine va_sld hx hb hX hbl hbA hS (by unfold vp_in; decide) dL_law_1447 ?_
      refine lv_aload_n hx hb dL_law_1448 rfl (lv_at hl 0 rfl) ?_
      refine lv_iload_n hx hb dL_law_1449 rfl (lv_at hl 3 rfl) ?_
      refine lv_iconst (v := (5 : Int32)) hx hb dL_law_1450 (by decide) ?_
      refine lv_iadd hx hb dL_law_1451 ?_
      refine va_sld hx hb hX hbl hbA hS (by unfold vp_in; decide) dL_law_1452 ?_
      refine zk_vi (post := (fun r u => (r, u) = R1)) (w1 := fun u => (wl_X11_shift ad cs (ae 6) (ae 7) pf (-1) 0 0)) (As := [.int (xs ((0 : Int32) + (1 : Int32)).toNatClampNeg), .int (xs ((0 : Int32) + (2 : Int32)).toNatClampNeg), .int (xs ((0 : Int32) + (3 : Int32)).toNatClampNeg), .int (xs ((0 : Int32) + (4 : Int32)).toNatClampNeg), .int (xs ((0 : Int32) + (5 : Int32)).toNatClampNeg)]) (rest := []) (c_X11_shift l D cs ad (ae 6) (ae 7)  H.size (xs ((0 : Int32) + (1 : Int32)).toNatClampNeg) (xs ((0 : Int32) + (2 : Int32)).toNatClampNeg) (xs ((0 : Int32) + (3 : Int32)).toNatClampNeg) (xs ((0 : Int32) + (4 : Int32)).toNatClampNeg) (xs ((0 : Int32) + (5 : Int32)).toNatClampNeg) pf (-1) 0 0 R1 h1) ⟨hx, hb, hml, hown, ht⟩ (cwV 5 ht gl_162 rfl rfl rfl (by decide +kernel) ⟨Nat.le_of_ble_eq_true rfl, Nat.le_of_ble_eq_true rfl⟩) (va_recv hK hP (ci := 11) (q0 := 0) rfl rfl) hP hD hS hK hA [0, 1, 47] [55, 56, 57, 58, 59, 60, 61, 62, 63, 64, 65, 66, 67, 68, 69, 70, 71, 72, 73, 74, 75, 76, 77, 78, 79, 80, 81, 82, 83, 84, 85, 86, 87, 88, 89, 90, 91, 92, 93, 94, 95, 96, 97, 98] rfl rfl law_hR law_nd (law_dis rfl) rfl hl.1 (Nat.le_of_ble_eq_true rfl) dL_law_1453 ⟨Nat.le_of_ble_eq_true rfl, Nat.le_of_ble_eq_true rfl⟩ (fun r1 u1 H locs hq1 hP hD hS => ?_)
      have e1 : r1 = R1.1 := congrArg Prod.fst hq1
      rw [law_fm] at hP hD
      refine lv_aload_n hx hb dL_law_1456 rfl (lv_at hl 2 rfl) ?_
      refine lv_aload_n hx hb dL_law_1457 rfl (lv_at hl 0 rfl) ?_
      refine lv_iload_n hx hb dL_law_1458 rfl (lv_at hl 3 rfl) ?_
      refine lv_iconst (v := (1 : Int32)) hx hb dL_law_1459 (by decide) ?_
      refine lv_iadd hx hb dL_law_1460 ?_
      refine va_sld hx hb hX hbl hbA hS (by unfold vp_in; decide) dL_law_1461 ?_
      refine lv_aload_n hx hb dL_law_1462 rfl (lv_at hl 0 rfl) ?_
      refine lv_iload_n hx hb dL_law_1463 rfl (lv_at hl 3 rfl) ?_
      refine lv_iconst (v := (2 : Int32)) hx hb dL_law_1464 (by decide) ?_
      refine lv_iadd hx hb dL_law_1465 ?_
      refine va_sld hx hb hX hbl hbA hS (by unfold vp_in; decide) dL_law_1466 ?_
      refine lv_aload_n hx hb dL_law_1467 rfl (lv_at hl 0 rfl) ?_
      refine lv_iload_n hx hb dL_law_1468 rfl (lv_at hl 3 rfl) ?_
      refine lv_iconst (v := (3 : Int32)) hx hb dL_law_1469 (by decide) ?_
      refine lv_iadd hx hb dL_law_1470 ?_
      refine va_sld hx hb hX hbl hbA hS (by unfold vp_in; decide) dL_law_1471 ?_
      refine lv_aload_n hx hb dL_law_1472 rfl (lv_at hl 0 rfl) ?_
      refine lv_iload_n hx hb dL_law_1473 rfl (lv_at hl 3 rfl) ?_
      refine lv_iconst (v := (4 : Int32)) hx hb dL_law_1474 (by decide) ?_
      refine lv_iadd hx hb dL_law_1475 ?_
      refine va_sld hx hb hX hbl hbA hS (by unfold vp_in; decide) dL_law_1476 ?_
      refine lv_aload_n hx hb dL_law_1477 rfl (lv_at hl 0 rfl) ?_
      refine lv_iload_n hx hb dL_law_1478 rfl (lv_at hl 3 rfl) ?_
      refine lv_iconst (v := (5 : Int32)) hx hb dL_law_1479 (by decide) ?_
      refine lv_iadd hx hb dL_law_1480 ?_
      refine va_sld hx hb hX hbl hbA hS (by unfold vp_in; decide) dL_law_1481 ?_
      refine zk_vi (post := (fun r u => (r, u) = R2)) (w1 := fun u => (wl_X12_shift am cs 0 0 0 0 0 0 0 0 0 0 0 0 0 0 0 0 0 ((upd (upd (upd (upd (upd (upd (fun _ => 0) ((0 : Int32)).toNatClampNeg (-1 : Int32)) ((1 : Int32)).toNatClampNeg (-1 : Int32)) ((2 : Int32)).toNatClampNeg (-1 : Int32)) ((3 : Int32)).toNatClampNeg (-1 : Int32)) ((4 : Int32)).toNatClampNeg (-1 : Int32)) ((5 : Int32)).toNatClampNeg (-1 : Int32))) ((fun _ => 0)) u.1 u.2)) (As := [.int (xs ((0 : Int32) + (1 : Int32)).toNatClampNeg), .int (xs ((0 : Int32) + (2 : Int32)).toNatClampNeg), .int (xs ((0 : Int32) + (3 : Int32)).toNatClampNeg), .int (xs ((0 : Int32) + (4 : Int32)).toNatClampNeg), .int (xs ((0 : Int32) + (5 : Int32)).toNatClampNeg)]) (rest := [.int r1]) (c_X12_shift l D cs am   H.size 4000 (xs ((0 : Int32) + (1 : Int32)).toNatClampNeg) (xs ((0 : Int32) + (2 : Int32)).toNatClampNeg) (xs ((0 : Int32) + (3 : Int32)).toNatClampNeg) (xs ((0 : Int32) + (4 : Int32)).toNatClampNeg) (xs ((0 : Int32) + (5 : Int32)).toNatClampNeg) 0 0 0 0 0 0 0 0 0 0 0 0 0 0 0 0 0 ((upd (upd (upd (upd (upd (upd (fun _ => 0) ((0 : Int32)).toNatClampNeg (-1 : Int32)) ((1 : Int32)).toNatClampNeg (-1 : Int32)) ((2 : Int32)).toNatClampNeg (-1 : Int32)) ((3 : Int32)).toNatClampNeg (-1 : Int32)) ((4 : Int32)).toNatClampNeg (-1 : Int32)) ((5 : Int32)).toNatClampNeg (-1 : Int32))) ((fun _ => 0)) ((fun _ => 0)) ((fun _ => 0)) R2 h2) ⟨hx, hb, hml, hown, ht⟩ (cwV 5 ht gl_166 rfl rfl rfl (by decide +kernel) ⟨Nat.le_of_ble_eq_true rfl, Nat.le_of_ble_eq_true rfl⟩) (va_recv hK hP (ci := 12) (q0 := 0) rfl rfl) hP hD hS hK hA [0, 40, 41, 42, 43] [] rfl rfl rfl rfl (by decide) rfl hl.1 (Nat.le_of_ble_eq_true rfl) dL_law_1482 ⟨Nat.le_of_ble_eq_true rfl, Nat.le_of_ble_eq_true rfl⟩ (fun r2 u2 H locs hq2 hP hD hS => ?_)
      have e2 : r2 = R2.1 := congrArg Prod.fst hq2
      have EQ : r1 = r2 := by rw [e1, e2]; exact eq
      refine lv_icmp_eq (tgt := 1546) hx hb dL_law_1485 (by decide) (fun cc => ?_) (fun cc => absurd EQ cc)
      exact law_next C0 (by decide) (by decide) H locs ls hS (lv_sub hl [0, 3] rfl)
    · obtain ⟨R1, R2, h1, h2, eq⟩ := pe_shift (g := g) (pf := pf) (ae := ae) (wb := wb) GF PF 2 (by omega) 3 (by omega) (xs ((0 : Int32) + (1 : Int32)).toNatClampNeg) (xs ((0 : Int32) + (2 : Int32)).toNatClampNeg) (xs ((0 : Int32) + (3 : Int32)).toNatClampNeg) (xs ((0 : Int32) + (4 : Int32)).toNatClampNeg) (xs ((0 : Int32) + (5 : Int32)).toNatClampNeg) hp0 hp1
      refine lv_aload_n hx hb dL_law_1427 rfl (lv_at hl 1 rfl) ?_
      refine lv_aload_n hx hb dL_law_1428 rfl (lv_at hl 0 rfl) ?_
      refine lv_iload_n hx hb dL_law_1429 rfl (lv_at hl 3 rfl) ?_
      refine lv_iconst (v := (1 : Int32)) hx hb dL_law_1430 (by decide) ?_
      refine lv_iadd hx hb dL_law_1431 ?_
      refine va_sld hx hb hX hbl hbA hS (by unfold vp_in; decide) dL_law_1432 ?_
      refine lv_aload_n hx hb dL_law_1433 rfl (lv_at hl 0 rfl) ?_
      refine lv_iload_n hx hb dL_law_1434 rfl (lv_at hl 3 rfl) ?_
      refine lv_iconst (v := (2 : Int32)) hx hb dL_law_1435 (by decide) ?_
      refine lv_iadd hx hb dL_law_1436 ?_
      refine va_sld hx hb hX hbl hbA hS (by unfold vp_in; decide) dL_law_1437 ?_
      refine lv_aload_n hx hb dL_law_1438 rfl (lv_at hl 0 rfl) ?_
      refine lv_iload_n hx hb dL_law_1439 rfl (lv_at hl 3 rfl) ?_
      refine lv_iconst (v := (3 : Int32)) hx hb dL_law_1440 (by decide) ?_
      refine lv_iadd hx hb dL_law_1441 ?_
      refine va_sld hx hb hX hbl hbA hS (by unfold vp_in; decide) dL_law_1442 ?_
      refine lv_aload_n hx hb dL_law_1443 rfl (lv_at hl 0 rfl) ?_
      refine lv_iload_n hx hb dL_law_1444 rfl (lv_at hl 3 rfl) ?_
      refine lv_iconst (v := (4 : Int32)) hx hb dL_law_1445 (by decide) ?_
      refine lv_iadd hx hb dL_law_1446 ?_
      refine va_sld hx hb hX hbl hbA hS (by unfold vp_in; decide) dL_law_1447 ?_
      refine lv_aload_n hx hb dL_law_1448 rfl (lv_at hl 0 rfl) ?_
      refine lv_iload_n hx hb dL_law_1449 rfl (lv_at hl 3 rfl) ?_
      refine lv_iconst (v := (5 : Int32)) hx hb dL_law_1450 (by decide) ?_
      refine lv_iadd hx hb dL_law_1451 ?_
      refine va_sld hx hb hX hbl hbA hS (by unfold vp_in; decide) dL_law_1452 ?_
      refine zk_vi (post := (fun r u => (r, u) = R1)) (w1 := fun u => (wl_X11_shiftB ad cs (ae 6) (ae 7) (ae 8) (ae 9) pf (-1) 0 0 (-1) 0 0)) (As := [.int (xs ((0 : Int32) + (1 : Int32)).toNatClampNeg), .int (xs ((0 : Int32) + (2 : Int32)).toNatClampNeg), .int (xs ((0 : Int32) + (3 : Int32)).toNatClampNeg), .int (xs ((0 : Int32) + (4 : Int32)).toNatClampNeg), .int (xs ((0 : Int32) + (5 : Int32)).toNatClampNeg)]) (rest := []) (c_X11_shiftB l D cs ad (ae 6) (ae 7) (ae 8) (ae 9)  H.size (xs ((0 : Int32) + (1 : Int32)).toNatClampNeg) (xs ((0 : Int32) + (2 : Int32)).toNatClampNeg) (xs ((0 : Int32) + (3 : Int32)).toNatClampNeg) (xs ((0 : Int32) + (4 : Int32)).toNatClampNeg) (xs ((0 : Int32) + (5 : Int32)).toNatClampNeg) pf (-1) 0 0 (-1) 0 0 R1 h1) ⟨hx, hb, hml, hown, ht⟩ (cwV 5 ht gl_162 rfl rfl rfl (by decide +kernel) ⟨Nat.le_of_ble_eq_true rfl, Nat.le_of_ble_eq_true rfl⟩) (va_recv hK hP (ci := 11) (q0 := 0) rfl rfl) hP hD hS hK hA [0, 1, 47, 49] [55, 56, 57, 58, 59, 60, 61, 62, 63, 64, 65, 66, 67, 68, 69, 70, 71, 72, 73, 74, 75, 76, 77, 78, 79, 80, 81, 82, 83, 84, 85, 86, 87, 88, 89, 90, 91, 92, 93, 94, 95, 96, 97, 98] rfl rfl law_hR law_nd (law_dis rfl) rfl hl.1 (Nat.le_of_ble_eq_true rfl) dL_law_1453 ⟨Nat.le_of_ble_eq_true rfl, Nat.le_of_ble_eq_true rfl⟩ (fun r1 u1 H locs hq1 hP hD hS => ?_)
      have e1 : r1 = R1.1 := congrArg Prod.fst hq1
      rw [law_fm] at hP hD
      refine lv_aload_n hx hb dL_law_1456 rfl (lv_at hl 2 rfl) ?_
      refine lv_aload_n hx hb dL_law_1457 rfl (lv_at hl 0 rfl) ?_
      refine lv_iload_n hx hb dL_law_1458 rfl (lv_at hl 3 rfl) ?_
      refine lv_iconst (v := (1 : Int32)) hx hb dL_law_1459 (by decide) ?_
      refine lv_iadd hx hb dL_law_1460 ?_
      refine va_sld hx hb hX hbl hbA hS (by unfold vp_in; decide) dL_law_1461 ?_
      refine lv_aload_n hx hb dL_law_1462 rfl (lv_at hl 0 rfl) ?_
      refine lv_iload_n hx hb dL_law_1463 rfl (lv_at hl 3 rfl) ?_
      refine lv_iconst (v := (2 : Int32)) hx hb dL_law_1464 (by decide) ?_
      refine lv_iadd hx hb dL_law_1465 ?_
      refine va_sld hx hb hX hbl hbA hS (by unfold vp_in; decide) dL_law_1466 ?_
      refine lv_aload_n hx hb dL_law_1467 rfl (lv_at hl 0 rfl) ?_
      refine lv_iload_n hx hb dL_law_1468 rfl (lv_at hl 3 rfl) ?_
      refine lv_iconst (v := (3 : Int32)) hx hb dL_law_1469 (by decide) ?_
      refine lv_iadd hx hb dL_law_1470 ?_
      refine va_sld hx hb hX hbl hbA hS (by unfold vp_in; decide) dL_law_1471 ?_
      refine lv_aload_n hx hb dL_law_1472 rfl (lv_at hl 0 rfl) ?_
      refine lv_iload_n hx hb dL_law_1473 rfl (lv_at hl 3 rfl) ?_
      refine lv_iconst (v := (4 : Int32)) hx hb dL_law_1474 (by decide) ?_
      refine lv_iadd hx hb dL_law_1475 ?_
      refine va_sld hx hb hX hbl hbA hS (by unfold vp_in; decide) dL_law_1476 ?_
      refine lv_aload_n hx hb dL_law_1477 rfl (lv_at hl 0 rfl) ?_
      refine lv_iload_n hx hb dL_law_1478 rfl (lv_at hl 3 rfl) ?_
      refine lv_iconst (v := (5 : Int32)) hx hb dL_law_1479 (by decide) ?_
      refine lv_iadd hx hb dL_law_1480 ?_
      refine va_sld hx hb hX hbl hbA hS (by unfold vp_in; decide) dL_law_1481 ?_
      refine zk_vi (post := (fun r u => (r, u) = R2)) (w1 := fun u => (wl_X12_shift am cs 0 0 0 0 0 0 0 0 0 0 0 0 0 0 0 0 0 ((upd (upd (upd (upd (upd (upd (fun _ => 0) ((0 : Int32)).toNatClampNeg (-1 : Int32)) ((1 : Int32)).toNatClampNeg (-1 : Int32)) ((2 : Int32)).toNatClampNeg (-1 : Int32)) ((3 : Int32)).toNatClampNeg (-1 : Int32)) ((4 : Int32)).toNatClampNeg (-1 : Int32)) ((5 : Int32)).toNatClampNeg (-1 : Int32))) ((fun _ => 0)) u.1 u.2)) (As := [.int (xs ((0 : Int32) + (1 : Int32)).toNatClampNeg), .int (xs ((0 : Int32) + (2 : Int32)).toNatClampNeg), .int (xs ((0 : Int32) + (3 : Int32)).toNatClampNeg), .int (xs ((0 : Int32) + (4 : Int32)).toNatClampNeg), .int (xs ((0 : Int32) + (5 : Int32)).toNatClampNeg)]) (rest := [.int r1]) (c_X12_shift l D cs am   H.size 4000 (xs ((0 : Int32) + (1 : Int32)).toNatClampNeg) (xs ((0 : Int32) + (2 : Int32)).toNatClampNeg) (xs ((0 : Int32) + (3 : Int32)).toNatClampNeg) (xs ((0 : Int32) + (4 : Int32)).toNatClampNeg) (xs ((0 : Int32) + (5 : Int32)).toNatClampNeg) 0 0 0 0 0 0 0 0 0 0 0 0 0 0 0 0 0 ((upd (upd (upd (upd (upd (upd (fun _ => 0) ((0 : Int32)).toNatClampNeg (-1 : Int32)) ((1 : Int32)).toNatClampNeg (-1 : Int32)) ((2 : Int32)).toNatClampNeg (-1 : Int32)) ((3 : Int32)).toNatClampNeg (-1 : Int32)) ((4 : Int32)).toNatClampNeg (-1 : Int32)) ((5 : Int32)).toNatClampNeg (-1 : Int32))) ((fun _ => 0)) ((fun _ => 0)) ((fun _ => 0)) R2 h2) ⟨hx, hb, hml, hown, ht⟩ (cwV 5 ht gl_166 rfl rfl rfl (by decide +kernel) ⟨Nat.le_of_ble_eq_true rfl, Nat.le_of_ble_eq_true rfl⟩) (va_recv hK hP (ci := 12) (q0 := 0) rfl rfl) hP hD hS hK hA [0, 40, 41, 42, 43] [] rfl rfl rfl rfl (by decide) rfl hl.1 (Nat.le_of_ble_eq_true rfl) dL_law_1482 ⟨Nat.le_of_ble_eq_true rfl, Nat.le_of_ble_eq_true rfl⟩ (fun r2 u2 H locs hq2 hP hD hS => ?_)
      have e2 : r2 = R2.1 := congrArg Prod.fst hq2
      have EQ : r1 = r2 := by rw [e1, e2]; exact eq
      refine lv_icmp_eq (tgt := 1546) hx hb dL_law_1485 (by decide) (fun cc => ?_) (fun cc => absurd EQ cc)
      exact law_next C0 (by decide) (by decide) H locs ls hS (lv_sub hl [0, 3] rfl)
    · obtain ⟨R1, R2, h1, h2, eq⟩ := pe_shift (g := g) (pf := pf) (ae := ae) (wb := wb) GF PF 2 (by omega) 4 (by omega) (xs ((0 : Int32) + (1 : Int32)).toNatClampNeg) (xs ((0 : Int32) + (2 : Int32)).toNatClampNeg) (xs ((0 : Int32) + (3 : Int32)).toNatClampNeg) (xs ((0 : Int32) + (4 : Int32)).toNatClampNeg) (xs ((0 : Int32) + (5 : Int32)).toNatClampNeg) hp0 hp1
      refine lv_aload_n hx hb dL_law_1427 rfl (lv_at hl 1 rfl) ?_
      refine lv_aload_n hx hb dL_law_1428 rfl (lv_at hl 0 rfl) ?_
      refine lv_iload_n hx hb dL_law_1429 rfl (lv_at hl 3 rfl) ?_
      refine lv_iconst (v := (1 : Int32)) hx hb dL_law_1430 (by decide) ?_
      refine lv_iadd hx hb dL_law_1431 ?_
      refine va_sld hx hb hX hbl hbA hS (by unfold vp_in; decide) dL_law_1432 ?_
      refine lv_aload_n hx hb dL_law_1433 rfl (lv_at hl 0 rfl) ?_
      refine lv_iload_n hx hb dL_law_1434 rfl (lv_at hl 3 rfl) ?_
      refine lv_iconst (v := (2 : Int32)) hx hb dL_law_1435 (by decide) ?_
      refine lv_iadd hx hb dL_law_1436 ?_
      refine va_sld hx hb hX hbl hbA hS (by unfold vp_in; decide) dL_law_1437 ?_
      refine lv_aload_n hx hb dL_law_1438 rfl (lv_at hl 0 rfl) ?_
      refine lv_iload_n hx hb dL_law_1439 rfl (lv_at hl 3 rfl) ?_
      refine lv_iconst (v := (3 : Int32)) hx hb dL_law_1440 (by decide) ?_
      refine lv_iadd hx hb dL_law_1441 ?_
      refine va_sld hx hb hX hbl hbA hS (by unfold vp_in; decide) dL_law_1442 ?_
      refine lv_aload_n hx hb dL_law_1443 rfl (lv_at hl 0 rfl) ?_
      refine lv_iload_n hx hb dL_law_1444 rfl (lv_at hl 3 rfl) ?_
      refine lv_iconst (v := (4 : Int32)) hx hb dL_law_1445 (by decide) ?_
      refine lv_iadd hx hb dL_law_1446 ?_
      refine va_sld hx hb hX hbl hbA hS (by unfold vp_in; decide) dL_law_1447 ?_
      refine lv_aload_n hx hb dL_law_1448 rfl (lv_at hl 0 rfl) ?_
      refine lv_iload_n hx hb dL_law_1449 rfl (lv_at hl 3 rfl) ?_
      refine lv_iconst (v := (5 : Int32)) hx hb dL_law_1450 (by decide) ?_
      refine lv_iadd hx hb dL_law_1451 ?_
      refine va_sld hx hb hX hbl hbA hS (by unfold vp_in; decide) dL_law_1452 ?_
      refine zk_vi (post := (fun r u => (r, u) = R1)) (w1 := fun u => (wl_X11_shiftB ad cs (ae 6) (ae 7) (ae 10) (ae 11) pf (-1) 0 0 (-1) 0 0)) (As := [.int (xs ((0 : Int32) + (1 : Int32)).toNatClampNeg), .int (xs ((0 : Int32) + (2 : Int32)).toNatClampNeg), .int (xs ((0 : Int32) + (3 : Int32)).toNatClampNeg), .int (xs ((0 : Int32) + (4 : Int32)).toNatClampNeg), .int (xs ((0 : Int32) + (5 : Int32)).toNatClampNeg)]) (rest := []) (c_X11_shiftB l D cs ad (ae 6) (ae 7) (ae 10) (ae 11)  H.size (xs ((0 : Int32) + (1 : Int32)).toNatClampNeg) (xs ((0 : Int32) + (2 : Int32)).toNatClampNeg) (xs ((0 : Int32) + (3 : Int32)).toNatClampNeg) (xs ((0 : Int32) + (4 : Int32)).toNatClampNeg) (xs ((0 : Int32) + (5 : Int32)).toNatClampNeg) pf (-1) 0 0 (-1) 0 0 R1 h1) ⟨hx, hb, hml, hown, ht⟩ (cwV 5 ht gl_162 rfl rfl rfl (by decide +kernel) ⟨Nat.le_of_ble_eq_true rfl, Nat.le_of_ble_eq_true rfl⟩) (va_recv hK hP (ci := 11) (q0 := 0) rfl rfl) hP hD hS hK hA [0, 1, 47, 51] [55, 56, 57, 58, 59, 60, 61, 62, 63, 64, 65, 66, 67, 68, 69, 70, 71, 72, 73, 74, 75, 76, 77, 78, 79, 80, 81, 82, 83, 84, 85, 86, 87, 88, 89, 90, 91, 92, 93, 94, 95, 96, 97, 98] rfl rfl law_hR law_nd (law_dis rfl) rfl hl.1 (Nat.le_of_ble_eq_true rfl) dL_law_1453 ⟨Nat.le_of_ble_eq_true rfl, Nat.le_of_ble_eq_true rfl⟩ (fun r1 u1 H locs hq1 hP hD hS => ?_)
      have e1 : r1 = R1.1 := congrArg Prod.fst hq1
      rw [law_fm] at hP hD
      refine lv_aload_n hx hb dL_law_1456 rfl (lv_at hl 2 rfl) ?_
      refine lv_aload_n hx hb dL_law_1457 rfl (lv_at hl 0 rfl) ?_
      refine lv_iload_n hx hb dL_law_1458 rfl (lv_at hl 3 rfl) ?_
      refine lv_iconst (v := (1 : Int32)) hx hb dL_law_1459 (by decide) ?_
      refine lv_iadd hx hb dL_law_1460 ?_
      refine va_sld hx hb hX hbl hbA hS (by unfold vp_in; decide) dL_law_1461 ?_
      refine lv_aload_n hx hb dL_law_1462 rfl (lv_at hl 0 rfl) ?_
      refine lv_iload_n hx hb dL_law_1463 rfl (lv_at hl 3 rfl) ?_
      refine lv_iconst (v := (2 : Int32)) hx hb dL_law_1464 (by decide) ?_
      refine lv_iadd hx hb dL_law_1465 ?_
      refine va_sld hx hb hX hbl hbA hS (by unfold vp_in; decide) dL_law_1466 ?_
      refine lv_aload_n hx hb dL_law_1467 rfl (lv_at hl 0 rfl) ?_
      refine lv_iload_n hx hb dL_law_1468 rfl (lv_at hl 3 rfl) ?_
      refine lv_iconst (v := (3 : Int32)) hx hb dL_law_1469 (by decide) ?_
      refine lv_iadd hx hb dL_law_1470 ?_
      refine va_sld hx hb hX hbl hbA hS (by unfold vp_in; decide) dL_law_1471 ?_
      refine lv_aload_n hx hb dL_law_1472 rfl (lv_at hl 0 rfl) ?_
      refine lv_iload_n hx hb dL_law_1473 rfl (lv_at hl 3 rfl) ?_
      refine lv_iconst (v := (4 : Int32)) hx hb dL_law_1474 (by decide) ?_
      refine lv_iadd hx hb dL_law_1475 ?_
      refine va_sld hx hb hX hbl hbA hS (by unfold vp_in; decide) dL_law_1476 ?_
      refine lv_aload_n hx hb dL_law_1477 rfl (lv_at hl 0 rfl) ?_
      refine lv_iload_n hx hb dL_law_1478 rfl (lv_at hl 3 rfl) ?_
      refine lv_iconst (v := (5 : Int32)) hx hb dL_law_1479 (by decide) ?_
      refine lv_iadd hx hb dL_law_1480 ?_
      refine va_sld hx hb hX hbl hbA hS (by unfold vp_in; decide) dL_law_1481 ?_
      refine zk_vi (post := (fun r u => (r, u) = R2)) (w1 := fun u => (wl_X12_shift am cs 0 0 0 0 0 0 0 0 0 0 0 0 0 0 0 0 0 ((upd (upd (upd (upd (upd (upd (fun _ => 0) ((0 : Int32)).toNatClampNeg (-1 : Int32)) ((1 : Int32)).toNatClampNeg (-1 : Int32)) ((2 : Int32)).toNatClampNeg (-1 : Int32)) ((3 : Int32)).toNatClampNeg (-1 : Int32)) ((4 : Int32)).toNatClampNeg (-1 : Int32)) ((5 : Int32)).toNatClampNeg (-1 : Int32))) ((fun _ => 0)) u.1 u.2)) (As := [.int (xs ((0 : Int32) + (1 : Int32)).toNatClampNeg), .int (xs ((0 : Int32) + (2 : Int32)).toNatClampNeg), .int (xs ((0 : Int32) + (3 : Int32)).toNatClampNeg), .int (xs ((0 : Int32) + (4 : Int32)).toNatClampNeg), .int (xs ((0 : Int32) + (5 : Int32)).toNatClampNeg)]) (rest := [.int r1]) (c_X12_shift l D cs am   H.size 4000 (xs ((0 : Int32) + (1 : Int32)).toNatClampNeg) (xs ((0 : Int32) + (2 : Int32)).toNatClampNeg) (xs ((0 : Int32) + (3 : Int32)).toNatClampNeg) (xs ((0 : Int32) + (4 : Int32)).toNatClampNeg) (xs ((0 : Int32) + (5 : Int32)).toNatClampNeg) 0 0 0 0 0 0 0 0 0 0 0 0 0 0 0 0 0 ((upd (upd (upd (upd (upd (upd (fun _ => 0) ((0 : Int32)).toNatClampNeg (-1 : Int32)) ((1 : Int32)).toNatClampNeg (-1 : Int32)) ((2 : Int32)).toNatClampNeg (-1 : Int32)) ((3 : Int32)).toNatClampNeg (-1 : Int32)) ((4 : Int32)).toNatClampNeg (-1 : Int32)) ((5 : Int32)).toNatClampNeg (-1 : Int32))) ((fun _ => 0)) ((fun _ => 0)) ((fun _ => 0)) R2 h2) ⟨hx, hb, hml, hown, ht⟩ (cwV 5 ht gl_166 rfl rfl rfl (by decide +kernel) ⟨Nat.le_of_ble_eq_true rfl, Nat.le_of_ble_eq_true rfl⟩) (va_recv hK hP (ci := 12) (q0 := 0) rfl rfl) hP hD hS hK hA [0, 40, 41, 42, 43] [] rfl rfl rfl rfl (by decide) rfl hl.1 (Nat.le_of_ble_eq_true rfl) dL_law_1482 ⟨Nat.le_of_ble_eq_true rfl, Nat.le_of_ble_eq_true rfl⟩ (fun r2 u2 H locs hq2 hP hD hS => ?_)
      have e2 : r2 = R2.1 := congrArg Prod.fst hq2
      have EQ : r1 = r2 := by rw [e1, e2]; exact eq
      refine lv_icmp_eq (tgt := 1546) hx hb dL_law_1485 (by decide) (fun cc => ?_) (fun cc => absurd EQ cc)
      exact law_next C0 (by decide) (by decide) H locs ls hS (lv_sub hl [0, 3] rfl)
    · obtain ⟨R1, R2, h1, h2, eq⟩ := pe_shift (g := g) (pf := pf) (ae := ae) (wb := wb) GF PF 2 (by omega) 5 (by omega) (xs ((0 : Int32) + (1 : Int32)).toNatClampNeg) (xs ((0 : Int32) + (2 : Int32)).toNatClampNeg) (xs ((0 : Int32) + (3 : Int32)).toNatClampNeg) (xs ((0 : Int32) + (4 : Int32)).toNatClampNeg) (xs ((0 : Int32) + (5 : Int32)).toNatClampNeg) hp0 hp1
      refine lv_aload_n hx hb dL_law_1427 rfl (lv_at hl 1 rfl) ?_
      refine lv_aload_n hx hb dL_law_1428 rfl (lv_at hl 0 rfl) ?_
      refine lv_iload_n hx hb dL_law_1429 rfl (lv_at hl 3 rfl) ?_
      refine lv_iconst (v := (1 : Int32)) hx hb dL_law_1430 (by decide) ?_
      refine lv_iadd hx hb dL_law_1431 ?_
      refine va_sld hx hb hX hbl hbA hS (by unfold vp_in; decide) dL_law_1432 ?_
      refine lv_aload_n hx hb dL_law_1433 rfl (lv_at hl 0 rfl) ?_
      refine lv_iload_n hx hb dL_law_1434 rfl (lv_at hl 3 rfl) ?_
      refine lv_iconst (v := (2 : Int32)) hx hb dL_law_1435 (by decide) ?_
      refine lv_iadd hx hb dL_law_1436 ?_
      refine va_sld hx hb hX hbl hbA hS (by unfold vp_in; decide) dL_law_1437 ?_
      refine lv_aload_n hx hb dL_law_1438 rfl (lv_at hl 0 rfl) ?_
      refine lv_iload_n hx hb dL_law_1439 rfl (lv_at hl 3 rfl) ?_
      refine lv_iconst (v := (3 : Int32)) hx hb dL_law_1440 (by decide) ?_
      refine lv_iadd hx hb dL_law_1441 ?_
      refine va_sld hx hb hX hbl hbA hS (by unfold vp_in; decide) dL_law_1442 ?_
      refine lv_aload_n hx hb dL_law_1443 rfl (lv_at hl 0 rfl) ?_
      refine lv_iload_n hx hb dL_law_1444 rfl (lv_at hl 3 rfl) ?_
      refine lv_iconst (v := (4 : Int32)) hx hb dL_law_1445 (by decide) ?_
      refine lv_iadd hx hb dL_law_1446 ?_
      refine va_sld hx hb hX hbl hbA hS (by unfold vp_in; decide) dL_law_1447 ?_
      refine lv_aload_n hx hb dL_law_1448 rfl (lv_at hl 0 rfl) ?_
      refine lv_iload_n hx hb dL_law_1449 rfl (lv_at hl 3 rfl) ?_
      refine lv_iconst (v := (5 : Int32)) hx hb dL_law_1450 (by decide) ?_
      refine lv_iadd hx hb dL_law_1451 ?_
      refine va_sld hx hb hX hbl hbA hS (by unfold vp_in; decide) dL_law_1452 ?_
      refine zk_vi (post := (fun r u => (r, u) = R1)) (w1 := fun u => (wl_X11_shiftB ad cs (ae 6) (ae 7) (ae 12) (ae 13) pf (-1) 0 0 (-1) 0 0)) (As := [.int (xs ((0 : Int32) + (1 : Int32)).toNatClampNeg), .int (xs ((0 : Int32) + (2 : Int32)).toNatClampNeg), .int (xs ((0 : Int32) + (3 : Int32)).toNatClampNeg), .int (xs ((0 : Int32) + (4 : Int32)).toNatClampNeg), .int (xs ((0 : Int32) + (5 : Int32)).toNatClampNeg)]) (rest := []) (c_X11_shiftB l D cs ad (ae 6) (ae 7) (ae 12) (ae 13)  H.size (xs ((0 : Int32) + (1 : Int32)).toNatClampNeg) (xs ((0 : Int32) + (2 : Int32)).toNatClampNeg) (xs ((0 : Int32) + (3 : Int32)).toNatClampNeg) (xs ((0 : Int32) + (4 : Int32)).toNatClampNeg) (xs ((0 : Int32) + (5 : Int32)).toNatClampNeg) pf (-1) 0 0 (-1) 0 0 R1 h1) ⟨hx, hb, hml, hown, ht⟩ (cwV 5 ht gl_162 rfl rfl rfl (by decide +kernel) ⟨Nat.le_of_ble_eq_true rfl, Nat.le_of_ble_eq_true rfl⟩) (va_recv hK hP (ci := 11) (q0 := 0) rfl rfl) hP hD hS hK hA [0, 1, 47, 53] [55, 56, 57, 58, 59, 60, 61, 62, 63, 64, 65, 66, 67, 68, 69, 70, 71, 72, 73, 74, 75, 76, 77, 78, 79, 80, 81, 82, 83, 84, 85, 86, 87, 88, 89, 90, 91, 92, 93, 94, 95, 96, 97, 98] rfl rfl law_hR law_nd (law_dis rfl) rfl hl.1 (Nat.le_of_ble_eq_true rfl) dL_law_1453 ⟨Nat.le_of_ble_eq_true rfl, Nat.le_of_ble_eq_true rfl⟩ (fun r1 u1 H locs hq1 hP hD hS => ?_)
      have e1 : r1 = R1.1 := congrArg Prod.fst hq1
      rw [law_fm] at hP hD
      refine lv_aload_n hx hb dL_law_1456 rfl (lv_at hl 2 rfl) ?_
      refine lv_aload_n hx hb dL_law_1457 rfl (lv_at hl 0 rfl) ?_
      refine lv_iload_n hx hb dL_law_1458 rfl (lv_at hl 3 rfl) ?_
      refine lv_iconst (v := (1 : Int32)) hx hb dL_law_1459 (by decide) ?_
      refine lv_iadd hx hb dL_law_1460 ?_
      refine va_sld hx hb hX hbl hbA hS (by unfold vp_in; decide) dL_law_1461 ?_
      refine lv_aload_n hx hb dL_law_1462 rfl (lv_at hl 0 rfl) ?_
      refine lv_iload_n hx hb dL_law_1463 rfl (lv_at hl 3 rfl) ?_
      refine lv_iconst (v := (2 : Int32)) hx hb dL_law_1464 (by decide) ?_
      refine lv_iadd hx hb dL_law_1465 ?_
      refine va_sld hx hb hX hbl hbA hS (by unfold vp_in; decide) dL_law_1466 ?_
      refine lv_aload_n hx hb dL_law_1467 rfl (lv_at hl 0 rfl) ?_
      refine lv_iload_n hx hb dL_law_1468 rfl (lv_at hl 3 rfl) ?_
      refine lv_iconst (v := (3 : Int32)) hx hb dL_law_1469 (by decide) ?_
      refine lv_iadd hx hb dL_law_1470 ?_
      refine va_sld hx hb hX hbl hbA hS (by unfold vp_in; decide) dL_law_1471 ?_
      refine lv_aload_n hx hb dL_law_1472 rfl (lv_at hl 0 rfl) ?_
      refine lv_iload_n hx hb dL_law_1473 rfl (lv_at hl 3 rfl) ?_
      refine lv_iconst (v := (4 : Int32)) hx hb dL_law_1474 (by decide) ?_
      refine lv_iadd hx hb dL_law_1475 ?_
      refine va_sld hx hb hX hbl hbA hS (by unfold vp_in; decide) dL_law_1476 ?_
      refine lv_aload_n hx hb dL_law_1477 rfl (lv_at hl 0 rfl) ?_
      refine lv_iload_n hx hb dL_law_1478 rfl (lv_at hl 3 rfl) ?_
      refine lv_iconst (v := (5 : Int32)) hx hb dL_law_1479 (by decide) ?_
      refine lv_iadd hx hb dL_law_1480 ?_
      refine va_sld hx hb hX hbl hbA hS (by unfold vp_in; decide) dL_law_1481 ?_
      refine zk_vi (post := (fun r u => (r, u) = R2)) (w1 := fun u => (wl_X12_shift am cs 0 0 0 0 0 0 0 0 0 0 0 0 0 0 0 0 0 ((upd (upd (upd (upd (upd (upd (fun _ => 0) ((0 : Int32)).toNatClampNeg (-1 : Int32)) ((1 : Int32)).toNatClampNeg (-1 : Int32)) ((2 : Int32)).toNatClampNeg (-1 : Int32)) ((3 : Int32)).toNatClampNeg (-1 : Int32)) ((4 : Int32)).toNatClampNeg (-1 : Int32)) ((5 : Int32)).toNatClampNeg (-1 : Int32))) ((fun _ => 0)) u.1 u.2)) (As := [.int (xs ((0 : Int32) + (1 : Int32)).toNatClampNeg), .int (xs ((0 : Int32) + (2 : Int32)).toNatClampNeg), .int (xs ((0 : Int32) + (3 : Int32)).toNatClampNeg), .int (xs ((0 : Int32) + (4 : Int32)).toNatClampNeg), .int (xs ((0 : Int32) + (5 : Int32)).toNatClampNeg)]) (rest := [.int r1]) (c_X12_shift l D cs am   H.size 4000 (xs ((0 : Int32) + (1 : Int32)).toNatClampNeg) (xs ((0 : Int32) + (2 : Int32)).toNatClampNeg) (xs ((0 : Int32) + (3 : Int32)).toNatClampNeg) (xs ((0 : Int32) + (4 : Int32)).toNatClampNeg) (xs ((0 : Int32) + (5 : Int32)).toNatClampNeg) 0 0 0 0 0 0 0 0 0 0 0 0 0 0 0 0 0 ((upd (upd (upd (upd (upd (upd (fun _ => 0) ((0 : Int32)).toNatClampNeg (-1 : Int32)) ((1 : Int32)).toNatClampNeg (-1 : Int32)) ((2 : Int32)).toNatClampNeg (-1 : Int32)) ((3 : Int32)).toNatClampNeg (-1 : Int32)) ((4 : Int32)).toNatClampNeg (-1 : Int32)) ((5 : Int32)).toNatClampNeg (-1 : Int32))) ((fun _ => 0)) ((fun _ => 0)) ((fun _ => 0)) R2 h2) ⟨hx, hb, hml, hown, ht⟩ (cwV 5 ht gl_166 rfl rfl rfl (by decide +kernel) ⟨Nat.le_of_ble_eq_true rfl, Nat.le_of_ble_eq_true rfl⟩) (va_recv hK hP (ci := 12) (q0 := 0) rfl rfl) hP hD hS hK hA [0, 40, 41, 42, 43] [] rfl rfl rfl rfl (by decide) rfl hl.1 (Nat.le_of_ble_eq_true rfl) dL_law_1482 ⟨Nat.le_of_ble_eq_true rfl, Nat.le_of_ble_eq_true rfl⟩ (fun r2 u2 H locs hq2 hP hD hS => ?_)
      have e2 : r2 = R2.1 := congrArg Prod.fst hq2
      have EQ : r1 = r2 := by rw [e1, e2]; exact eq
      refine lv_icmp_eq (tgt := 1546) hx hb dL_law_1485 (by decide) (fun cc => ?_) (fun cc => absurd EQ cc)
      exact law_next C0 (by decide) (by decide) H locs ls hS (lv_sub hl [0, 3] rfl)
  · obtain ⟨j1, hj1, hp1⟩ := zk_pl (xs ((0 : Int32) + (3 : Int32)).toNatClampNeg)
    rcases (show j1 = 0 ∨ j1 = 1 ∨ j1 = 2 ∨ j1 = 3 ∨ j1 = 4 ∨ j1 = 5 by omega) with rfl | rfl | rfl | rfl | rfl | rfl
    · obtain ⟨R1, R2, h1, h2, eq⟩ := pe_shift (g := g) (pf := pf) (ae := ae) (wb := wb) GF PF 3 (by omega) 0 (by omega) (xs ((0 : Int32) + (1 : Int32)).toNatClampNeg) (xs ((0 : Int32) + (2 : Int32)).toNatClampNeg) (xs ((0 : Int32) + (3 : Int32)).toNatClampNeg) (xs ((0 : Int32) + (4 : Int32)).toNatClampNeg) (xs ((0 : Int32) + (5 : Int32)).toNatClampNeg) hp0 hp1
      refine lv_aload_n hx hb dL_law_1427 rfl (lv_at hl 1 rfl) ?_
      refine lv_aload_n hx hb dL_law_1428 rfl (lv_at hl 0 rfl) ?_
      refine lv_iload_n hx hb dL_law_1429 rfl (lv_at hl 3 rfl) ?_
      refine lv_iconst (v := (1 : Int32)) hx hb dL_law_1430 (by decide) ?_
      refine lv_iadd hx hb dL_law_1431 ?_
      refine va_sld hx hb hX hbl hbA hS (by unfold vp_in; decide) dL_law_1432 ?_
      refine lv_aload_n hx hb dL_law_1433 rfl (lv_at hl 0 rfl) ?_
      refine lv_iload_n hx hb dL_law_1434 rfl (lv_at hl 3 rfl) ?_
      refine lv_iconst (v := (2 : Int32)) hx hb dL_law_1435 (by decide) ?_
      refine lv_iadd hx hb dL_law_1436 ?_
      refine va_sld hx hb hX hbl hbA hS (by unfold vp_in; decide) dL_law_1437 ?_
      refine lv_aload_n hx hb dL_law_1438 rfl (lv_at hl 0 rfl) ?_
      refine lv_iload_n hx hb dL_law_1439 rfl (lv_at hl 3 rfl) ?_
      refine lv_iconst (v := (3 : Int32)) hx hb dL_law_1440 (by decide) ?_
      refine lv_iadd hx hb dL_law_1441 ?_
      refine va_sld hx hb hX hbl hbA hS (by unfold vp_in; decide) dL_law_1442 ?_
      refine lv_aload_n hx hb dL_law_1443 rfl (lv_at hl 0 rfl) ?_
      refine lv_iload_n hx hb dL_law_1444 rfl (lv_at hl 3 rfl) ?_
      refine lv_iconst (v := (4 : Int32)) hx hb dL_law_1445 (by decide) ?_
      refine lv_iadd hx hb dL_law_1446 ?_
      refine va_sld hx hb hX hbl hbA hS (by unfold vp_in; decide) dL_law_1447 ?_
      refine lv_aload_n hx hb dL_law_1448 rfl (lv_at hl 0 rfl) ?_
      refine lv_iload_n hx hb dL_law_1449 rfl (lv_at hl 3 rfl) ?_
      refine lv_iconst (v := (5 : Int32)) hx hb dL_law_1450 (by decide) ?_
      refine lv_iadd hx hb dL_law_1451 ?_
      refine va_sld hx hb hX hbl hbA hS (by unfold vp_in; decide) dL_law_1452 ?_
      refine zk_vi (post := (fun r u => (r, u) = R1)) (w1 := fun u => (wl_X11_shiftB ad cs (ae 8) (ae 9) (ae 2) (ae 3) pf (-1) 0 0 (-1) 0 0)) (As := [.int (xs ((0 : Int32) + (1 : Int32)).toNatClampNeg), .int (xs ((0 : Int32) + (2 : Int32)).toNatClampNeg), .int (xs ((0 : Int32) + (3 : Int32)).toNatClampNeg), .int (xs ((0 : Int32) + (4 : Int32)).toNatClampNeg), .int (xs ((0 : Int32) + (5 : Int32)).toNatClampNeg)]) (rest := []) (c_X11_shiftB l D cs ad (ae 8) (ae 9) (ae 2) (ae 3)  H.size (xs ((0 : Int32) + (1 : Int32)).toNatClampNeg) (xs ((0 : Int32) + (2 : Int32)).toNatClampNeg) (xs ((0 : Int32) + (3 : Int32)).toNatClampNeg) (xs ((0 : Int32) + (4 : Int32)).toNatClampNeg) (xs ((0 : Int32) + (5 : Int32)).toNatClampNeg) pf (-1) 0 0 (-1) 0 0 R1 h1) ⟨hx, hb, hml, hown, ht⟩ (cwV 5 ht gl_162 rfl rfl rfl (by decide +kernel) ⟨Nat.le_of_ble_eq_true rfl, Nat.le_of_ble_eq_true rfl⟩) (va_recv hK hP (ci := 11) (q0 := 0) rfl rfl) hP hD hS hK hA [0, 1, 49, 43] [55, 56, 57, 58, 59, 60, 61, 62, 63, 64, 65, 66, 67, 68, 69, 70, 71, 72, 73, 74, 75, 76, 77, 78, 79, 80, 81, 82, 83, 84, 85, 86, 87, 88, 89, 90, 91, 92, 93, 94, 95, 96, 97, 98] rfl rfl law_hR law_nd (law_dis rfl) rfl hl.1 (Nat.le_of_ble_eq_true rfl) dL_law_1453 ⟨Nat.le_of_ble_eq_true rfl, Nat.le_of_ble_eq_true rfl⟩ (fun r1 u1 H locs hq1 hP hD hS => ?_)
      have e1 : r1 = R1.1 := congrArg Prod.fst hq1
      rw [law_fm] at hP hD
      refine lv_aload_n hx hb dL_law_1456 rfl (lv_at hl 2 rfl) ?_
      refine lv_aload_n hx hb dL_law_1457 rfl (lv_at hl 0 rfl) ?_
      refine lv_iload_n hx hb dL_law_1458 rfl (lv_at hl 3 rfl) ?_
      refine lv_iconst (v := (1 : Int32)) hx hb dL_law_1459 (by decide) ?_
      refine lv_iadd hx hb dL_law_1460 ?_
      refine va_sld hx hb hX hbl hbA hS (by unfold vp_in; decide) dL_law_1461 ?_
      refine lv_aload_n hx hb dL_law_1462 rfl (lv_at hl 0 rfl) ?_
      refine lv_iload_n hx hb dL_law_1463 rfl (lv_at hl 3 rfl) ?_
      refine lv_iconst (v := (2 : Int32)) hx hb dL_law_1464 (by decide) ?_
      refine lv_iadd hx hb dL_law_1465 ?_
      refine va_sld hx hb hX hbl hbA hS (by unfold vp_in; decide) dL_law_1466 ?_
      refine lv_aload_n hx hb dL_law_1467 rfl (lv_at hl 0 rfl) ?_
      refine lv_iload_n hx hb dL_law_1468 rfl (lv_at hl 3 rfl) ?_
      refine lv_iconst (v := (3 : Int32)) hx hb dL_law_1469 (by decide) ?_
      refine lv_iadd hx hb dL_law_1470 ?_
      refine va_sld hx hb hX hbl hbA hS (by unfold vp_in; decide) dL_law_1471 ?_
      refine lv_aload_n hx hb dL_law_1472 rfl (lv_at hl 0 rfl) ?_
      refine lv_iload_n hx hb dL_law_1473 rfl (lv_at hl 3 rfl) ?_
      refine lv_iconst (v := (4 : Int32)) hx hb dL_law_1474 (by decide) ?_
      refine lv_iadd hx hb dL_law_1475 ?_
      refine va_sld hx hb hX hbl hbA hS (by unfold vp_in; decide) dL_law_1476 ?_
      refine lv_aload_n hx hb dL_law_1477 rfl (lv_at hl 0 rfl) ?_
      refine lv_iload_n hx hb dL_law_1478 rfl (lv_at hl 3 rfl) ?_
      refine lv_iconst (v := (5 : Int32)) hx hb dL_law_1479 (by decide) ?_
      refine lv_iadd hx hb dL_law_1480 ?_
      refine va_sld hx hb hX hbl hbA hS (by unfold vp_in; decide) dL_law_1481 ?_
      refine zk_vi (post := (fun r u => (r, u) = R2)) (w1 := fun u => (wl_X12_shift am cs 0 0 0 0 0 0 0 0 0 0 0 0 0 0 0 0 0 ((upd (upd (upd (upd (upd (upd (fun _ => 0) ((0 : Int32)).toNatClampNeg (-1 : Int32)) ((1 : Int32)).toNatClampNeg (-1 : Int32)) ((2 : Int32)).toNatClampNeg (-1 : Int32)) ((3 : Int32)).toNatClampNeg (-1 : Int32)) ((4 : Int32)).toNatClampNeg (-1 : Int32)) ((5 : Int32)).toNatClampNeg (-1 : Int32))) ((fun _ => 0)) u.1 u.2)) (As := [.int (xs ((0 : Int32) + (1 : Int32)).toNatClampNeg), .int (xs ((0 : Int32) + (2 : Int32)).toNatClampNeg), .int (xs ((0 : Int32) + (3 : Int32)).toNatClampNeg), .int (xs ((0 : Int32) + (4 : Int32)).toNatClampNeg), .int (xs ((0 : Int32) + (5 : Int32)).toNatClampNeg)]) (rest := [.int r1]) (c_X12_shift l D cs am   H.size 4000 (xs ((0 : Int32) + (1 : Int32)).toNatClampNeg) (xs ((0 : Int32) + (2 : Int32)).toNatClampNeg) (xs ((0 : Int32) + (3 : Int32)).toNatClampNeg) (xs ((0 : Int32) + (4 : Int32)).toNatClampNeg) (xs ((0 : Int32) + (5 : Int32)).toNatClampNeg) 0 0 0 0 0 0 0 0 0 0 0 0 0 0 0 0 0 ((upd (upd (upd (upd (upd (upd (fun _ => 0) ((0 : Int32)).toNatClampNeg (-1 : Int32)) ((1 : Int32)).toNatClampNeg (-1 : Int32)) ((2 : Int32)).toNatClampNeg (-1 : Int32)) ((3 : Int32)).toNatClampNeg (-1 : Int32)) ((4 : Int32)).toNatClampNeg (-1 : Int32)) ((5 : Int32)).toNatClampNeg (-1 : Int32))) ((fun _ => 0)) ((fun _ => 0)) ((fun _ => 0)) R2 h2) ⟨hx, hb, hml, hown, ht⟩ (cwV 5 ht gl_166 rfl rfl rfl (by decide +kernel) ⟨Nat.le_of_ble_eq_true rfl, Nat.le_of_ble_eq_true rfl⟩) (va_recv hK hP (ci := 12) (q0 := 0) rfl rfl) hP hD hS hK hA [0, 40, 41, 42, 43] [] rfl rfl rfl rfl (by decide) rfl hl.1 (Nat.le_of_ble_eq_true rfl) dL_law_1482 ⟨Nat.le_of_ble_eq_true rfl, Nat.le_of_ble_eq_true rfl⟩ (fun r2 u2 H locs hq2 hP hD hS => ?_)
      have e2 : r2 = R2.1 := congrArg Prod.fst hq2
      have EQ : r1 = r2 := by rw [e1, e2]; exact eq
      refine lv_icmp_eq (tgt := 1546) hx hb dL_law_1485 (by decide) (fun cc => ?_) (fun cc => absurd EQ cc)
      exact law_next C0 (by decide) (by decide) H locs ls hS (lv_sub hl [0, 3] rfl)
    · obtain ⟨R1, R2, h1, h2, eq⟩ := pe_shift (g := g) (pf := pf) (ae := ae) (wb := wb) GF PF 3 (by omega) 1 (by omega) (xs ((0 : Int32) + (1 : Int32)).toNatClampNeg) (xs ((0 : Int32) + (2 : Int32)).toNatClampNeg) (xs ((0 : Int32) + (3 : Int32)).toNatClampNeg) (xs ((0 : Int32) + (4 : Int32)).toNatClampNeg) (xs ((0 : Int32) + (5 : Int32)).toNatClampNeg) hp0 hp1
      refine lv_aload_n hx hb dL_law_1427 rfl (lv_at hl 1 rfl) ?_
      refine lv_aload_n hx hb dL_law_1428 rfl (lv_at hl 0 rfl) ?_
      refine lv_iload_n hx hb dL_law_1429 rfl (lv_at hl 3 rfl) ?_
      refine lv_iconst (v := (1 : Int32)) hx hb dL_law_1430 (by decide) ?_
      refine lv_iadd hx hb dL_law_1431 ?_
      refine va_sld hx hb hX hbl hbA hS (by unfold vp_in; decide) dL_law_1432 ?_
      refine lv_aload_n hx hb dL_law_1433 rfl (lv_at hl 0 rfl) ?_
      refine lv_iload_n hx hb dL_law_1434 rfl (lv_at hl 3 rfl) ?_
      refine lv_iconst (v := (2 : Int32)) hx hb dL_law_1435 (by decide) ?_
      refine lv_iadd hx hb dL_law_1436 ?_
      refine va_sld hx hb hX hbl hbA hS (by unfold vp_in; decide) dL_law_1437 ?_
      refine lv_aload_n hx hb dL_law_1438 rfl (lv_at hl 0 rfl) ?_
      refine lv_iload_n hx hb dL_law_1439 rfl (lv_at hl 3 rfl) ?_
      refine lv_iconst (v := (3 : Int32)) hx hb dL_law_1440 (by decide) ?_
      refine lv_iadd hx hb dL_law_1441 ?_
      refine va_sld hx hb hX hbl hbA hS (by unfold vp_in; decide) dL_law_1442 ?_
      refine lv_aload_n hx hb dL_law_1443 rfl (lv_at hl 0 rfl) ?_
      refine lv_iload_n hx hb dL_law_1444 rfl (lv_at hl 3 rfl) ?_
      refine lv_iconst (v := (4 : Int32)) hx hb dL_law_1445 (by decide) ?_
      refine lv_iadd hx hb dL_law_1446 ?_
      refine va_sld hx hb hX hbl hbA hS (by unfold vp_in; decide) dL_law_1447 ?_
      refine lv_aload_n hx hb dL_law_1448 rfl (lv_at hl 0 rfl) ?_
      refine lv_iload_n hx hb dL_law_1449 rfl (lv_at hl 3 rfl) ?_
      refine lv_iconst (v := (5 : Int32)) hx hb dL_law_1450 (by decide) ?_
      refine lv_iadd hx hb dL_law_1451 ?_
      refine va_sld hx hb hX hbl hbA hS (by unfold vp_in; decide) dL_law_1452 ?_
      refine zk_vi (post := (fun r u => (r, u) = R1)) (w1 := fun u => (wl_X11_shiftB ad cs (ae 8) (ae 9) (ae 4) (ae 5) pf (-1) 0 0 (-1) 0 0)) (As := [.int (xs ((0 : Int32) + (1 : Int32)).toNatClampNeg), .int (xs ((0 : Int32) + (2 : Int32)).toNatClampNeg), .int (xs ((0 : Int32) + (3 : Int32)).toNatClampNeg), .int (xs ((0 : Int32) + (4 : Int32)).toNatClampNeg), .int (xs ((0 : Int32) + (5 : Int32)).toNatClampNeg)]) (rest := []) (c_X11_shiftB l D cs ad (ae 8) (ae 9) (ae 4) (ae 5)  H.size (xs ((0 : Int32) + (1 : Int32)).toNatClampNeg) (xs ((0 : Int32) + (2 : Int32)).toNatClampNeg) (xs ((0 : Int32) + (3 : Int32)).toNatClampNeg) (xs ((0 : Int32) + (4 : Int32)).toNatClampNeg) (xs ((0 : Int32) + (5 : Int32)).toNatClampNeg) pf (-1) 0 0 (-1) 0 0 R1 h1) ⟨hx, hb, hml, hown, ht⟩ (cwV 5 ht gl_162 rfl rfl rfl (by decide +kernel) ⟨Nat.le_of_ble_eq_true rfl, Nat.le_of_ble_eq_true rfl⟩) (va_recv hK hP (ci := 11) (q0 := 0) rfl rfl) hP hD hS hK hA [0, 1, 49, 45] [55, 56, 57, 58, 59, 60, 61, 62, 63, 64, 65, 66, 67, 68, 69, 70, 71, 72, 73, 74, 75, 76, 77, 78, 79, 80, 81, 82, 83, 84, 85, 86, 87, 88, 89, 90, 91, 92, 93, 94, 95, 96, 97, 98] rfl rfl law_hR law_nd (law_dis rfl) rfl hl.1 (Nat.le_of_ble_eq_true rfl) dL_law_1453 ⟨Nat.le_of_ble_eq_true rfl, Nat.le_of_ble_eq_true rfl⟩ (fun r1 u1 H locs hq1 hP hD hS => ?_)
      have e1 : r1 = R1.1 := congrArg Prod.fst hq1
      rw [law_fm] at hP hD
      refine lv_aload_n hx hb dL_law_1456 rfl (lv_at hl 2 rfl) ?_
      refine lv_aload_n hx hb dL_law_1457 rfl (lv_at hl 0 rfl) ?_
      refine lv_iload_n hx hb dL_law_1458 rfl (lv_at hl 3 rfl) ?_
      refine lv_iconst (v := (1 : Int32)) hx hb dL_law_1459 (by decide) ?_
      refine lv_iadd hx hb dL_law_1460 ?_
      refine va_sld hx hb hX hbl hbA hS (by unfold vp_in; decide) dL_law_1461 ?_
      refine lv_aload_n hx hb dL_law_1462 rfl (lv_at hl 0 rfl) ?_
      refine lv_iload_n hx hb dL_law_1463 rfl (lv_at hl 3 rfl) ?_
      refine lv_iconst (v := (2 : Int32)) hx hb dL_law_1464 (by decide) ?_
      refine lv_iadd hx hb dL_law_1465 ?_
      refine va_sld hx hb hX hbl hbA hS (by unfold vp_in; decide) dL_law_1466 ?_
      refine lv_aload_n hx hb dL_law_1467 rfl (lv_at hl 0 rfl) ?_
      refine lv_iload_n hx hb dL_law_1468 rfl (lv_at hl 3 rfl) ?_
      refine lv_iconst (v := (3 : Int32)) hx hb dL_law_1469 (by decide) ?_
      refine lv_iadd hx hb dL_law_1470 ?_
      refine va_sld hx hb hX hbl hbA hS (by unfold vp_in; decide) dL_law_1471 ?_
      refine lv_aload_n hx hb dL_law_1472 rfl (lv_at hl 0 rfl) ?_
      refine lv_iload_n hx hb dL_law_1473 rfl (lv_at hl 3 rfl) ?_
      refine lv_iconst (v := (4 : Int32)) hx hb dL_law_1474 (by decide) ?_
      refine lv_iadd hx hb dL_law_1475 ?_
      refine va_sld hx hb hX hbl hbA hS (by unfold vp_in; decide) dL_law_1476 ?_
      refine lv_aload_n hx hb dL_law_1477 rfl (lv_at hl 0 rfl) ?_
      refine lv_iload_n hx hb dL_law_1478 rfl (lv_at hl 3 rfl) ?_
      refine lv_iconst (v := (5 : Int32)) hx hb dL_law_1479 (by decide) ?_
      refine lv_iadd hx hb dL_law_1480 ?_
      refine va_sld hx hb hX hbl hbA hS (by unfold vp_in; decide) dL_law_1481 ?_
      refine zk_vi (post := (fun r u => (r, u) = R2)) (w1 := fun u => (wl_X12_shift am cs 0 0 0 0 0 0 0 0 0 0 0 0 0 0 0 0 0 ((upd (upd (upd (upd (upd (upd (fun _ => 0) ((0 : Int32)).toNatClampNeg (-1 : Int32)) ((1 : Int32)).toNatClampNeg (-1 : Int32)) ((2 : Int32)).toNatClampNeg (-1 : Int32)) ((3 : Int32)).toNatClampNeg (-1 : Int32)) ((4 : Int32)).toNatClampNeg (-1 : Int32)) ((5 : Int32)).toNatClampNeg (-1 : Int32))) ((fun _ => 0)) u.1 u.2)) (As := [.int (xs ((0 : Int32) + (1 : Int32)).toNatClampNeg), .int (xs ((0 : Int32) + (2 : Int32)).toNatClampNeg), .int (xs ((0 : Int32) + (3 : Int32)).toNatClampNeg), .int (xs ((0 : Int32) + (4 : Int32)).toNatClampNeg), .int (xs ((0 : Int32) + (5 : Int32)).toNatClampNeg)]) (rest := [.int r1]) (c_X12_shift l D cs am   H.size 4000 (xs ((0 : Int32) + (1 : Int32)).toNatClampNeg) (xs ((0 : Int32) + (2 : Int32)).toNatClampNeg) (xs ((0 : Int32) + (3 : Int32)).toNatClampNeg) (xs ((0 : Int32) + (4 : Int32)).toNatClampNeg) (xs ((0 : Int32) + (5 : Int32)).toNatClampNeg) 0 0 0 0 0 0 0 0 0 0 0 0 0 0 0 0 0 ((upd (upd (upd (upd (upd (upd (fun _ => 0) ((0 : Int32)).toNatClampNeg (-1 : Int32)) ((1 : Int32)).toNatClampNeg (-1 : Int32)) ((2 : Int32)).toNatClampNeg (-1 : Int32)) ((3 : Int32)).toNatClampNeg (-1 : Int32)) ((4 : Int32)).toNatClampNeg (-1 : Int32)) ((5 : Int32)).toNatClampNeg (-1 : Int32))) ((fun _ => 0)) ((fun _ => 0)) ((fun _ => 0)) R2 h2) ⟨hx, hb, hml, hown, ht⟩ (cwV 5 ht gl_166 rfl rfl rfl (by decide +kernel) ⟨Nat.le_of_ble_eq_true rfl, Nat.le_of_ble_eq_true rfl⟩) (va_recv hK hP (ci := 12) (q0 := 0) rfl rfl) hP hD hS hK hA [0, 40, 41, 42, 43] [] rfl rfl rfl rfl (by decide) rfl hl.1 (Nat.le_of_ble_eq_true rfl) dL_law_1482 ⟨Nat.le_of_ble_eq_true rfl, Nat.le_of_ble_eq_true rfl⟩ (fun r2 u2 H locs hq2 hP hD hS => ?_)
      have e2 : r2 = R2.1 := congrArg Prod.fst hq2
      have EQ : r1 = r2 := by rw [e1, e2]; exact eq
      refine lv_icmp_eq (tgt := 1546) hx hb dL_law_1485 (by decide) (fun cc => ?_) (fun cc => absurd EQ cc)
      exact law_next C0 (by decide) (by decide) H locs ls hS (lv_sub hl [0, 3] rfl)
    · obtain ⟨R1, R2, h1, h2, eq⟩ := pe_shift (g := g) (pf := pf) (ae := ae) (wb := wb) GF PF 3 (by omega) 2 (by omega) (xs ((0 : Int32) + (1 : Int32)).toNatClampNeg) (xs ((0 : Int32) + (2 : Int32)).toNatClampNeg) (xs ((0 : Int32) + (3 : Int32)).toNatClampNeg) (xs ((0 : Int32) + (4 : Int32)).toNatClampNeg) (xs ((0 : Int32) + (5 : Int32)).toNatClampNeg) hp0 hp1
      refine lv_aload_n hx hb dL_law_1427 rfl (lv_at hl 1 rfl) ?_
      refine lv_aload_n hx hb dL_law_1428 rfl (lv_at hl 0 rfl) ?_
      refine lv_iload_n hx hb dL_law_1429 rfl (lv_at hl 3 rfl) ?_
      refine lv_iconst (v := (1 : Int32)) hx hb dL_law_1430 (by decide) ?_
      refine lv_iadd hx hb dL_law_1431 ?_
      refine va_sld hx hb hX hbl hbA hS (by unfold vp_in; decide) dL_law_1432 ?_
      refine lv_aload_n hx hb dL_law_1433 rfl (lv_at hl 0 rfl) ?_
      refine lv_iload_n hx hb dL_law_1434 rfl (lv_at hl 3 rfl) ?_
      refine lv_iconst (v := (2 : Int32)) hx hb dL_law_1435 (by decide) ?_
      refine lv_iadd hx hb dL_law_1436 ?_
      refine va_sld hx hb hX hbl hbA hS (by unfold vp_in; decide) dL_law_1437 ?_
      refine lv_aload_n hx hb dL_law_1438 rfl (lv_at hl 0 rfl) ?_
      refine lv_iload_n hx hb dL_law_1439 rfl (lv_at hl 3 rfl) ?_
      refine lv_iconst (v := (3 : Int32)) hx hb dL_law_1440 (by decide) ?_
      refine lv_iadd hx hb dL_law_1441 ?_
      refine va_sld hx hb hX hbl hbA hS (by unfold vp_in; decide) dL_law_1442 ?_
      refine lv_aload_n hx hb dL_law_1443 rfl (lv_at hl 0 rfl) ?_
      refine lv_iload_n hx hb dL_law_1444 rfl (lv_at hl 3 rfl) ?_
      refine lv_iconst (v := (4 : Int32)) hx hb dL_law_1445 (by decide) ?_
      refine lv_iadd hx hb dL_law_1446 ?_
      refine va_sld hx hb hX hbl hbA hS (by unfold vp_in; decide) dL_law_1447 ?_
      refine lv_aload_n hx hb dL_law_1448 rfl (lv_at hl 0 rfl) ?_
      refine lv_iload_n hx hb dL_law_1449 rfl (lv_at hl 3 rfl) ?_
      refine lv_iconst (v := (5 : Int32)) hx hb dL_law_1450 (by decide) ?_
      refine lv_iadd hx hb dL_law_1451 ?_
      refine va_sld hx hb hX hbl hbA hS (by unfold vp_in; decide) dL_law_1452 ?_
      refine zk_vi (post := (fun r u => (r, u) = R1)) (w1 := fun u => (wl_X11_shiftB ad cs (ae 8) (ae 9) (ae 6) (ae 7) pf (-1) 0 0 (-1) 0 0)) (As := [.int (xs ((0 : Int32) + (1 : Int32)).toNatClampNeg), .int (xs ((0 : Int32) + (2 : Int32)).toNatClampNeg), .int (xs ((0 : Int32) + (3 : Int32)).toNatClampNeg), .int (xs ((0 : Int32) + (4 : Int32)).toNatClampNeg), .int (xs ((0 : Int32) + (5 : Int32)).toNatClampNeg)]) (rest := []) (c_X11_shiftB l D cs ad (ae 8) (ae 9) (ae 6) (ae 7)  H.size (xs ((0 : Int32) + (1 : Int32)).toNatClampNeg) (xs ((0 : Int32) + (2 : Int32)).toNatClampNeg) (xs ((0 : Int32) + (3 : Int32)).toNatClampNeg) (xs ((0 : Int32) + (4 : Int32)).toNatClampNeg) (xs ((0 : Int32) + (5 : Int32)).toNatClampNeg) pf (-1) 0 0 (-1) 0 0 R1 h1) ⟨hx, hb, hml, hown, ht⟩ (cwV 5 ht gl_162 rfl rfl rfl (by decide +kernel) ⟨Nat.le_of_ble_eq_true rfl, Nat.le_of_ble_eq_true rfl⟩) (va_recv hK hP (ci := 11) (q0 := 0) rfl rfl) hP hD hS hK hA [0, 1, 49, 47] [55, 56, 57, 58, 59, 60, 61, 62, 63, 64, 65, 66, 67, 68, 69, 70, 71, 72, 73, 74, 75, 76, 77, 78, 79, 80, 81, 82, 83, 84, 85, 86, 87, 88, 89, 90, 91, 92, 93, 94, 95, 96, 97, 98] rfl rfl law_hR law_nd (law_dis rfl) rfl hl.1 (Nat.le_of_ble_eq_true rfl) dL_law_1453 ⟨Nat.le_of_ble_eq_true rfl, Nat.le_of_ble_eq_true rfl⟩ (fun r1 u1 H locs hq1 hP hD hS => ?_)
      have e1 : r1 = R1.1 := congrArg Prod.fst hq1
      rw [law_fm] at hP hD
      refine lv_aload_n hx hb dL_law_1456 rfl (lv_at hl 2 rfl) ?_
      refine lv_aload_n hx hb dL_law_1457 rfl (lv_at hl 0 rfl) ?_
      refine lv_iload_n hx hb dL_law_1458 rfl (lv_at hl 3 rfl) ?_
      refine lv_iconst (v := (1 : Int32)) hx hb dL_law_1459 (by decide) ?_
      refine lv_iadd hx hb dL_law_1460 ?_
      refine va_sld hx hb hX hbl hbA hS (by unfold vp_in; decide) dL_law_1461 ?_
      refine lv_aload_n hx hb dL_law_1462 rfl (lv_at hl 0 rfl) ?_
      refine lv_iload_n hx hb dL_law_1463 rfl (lv_at hl 3 rfl) ?_
      refine lv_iconst (v := (2 : Int32)) hx hb dL_law_1464 (by decide) ?_
      refine lv_iadd hx hb dL_law_1465 ?_
      refine va_sld hx hb hX hbl hbA hS (by unfold vp_in; decide) dL_law_1466 ?_
      refine lv_aload_n hx hb dL_law_1467 rfl (lv_at hl 0 rfl) ?_
      refine lv_iload_n hx hb dL_law_1468 rfl (lv_at hl 3 rfl) ?_
      refine lv_iconst (v := (3 : Int32)) hx hb dL_law_1469 (by decide) ?_
      refine lv_iadd hx hb dL_law_1470 ?_
      refine va_sld hx hb hX hbl hbA hS (by unfold vp_in; decide) dL_law_1471 ?_
      refine lv_aload_n hx hb dL_law_1472 rfl (lv_at hl 0 rfl) ?_
      refine lv_iload_n hx hb dL_law_1473 rfl (lv_at hl 3 rfl) ?_
      refine lv_iconst (v := (4 : Int32)) hx hb dL_law_1474 (by decide) ?_
      refine lv_iadd hx hb dL_law_1475 ?_
      refine va_sld hx hb hX hbl hbA hS (by unfold vp_in; decide) dL_law_1476 ?_
      refine lv_aload_n hx hb dL_law_1477 rfl (lv_at hl 0 rfl) ?_
      refine lv_iload_n hx hb dL_law_1478 rfl (lv_at hl 3 rfl) ?_
      refine lv_iconst (v := (5 : Int32)) hx hb dL_law_1479 (by decide) ?_
      refine lv_iadd hx hb dL_law_1480 ?_
      refine va_sld hx hb hX hbl hbA hS (by unfold vp_in; decide) dL_law_1481 ?_
      refine zk_vi (post := (fun r u => (r, u) = R2)) (w1 := fun u => (wl_X12_shift am cs 0 0 0 0 0 0 0 0 0 0 0 0 0 0 0 0 0 ((upd (upd (upd (upd (upd (upd (fun _ => 0) ((0 : Int32)).toNatClampNeg (-1 : Int32)) ((1 : Int32)).toNatClampNeg (-1 : Int32)) ((2 : Int32)).toNatClampNeg (-1 : Int32)) ((3 : Int32)).toNatClampNeg (-1 : Int32)) ((4 : Int32)).toNatClampNeg (-1 : Int32)) ((5 : Int32)).toNatClampNeg (-1 : Int32))) ((fun _ => 0)) u.1 u.2)) (As := [.int (xs ((0 : Int32) + (1 : Int32)).toNatClampNeg), .int (xs ((0 : Int32) + (2 : Int32)).toNatClampNeg), .int (xs ((0 : Int32) + (3 : Int32)).toNatClampNeg), .int (xs ((0 : Int32) + (4 : Int32)).toNatClampNeg), .int (xs ((0 : Int32) + (5 : Int32)).toNatClampNeg)]) (rest := [.int r1]) (c_X12_shift l D cs am   H.size 4000 (xs ((0 : Int32) + (1 : Int32)).toNatClampNeg) (xs ((0 : Int32) + (2 : Int32)).toNatClampNeg) (xs ((0 : Int32) + (3 : Int32)).toNatClampNeg) (xs ((0 : Int32) + (4 : Int32)).toNatClampNeg) (xs ((0 : Int32) + (5 : Int32)).toNatClampNeg) 0 0 0 0 0 0 0 0 0 0 0 0 0 0 0 0 0 ((upd (upd (upd (upd (upd (upd (fun _ => 0) ((0 : Int32)).toNatClampNeg (-1 : Int32)) ((1 : Int32)).toNatClampNeg (-1 : Int32)) ((2 : Int32)).toNatClampNeg (-1 : Int32)) ((3 : Int32)).toNatClampNeg (-1 : Int32)) ((4 : Int32)).toNatClampNeg (-1 : Int32)) ((5 : Int32)).toNatClampNeg (-1 : Int32))) ((fun _ => 0)) ((fun _ => 0)) ((fun _ => 0)) R2 h2) ⟨hx, hb, hml, hown, ht⟩ (cwV 5 ht gl_166 rfl rfl rfl (by decide +kernel) ⟨Nat.le_of_ble_eq_true rfl, Nat.le_of_ble_eq_true rfl⟩) (va_recv hK hP (ci := 12) (q0 := 0) rfl rfl) hP hD hS hK hA [0, 40, 41, 42, 43] [] rfl rfl rfl rfl (by decide) rfl hl.1 (Nat.le_of_ble_eq_true rfl) dL_law_1482 ⟨Nat.le_of_ble_eq_true rfl, Nat.le_of_ble_eq_true rfl⟩ (fun r2 u2 H locs hq2 hP hD hS => ?_)
      have e2 : r2 = R2.1 := congrArg Prod.fst hq2
      have EQ : r1 = r2 := by rw [e1, e2]; exact eq
      refine lv_icmp_eq (tgt := 1546) hx hb dL_law_1485 (by decide) (fun cc => ?_) (fun cc => absurd EQ cc)
      exact law_next C0 (by decide) (by decide) H locs ls hS (lv_sub hl [0, 3] rfl)
    · obtain ⟨R1, R2, h1, h2, eq⟩ := pe_shiftA (g := g) (pf := pf) (ae := ae) (wb := wb) GF PF 3 (by omega) (xs ((0 : Int32) + (1 : Int32)).toNatClampNeg) (xs ((0 : Int32) + (2 : Int32)).toNatClampNeg) (xs ((0 : Int32) + (3 : Int32)).toNatClampNeg) (xs ((0 : Int32) + (4 : Int32)).toNatClampNeg) (xs ((0 : Int32) + (5 : Int32)).toNatClampNeg) hp0 hp1
      refine lv_aload_n hx hb dL_law_1427 rfl (lv_at hl 1 rfl) ?_
      refine lv_aload_n hx hb dL_law_1428 rfl (lv_at hl 0 rfl) ?_
      refine lv_iload_n hx hb dL_law_1429 rfl (lv_at hl 3 rfl) ?_
      refine lv_iconst (v := (1 : Int32)) hx hb dL_law_1430 (by decide) ?_
      refine lv_iadd hx hb dL_law_1431 ?_
      refine va_sld hx hb hX hbl hbA hS (by unfold vp_in; decide) dL_law_1432 ?_
      refine lv_aload_n hx hb dL_law_1433 rfl (lv_at hl 0 rfl) ?_
      refine lv_iload_n hx hb dL_law_1434 rfl (lv_at hl 3 rfl) ?_
      refine lv_iconst (v := (2 : Int32)) hx hb dL_law_1435 (by decide) ?_
      refine lv_iadd hx hb dL_law_1436 ?_
      refine va_sld hx hb hX hbl hbA hS (by unfold vp_in; decide) dL_law_1437 ?_
      refine lv_aload_n hx hb dL_law_1438 rfl (lv_at hl 0 rfl) ?_
      refine lv_iload_n hx hb dL_law_1439 rfl (lv_at hl 3 rfl) ?_
      refine lv_iconst (v := (3 : Int32)) hx hb dL_law_1440 (by decide) ?_
      refine lv_iadd hx hb dL_law_1441 ?_
      refine va_sld hx hb hX hbl hbA hS (by unfold vp_in; decide) dL_law_1442 ?_
      refine lv_aload_n hx hb dL_law_1443 rfl (lv_at hl 0 rfl) ?_
      refine lv_iload_n hx hb dL_law_1444 rfl (lv_at hl 3 rfl) ?_
      refine lv_iconst (v := (4 : Int32)) hx hb dL_law_1445 (by decide) ?_
      refine lv_iadd hx hb dL_law_1446 ?_
      refine va_sld hx hb hX hbl hbA hS (by unfold vp_in; decide) dL_law_1447 ?_
      refine lv_aload_n hx hb dL_law_1448 rfl (lv_at hl 0 rfl) ?_
      refine lv_iload_n hx hb dL_law_1449 rfl (lv_at hl 3 rfl) ?_
      refine lv_iconst (v := (5 : Int32)) hx hb dL_law_1450 (by decide) ?_
      refine lv_iadd hx hb dL_law_1451 ?_
      refine va_sld hx hb hX hbl hbA hS (by unfold vp_in; decide) dL_law_1452 ?_
      refine zk_vi (post := (fun r u => (r, u) = R1)) (w1 := fun u => (wl_X11_shift ad cs (ae 8) (ae 9) pf (-1) 0 0)) (As := [.int (xs ((0 : Int32) + (1 : Int32)).toNatClampNeg), .int (xs ((0 : Int32) + (2 : Int32)).toNatClampNeg), .int (xs ((0 : Int32) + (3 : Int32)).toNatClampNeg), .int (xs ((0 : Int32) + (4 : Int32)).toNatClampNeg), .int (xs ((0 : Int32) + (5 : Int32)).toNatClampNeg)]) (rest := []) (c_X11_shift l D cs ad (ae 8) (ae 9)  H.size (xs ((0 : Int32) + (1 : Int32)).toNatClampNeg) (xs ((0 : Int32) + (2 : Int32)).toNatClampNeg) (xs ((0 : Int32) + (3 : Int32)).toNatClampNeg) (xs ((0 : Int32) + (4 : Int32)).toNatClampNeg) (xs ((0 : Int32) + (5 : Int32)).toNatClampNeg) pf (-1) 0 0 R1 h1) ⟨hx, hb, hml, hown, ht⟩ (cwV 5 ht gl_162 rfl rfl rfl (by decide +kernel) ⟨Nat.le_of_ble_eq_true rfl, Nat.le_of_ble_eq_true rfl⟩) (va_recv hK hP (ci := 11) (q0 := 0) rfl rfl) hP hD hS hK hA [0, 1, 49] [55, 56, 57, 58, 59, 60, 61, 62, 63, 64, 65, 66, 67, 68, 69, 70, 71, 72, 73, 74, 75, 76, 77, 78, 79, 80, 81, 82, 83, 84, 85, 86, 87, 88, 89, 90, 91, 92, 93, 94, 95, 96, 97, 98] rfl rfl law_hR law_nd (law_dis rfl) rfl hl.1 (Nat.le_of_ble_eq_true rfl) dL_law_1453 ⟨Nat.le_of_ble_eq_true rfl, Nat.le_of_ble_eq_true rfl⟩ (fun r1 u1 H locs hq1 hP hD hS => ?_)
      have e1 : r1 = R1.1 := congrArg Prod.fst hq1
      rw [law_fm] at hP hD
      refine lv_aload_n hx hb dL_law_1456 rfl (lv_at hl 2 rfl) ?_
      refine lv_aload_n hx hb dL_law_1457 rfl (lv_at hl 0 rfl) ?_
      refine lv_iload_n hx hb dL_law_1458 rfl (lv_at hl 3 rfl) ?_
      refine lv_iconst (v := (1 : Int32)) hx hb dL_law_1459 (by decide) ?_
      refine lv_iadd hx hb dL_law_1460 ?_
      refine va_sld hx hb hX hbl hbA hS (by unfold vp_in; decide) dL_law_1461 ?_
      refine lv_aload_n hx hb dL_law_1462 rfl (lv_at hl 0 rfl) ?_
      refine lv_iload_n hx hb dL_law_1463 rfl (lv_at hl 3 rfl) ?_
      refine lv_iconst (v := (2 : Int32)) hx hb dL_law_1464 (by decide) ?_
      refine lv_iadd hx hb dL_law_1465 ?_
      refine va_sld hx hb hX hbl hbA hS (by unfold vp_in; decide) dL_law_1466 ?_
      refine lv_aload_n hx hb dL_law_1467 rfl (lv_at hl 0 rfl) ?_
      refine lv_iload_n hx hb dL_law_1468 rfl (lv_at hl 3 rfl) ?_
      refine lv_iconst (v := (3 : Int32)) hx hb dL_law_1469 (by decide) ?_
      refine lv_iadd hx hb dL_law_1470 ?_
      refine va_sld hx hb hX hbl hbA hS (by unfold vp_in; decide) dL_law_1471 ?_
      refine lv_aload_n hx hb dL_law_1472 rfl (lv_at hl 0 rfl) ?_
      refine lv_iload_n hx hb dL_law_1473 rfl (lv_at hl 3 rfl) ?_
      refine lv_iconst (v := (4 : Int32)) hx hb dL_law_1474 (by decide) ?_
      refine lv_iadd hx hb dL_law_1475 ?_
      refine va_sld hx hb hX hbl hbA hS (by unfold vp_in; decide) dL_law_1476 ?_
      refine lv_aload_n hx hb dL_law_1477 rfl (lv_at hl 0 rfl) ?_
      refine lv_iload_n hx hb dL_law_1478 rfl (lv_at hl 3 rfl) ?_
      refine lv_iconst (v := (5 : Int32)) hx hb dL_law_1479 (by decide) ?_
      refine lv_iadd hx hb dL_law_1480 ?_
      refine va_sld hx hb hX hbl hbA hS (by unfold vp_in; decide) dL_law_1481 ?_
      refine zk_vi (post := (fun r u => (r, u) = R2)) (w1 := fun u => (wl_X12_shift am cs 0 0 0 0 0 0 0 0 0 0 0 0 0 0 0 0 0 ((upd (upd (upd (upd (upd (upd (fun _ => 0) ((0 : Int32)).toNatClampNeg (-1 : Int32)) ((1 : Int32)).toNatClampNeg (-1 : Int32)) ((2 : Int32)).toNatClampNeg (-1 : Int32)) ((3 : Int32)).toNatClampNeg (-1 : Int32)) ((4 : Int32)).toNatClampNeg (-1 : Int32)) ((5 : Int32)).toNatClampNeg (-1 : Int32))) ((fun _ => 0)) u.1 u.2)) (As := [.int (xs ((0 : Int32) + (1 : Int32)).toNatClampNeg), .int (xs ((0 : Int32) + (2 : Int32)).toNatClampNeg), .int (xs ((0 : Int32) + (3 : Int32)).toNatClampNeg), .int (xs ((0 : Int32) + (4 : Int32)).toNatClampNeg), .int (xs ((0 : Int32) + (5 : Int32)).toNatClampNeg)]) (rest := [.int r1]) (c_X12_shift l D cs am   H.size 4000 (xs ((0 : Int32) + (1 : Int32)).toNatClampNeg) (xs ((0 : Int32) + (2 : Int32)).toNatClampNeg) (xs ((0 : Int32) + (3 : Int32)).toNatClampNeg) (xs ((0 : Int32) + (4 : Int32)).toNatClampNeg) (xs ((0 : Int32) + (5 : Int32)).toNatClampNeg) 0 0 0 0 0 0 0 0 0 0 0 0 0 0 0 0 0 ((upd (upd (upd (upd (upd (upd (fun _ => 0) ((0 : Int32)).toNatClampNeg (-1 : Int32)) ((1 : Int32)).toNatClampNeg (-1 : Int32)) ((2 : Int32)).toNatClampNeg (-1 : Int32)) ((3 : Int32)).toNatClampNeg (-1 : Int32)) ((4 : Int32)).toNatClampNeg (-1 : Int32)) ((5 : Int32)).toNatClampNeg (-1 : Int32))) ((fun _ => 0)) ((fun _ => 0)) ((fun _ => 0)) R2 h2) ⟨hx, hb, hml, hown, ht⟩ (cwV 5 ht gl_166 rfl rfl rfl (by decide +kernel) ⟨Nat.le_of_ble_eq_true rfl, Nat.le_of_ble_eq_true rfl⟩) (va_recv hK hP (ci := 12) (q0 := 0) rfl rfl) hP hD hS hK hA [0, 40, 41, 42, 43] [] rfl rfl rfl rfl (by decide) rfl hl.1 (Nat.le_of_ble_eq_true rfl) dL_law_1482 ⟨Nat.le_of_ble_eq_true rfl, Nat.le_of_ble_eq_true rfl⟩ (fun r2 u2 H locs hq2 hP hD hS => ?_)
      have e2 : r2 = R2.1 := congrArg Prod.fst hq2
      have EQ : r1 = r2 := by rw [e1, e2]; exact eq
      refine lv_icmp_eq (tgt := 1546) hx hb dL_law_1485 (by decide) (fun cc => ?_) (fun cc => absurd EQ cc)
      exact law_next C0 (by decide) (by decide) H locs ls hS (lv_sub hl [0, 3] rfl)
    · obtain ⟨R1, R2, h1, h2, eq⟩ := pe_shift (g := g) (pf := pf) (ae := ae) (wb := wb) GF PF 3 (by omega) 4 (by omega) (xs ((0 : Int32) + (1 : Int32)).toNatClampNeg) (xs ((0 : Int32) + (2 : Int32)).toNatClampNeg) (xs ((0 : Int32) + (3 : Int32)).toNatClampNeg) (xs ((0 : Int32) + (4 : Int32)).toNatClampNeg) (xs ((0 : Int32) + (5 : Int32)).toNatClampNeg) hp0 hp1
      refine lv_aload_n hx hb dL_law_1427 rfl (lv_at hl 1 rfl) ?_
      refine lv_aload_n hx hb dL_law_1428 rfl (lv_at hl 0 rfl) ?_
      refine lv_iload_n hx hb dL_law_1429 rfl (lv_at hl 3 rfl) ?_
      refine lv_iconst (v := (1 : Int32)) hx hb dL_law_1430 (by decide) ?_
      refine lv_iadd hx hb dL_law_1431 ?_
      refine va_sld hx hb hX hbl hbA hS (by unfold vp_in; decide) dL_law_1432 ?_
      refine lv_aload_n hx hb dL_law_1433 rfl (lv_at hl 0 rfl) ?_
      refine lv_iload_n hx hb dL_law_1434 rfl (lv_at hl 3 rfl) ?_
      refine lv_iconst (v := (2 : Int32)) hx hb dL_law_1435 (by decide) ?_
      refine lv_iadd hx hb dL_law_1436 ?_
      refine va_sld hx hb hX hbl hbA hS (by unfold vp_in; decide) dL_law_1437 ?_
      refine lv_aload_n hx hb dL_law_1438 rfl (lv_at hl 0 rfl) ?_
      refine lv_iload_n hx hb dL_law_1439 rfl (lv_at hl 3 rfl) ?_
      refine lv_iconst (v := (3 : Int32)) hx hb dL_law_1440 (by decide) ?_
      refine lv_iadd hx hb dL_law_1441 ?_
      refine va_sld hx hb hX hbl hbA hS (by unfold vp_in; decide) dL_law_1442 ?_
      refine lv_aload_n hx hb dL_law_1443 rfl (lv_at hl 0 rfl) ?_
      refine lv_iload_n hx hb dL_law_1444 rfl (lv_at hl 3 rfl) ?_
      refine lv_iconst (v := (4 : Int32)) hx hb dL_law_1445 (by decide) ?_
      refine lv_iadd hx hb dL_law_1446 ?_
      refine va_sld hx hb hX hbl hbA hS (by unfold vp_in; decide) dL_law_1447 ?_
      refine lv_aload_n hx hb dL_law_1448 rfl (lv_at hl 0 rfl) ?_
      refine lv_iload_n hx hb dL_law_1449 rfl (lv_at hl 3 rfl) ?_
      refine lv_iconst (v := (5 : Int32)) hx hb dL_law_1450 (by decide) ?_
      refine lv_iadd hx hb dL_law_1451 ?_
      refine va_sld hx hb hX hbl hbA hS (by unfold vp_in; decide) dL_law_1452 ?_
      refine zk_vi (post := (fun r u => (r, u) = R1)) (w1 := fun u => (wl_X11_shiftB ad cs (ae 8) (ae 9) (ae 10) (ae 11) pf (-1) 0 0 (-1) 0 0)) (As := [.int (xs ((0 : Int32) + (1 : Int32)).toNatClampNeg), .int (xs ((0 : Int32) + (2 : Int32)).toNatClampNeg), .int (xs ((0 : Int32) + (3 : Int32)).toNatClampNeg), .int (xs ((0 : Int32) + (4 : Int32)).toNatClampNeg), .int (xs ((0 : Int32) + (5 : Int32)).toNatClampNeg)]) (rest := []) (c_X11_shiftB l D cs ad (ae 8) (ae 9) (ae 10) (ae 11)  H.size (xs ((0 : Int32) + (1 : Int32)).toNatClampNeg) (xs ((0 : Int32) + (2 : Int32)).toNatClampNeg) (xs ((0 : Int32) + (3 : Int32)).toNatClampNeg) (xs ((0 : Int32) + (4 : Int32)).toNatClampNeg) (xs ((0 : Int32) + (5 : Int32)).toNatClampNeg) pf (-1) 0 0 (-1) 0 0 R1 h1) ⟨hx, hb, hml, hown, ht⟩ (cwV 5 ht gl_162 rfl rfl rfl (by decide +kernel) ⟨Nat.le_of_ble_eq_true rfl, Nat.le_of_ble_eq_true rfl⟩) (va_recv hK hP (ci := 11) (q0 := 0) rfl rfl) hP hD hS hK hA [0, 1, 49, 51] [55, 56, 57, 58, 59, 60, 61, 62, 63, 64, 65, 66, 67, 68, 69, 70, 71, 72, 73, 74, 75, 76, 77, 78, 79, 80, 81, 82, 83, 84, 85, 86, 87, 88, 89, 90, 91, 92, 93, 94, 95, 96, 97, 98] rfl rfl law_hR law_nd (law_dis rfl) rfl hl.1 (Nat.le_of_ble_eq_true rfl) dL_law_1453 ⟨Nat.le_of_ble_eq_true rfl, Nat.le_of_ble_eq_true rfl⟩ (fun r1 u1 H locs hq1 hP hD hS => ?_)
      have e1 : r1 = R1.1 := congrArg Prod.fst hq1
      rw [law_fm] at hP hD
      refine lv_aload_n hx hb dL_law_1456 rfl (lv_at hl 2 rfl) ?_
      refine lv_aload_n hx hb dL_law_1457 rfl (lv_at hl 0 rfl) ?_
      refine lv_iload_n hx hb dL_law_1458 rfl (lv_at hl 3 rfl) ?_
      refine lv_iconst (v := (1 : Int32)) hx hb dL_law_1459 (by decide) ?_
      refine lv_iadd hx hb dL_law_1460 ?_
      refine va_sld hx hb hX hbl hbA hS (by unfold vp_in; decide) dL_law_1461 ?_
      refine lv_aload_n hx hb dL_law_1462 rfl (lv_at hl 0 rfl) ?_
      refine lv_iload_n hx hb dL_law_1463 rfl (lv_at hl 3 rfl) ?_
      refine lv_iconst (v := (2 : Int32)) hx hb dL_law_1464 (by decide) ?_
      refine lv_iadd hx hb dL_law_1465 ?_
      refine va_sld hx hb hX hbl hbA hS (by unfold vp_in; decide) dL_law_1466 ?_
      refine lv_aload_n hx hb dL_law_1467 rfl (lv_at hl 0 rfl) ?_
      refine lv_iload_n hx hb dL_law_1468 rfl (lv_at hl 3 rfl) ?_
      refine lv_iconst (v := (3 : Int32)) hx hb dL_law_1469 (by decide) ?_
      refine lv_iadd hx hb dL_law_1470 ?_
      refine va_sld hx hb hX hbl hbA hS (by unfold vp_in; decide) dL_law_1471 ?_
      refine lv_aload_n hx hb dL_law_1472 rfl (lv_at hl 0 rfl) ?_
      refine lv_iload_n hx hb dL_law_1473 rfl (lv_at hl 3 rfl) ?_
      refine lv_iconst (v := (4 : Int32)) hx hb dL_law_1474 (by decide) ?_
      refine lv_iadd hx hb dL_law_1475 ?_
      refine va_sld hx hb hX hbl hbA hS (by unfold vp_in; decide) dL_law_1476 ?_
      refine lv_aload_n hx hb dL_law_1477 rfl (lv_at hl 0 rfl) ?_
      refine lv_iload_n hx hb dL_law_1478 rfl (lv_at hl 3 rfl) ?_
      refine lv_iconst (v := (5 : Int32)) hx hb dL_law_1479 (by decide) ?_
      refine lv_iadd hx hb dL_law_1480 ?_
      refine va_sld hx hb hX hbl hbA hS (by unfold vp_in; decide) dL_law_1481 ?_
      refine zk_vi (post := (fun r u => (r, u) = R2)) (w1 := fun u => (wl_X12_shift am cs 0 0 0 0 0 0 0 0 0 0 0 0 0 0 0 0 0 ((upd (upd (upd (upd (upd (upd (fun _ => 0) ((0 : Int32)).toNatClampNeg (-1 : Int32)) ((1 : Int32)).toNatClampNeg (-1 : Int32)) ((2 : Int32)).toNatClampNeg (-1 : Int32)) ((3 : Int32)).toNatClampNeg (-1 : Int32)) ((4 : Int32)).toNatClampNeg (-1 : Int32)) ((5 : Int32)).toNatClampNeg (-1 : Int32))) ((fun _ => 0)) u.1 u.2)) (As := [.int (xs ((0 : Int32) + (1 : Int32)).toNatClampNeg), .int (xs ((0 : Int32) + (2 : Int32)).toNatClampNeg), .int (xs ((0 : Int32) + (3 : Int32)).toNatClampNeg), .int (xs ((0 : Int32) + (4 : Int32)).toNatClampNeg), .int (xs ((0 : Int32) + (5 : Int32)).toNatClampNeg)]) (rest := [.int r1]) (c_X12_shift l D cs am   H.size 4000 (xs ((0 : Int32) + (1 : Int32)).toNatClampNeg) (xs ((0 : Int32) + (2 : Int32)).toNatClampNeg) (xs ((0 : Int32) + (3 : Int32)).toNatClampNeg) (xs ((0 : Int32) + (4 : Int32)).toNatClampNeg) (xs ((0 : Int32) + (5 : Int32)).toNatClampNeg) 0 0 0 0 0 0 0 0 0 0 0 0 0 0 0 0 0 ((upd (upd (upd (upd (upd (upd (fun _ => 0) ((0 : Int32)).toNatClampNeg (-1 : Int32)) ((1 : Int32)).toNatClampNeg (-1 : Int32)) ((2 : Int32)).toNatClampNeg (-1 : Int32)) ((3 : Int32)).toNatClampNeg (-1 : Int32)) ((4 : Int32)).toNatClampNeg (-1 : Int32)) ((5 : Int32)).toNatClampNeg (-1 : Int32))) ((fun _ => 0)) ((fun _ => 0)) ((fun _ => 0)) R2 h2) ⟨hx, hb, hml, hown, ht⟩ (cwV 5 ht gl_166 rfl rfl rfl (by decide +kernel) ⟨Nat.le_of_ble_eq_true rfl, Nat.le_of_ble_eq_true rfl⟩) (va_recv hK hP (ci := 12) (q0 := 0) rfl rfl) hP hD hS hK hA [0, 40, 41, 42, 43] [] rfl rfl rfl rfl (by decide) rfl hl.1 (Nat.le_of_ble_eq_true rfl) dL_law_1482 ⟨Nat.le_of_ble_eq_true rfl, Nat.le_of_ble_eq_true rfl⟩ (fun r2 u2 H locs hq2 hP hD hS => ?_)
      have e2 : r2 = R2.1 := congrArg Prod.fst hq2
      have EQ : r1 = r2 := by rw [e1, e2]; exact eq
      refine lv_icmp_eq (tgt := 1546) hx hb dL_law_1485 (by decide) (fun cc => ?_) (fun cc => absurd EQ cc)
      exact law_next C0 (by decide) (by decide) H locs ls hS (lv_sub hl [0, 3] rfl)
    · obtain ⟨R1, R2, h1, h2, eq⟩ := pe_shift (g := g) (pf := pf) (ae := ae) (wb := wb) GF PF 3 (by omega) 5 (by omega) (xs ((0 : Int32) + (1 : Int32)).toNatClampNeg) (xs ((0 : Int32) + (2 : Int32)).toNatClampNeg) (xs ((0 : Int32) + (3 : Int32)).toNatClampNeg) (xs ((0 : Int32) + (4 : Int32)).toNatClampNeg) (xs ((0 : Int32) + (5 : Int32)).toNatClampNeg) hp0 hp1
      refine lv_aload_n hx hb dL_law_1427 rfl (lv_at hl 1 rfl) ?_
      refine lv_aload_n hx hb dL_law_1428 rfl (lv_at hl 0 rfl) ?_
      refine lv_iload_n hx hb dL_law_1429 rfl (lv_at hl 3 rfl) ?_
      refine lv_iconst (v := (1 : Int32)) hx hb dL_law_1430 (by decide) ?_
      refine lv_iadd hx hb dL_law_1431 ?_
      refine va_sld hx hb hX hbl hbA hS (by unfold vp_in; decide) dL_law_1432 ?_
      refine lv_aload_n hx hb dL_law_1433 rfl (lv_at hl 0 rfl) ?_
      refine lv_iload_n hx hb dL_law_1434 rfl (lv_at hl 3 rfl) ?_
      refine lv_iconst (v := (2 : Int32)) hx hb dL_law_1435 (by decide) ?_
      refine lv_iadd hx hb dL_law_1436 ?_
      refine va_sld hx hb hX hbl hbA hS (by unfold vp_in; decide) dL_law_1437 ?_
      refine lv_aload_n hx hb dL_law_1438 rfl (lv_at hl 0 rfl) ?_
      refine lv_iload_n hx hb dL_law_1439 rfl (lv_at hl 3 rfl) ?_
      refine lv_iconst (v := (3 : Int32)) hx hb dL_law_1440 (by decide) ?_
      refine lv_iadd hx hb dL_law_1441 ?_
      refine va_sld hx hb hX hbl hbA hS (by unfold vp_in; decide) dL_law_1442 ?_
      refine lv_aload_n hx hb dL_law_1443 rfl (lv_at hl 0 rfl) ?_
      refine lv_iload_n hx hb dL_law_1444 rfl (lv_at hl 3 rfl) ?_
      refine lv_iconst (v := (4 : Int32)) hx hb dL_law_1445 (by decide) ?_
      refine lv_iadd hx hb dL_law_1446 ?_
      refine va_sld hx hb hX hbl hbA hS (by unfold vp_in; decide) dL_law_1447 ?_
      refine lv_aload_n hx hb dL_law_1448 rfl (lv_at hl 0 rfl) ?_
      refine lv_iload_n hx hb dL_law_1449 rfl (lv_at hl 3 rfl) ?_
      refine lv_iconst (v := (5 : Int32)) hx hb dL_law_1450 (by decide) ?_
      refine lv_iadd hx hb dL_law_1451 ?_
      refine va_sld hx hb hX hbl hbA hS (by unfold vp_in; decide) dL_law_1452 ?_
      refine zk_vi (post := (fun r u => (r, u) = R1)) (w1 := fun u => (wl_X11_shiftB ad cs (ae 8) (ae 9) (ae 12) (ae 13) pf (-1) 0 0 (-1) 0 0)) (As := [.int (xs ((0 : Int32) + (1 : Int32)).toNatClampNeg), .int (xs ((0 : Int32) + (2 : Int32)).toNatClampNeg), .int (xs ((0 : Int32) + (3 : Int32)).toNatClampNeg), .int (xs ((0 : Int32) + (4 : Int32)).toNatClampNeg), .int (xs ((0 : Int32) + (5 : Int32)).toNatClampNeg)]) (rest := []) (c_X11_shiftB l D cs ad (ae 8) (ae 9) (ae 12) (ae 13)  H.size (xs ((0 : Int32) + (1 : Int32)).toNatClampNeg) (xs ((0 : Int32) + (2 : Int32)).toNatClampNeg) (xs ((0 : Int32) + (3 : Int32)).toNatClampNeg) (xs ((0 : Int32) + (4 : Int32)).toNatClampNeg) (xs ((0 : Int32) + (5 : Int32)).toNatClampNeg) pf (-1) 0 0 (-1) 0 0 R1 h1) ⟨hx, hb, hml, hown, ht⟩ (cwV 5 ht gl_162 rfl rfl rfl (by decide +kernel) ⟨Nat.le_of_ble_eq_true rfl, Nat.le_of_ble_eq_true rfl⟩) (va_recv hK hP (ci := 11) (q0 := 0) rfl rfl) hP hD hS hK hA [0, 1, 49, 53] [55, 56, 57, 58, 59, 60, 61, 62, 63, 64, 65, 66, 67, 68, 69, 70, 71, 72, 73, 74, 75, 76, 77, 78, 79, 80, 81, 82, 83, 84, 85, 86, 87, 88, 89, 90, 91, 92, 93, 94, 95, 96, 97, 98] rfl rfl law_hR law_nd (law_dis rfl) rfl hl.1 (Nat.le_of_ble_eq_true rfl) dL_law_1453 ⟨Nat.le_of_ble_eq_true rfl, Nat.le_of_ble_eq_true rfl⟩ (fun r1 u1 H locs hq1 hP hD hS => ?_)
      have e1 : r1 = R1.1 := congrArg Prod.fst hq1
      rw [law_fm] at hP hD
      refine lv_aload_n hx hb dL_law_1456 rfl (lv_at hl 2 rfl) ?_
      refine lv_aload_n hx hb dL_law_1457 rfl (lv_at hl 0 rfl) ?_
      refine lv_iload_n hx hb dL_law_1458 rfl (lv_at hl 3 rfl) ?_
      refine lv_iconst (v := (1 : Int32)) hx hb dL_law_1459 (by decide) ?_
      refine lv_iadd hx hb dL_law_1460 ?_
      refine va_sld hx hb hX hbl hbA hS (by unfold vp_in; decide) dL_law_1461 ?_
      refine lv_aload_n hx hb dL_law_1462 rfl (lv_at hl 0 rfl) ?_
      refine lv_iload_n hx hb dL_law_1463 rfl (lv_at hl 3 rfl) ?_
      refine lv_iconst (v := (2 : Int32)) hx hb dL_law_1464 (by decide) ?_
      refine lv_iadd hx hb dL_law_1465 ?_
      refine va_sld hx hb hX hbl hbA hS (by unfold vp_in; decide) dL_law_1466 ?_
      refine lv_aload_n hx hb dL_law_1467 rfl (lv_at hl 0 rfl) ?_
      refine lv_iload_n hx hb dL_law_1468 rfl (lv_at hl 3 rfl) ?_
      refine lv_iconst (v := (3 : Int32)) hx hb dL_law_1469 (by decide) ?_
      refine lv_iadd hx hb dL_law_1470 ?_
      refine va_sld hx hb hX hbl hbA hS (by unfold vp_in; decide) dL_law_1471 ?_
      refine lv_aload_n hx hb dL_law_1472 rfl (lv_at hl 0 rfl) ?_
      refine lv_iload_n hx hb dL_law_1473 rfl (lv_at hl 3 rfl) ?_
      refine lv_iconst (v := (4 : Int32)) hx hb dL_law_1474 (by decide) ?_
      refine lv_iadd hx hb dL_law_1475 ?_
      refine va_sld hx hb hX hbl hbA hS (by unfold vp_in; decide) dL_law_1476 ?_
      refine lv_aload_n hx hb dL_law_1477 rfl (lv_at hl 0 rfl) ?_
      refine lv_iload_n hx hb dL_law_1478 rfl (lv_at hl 3 rfl) ?_
      refine lv_iconst (v := (5 : Int32)) hx hb dL_law_1479 (by decide) ?_
      refine lv_iadd hx hb dL_law_1480 ?_
      refine va_sld hx hb hX hbl hbA hS (by unfold vp_in; decide) dL_law_1481 ?_
      refine zk_vi (post := (fun r u => (r, u) = R2)) (w1 := fun u => (wl_X12_shift am cs 0 0 0 0 0 0 0 0 0 0 0 0 0 0 0 0 0 ((upd (upd (upd (upd (upd (upd (fun _ => 0) ((0 : Int32)).toNatClampNeg (-1 : Int32)) ((1 : Int32)).toNatClampNeg (-1 : Int32)) ((2 : Int32)).toNatClampNeg (-1 : Int32)) ((3 : Int32)).toNatClampNeg (-1 : Int32)) ((4 : Int32)).toNatClampNeg (-1 : Int32)) ((5 : Int32)).toNatClampNeg (-1 : Int32))) ((fun _ => 0)) u.1 u.2)) (As := [.int (xs ((0 : Int32) + (1 : Int32)).toNatClampNeg), .int (xs ((0 : Int32) + (2 : Int32)).toNatClampNeg), .int (xs ((0 : Int32) + (3 : Int32)).toNatClampNeg), .int (xs ((0 : Int32) + (4 : Int32)).toNatClampNeg), .int (xs ((0 : Int32) + (5 : Int32)).toNatClampNeg)]) (rest := [.int r1]) (c_X12_shift l D cs am   H.size 4000 (xs ((0 : Int32) + (1 : Int32)).toNatClampNeg) (xs ((0 : Int32) + (2 : Int32)).toNatClampNeg) (xs ((0 : Int32) + (3 : Int32)).toNatClampNeg) (xs ((0 : Int32) + (4 : Int32)).toNatClampNeg) (xs ((0 : Int32) + (5 : Int32)).toNatClampNeg) 0 0 0 0 0 0 0 0 0 0 0 0 0 0 0 0 0 ((upd (upd (upd (upd (upd (upd (fun _ => 0) ((0 : Int32)).toNatClampNeg (-1 : Int32)) ((1 : Int32)).toNatClampNeg (-1 : Int32)) ((2 : Int32)).toNatClampNeg (-1 : Int32)) ((3 : Int32)).toNatClampNeg (-1 : Int32)) ((4 : Int32)).toNatClampNeg (-1 : Int32)) ((5 : Int32)).toNatClampNeg (-1 : Int32))) ((fun _ => 0)) ((fun _ => 0)) ((fun _ => 0)) R2 h2) ⟨hx, hb, hml, hown, ht⟩ (cwV 5 ht gl_166 rfl rfl rfl (by decide +kernel) ⟨Nat.le_of_ble_eq_true rfl, Nat.le_of_ble_eq_true rfl⟩) (va_recv hK hP (ci := 12) (q0 := 0) rfl rfl) hP hD hS hK hA [0, 40, 41, 42, 43] [] rfl rfl rfl rfl (by decide) rfl hl.1 (Nat.le_of_ble_eq_true rfl) dL_law_1482 ⟨Nat.le_of_ble_eq_true rfl, Nat.le_of_ble_eq_true rfl⟩ (fun r2 u2 H locs hq2 hP hD hS => ?_)
      have e2 : r2 = R2.1 := congrArg Prod.fst hq2
      have EQ : r1 = r2 := by rw [e1, e2]; exact eq
      refine lv_icmp_eq (tgt := 1546) hx hb dL_law_1485 (by decide) (fun cc => ?_) (fun cc => absurd EQ cc)
      exact law_next C0 (by decide) (by decide) H locs ls hS (lv_sub hl [0, 3] rfl)
  · obtain ⟨j1, hj1, hp1⟩ := zk_pl (xs ((0 : Int32) + (3 : Int32)).toNatClampNeg)
    rcases (show j1 = 0 ∨ j1 = 1 ∨ j1 = 2 ∨ j1 = 3 ∨ j1 = 4 ∨ j1 = 5 by omega) with rfl | rfl | rfl | rfl | rfl | rfl
    · obtain ⟨R1, R2, h1, h2, eq⟩ := pe_shift (g := g) (pf := pf) (ae := ae) (wb := wb) GF PF 4 (by omega) 0 (by omega) (xs ((0 : Int32) + (1 : Int32)).toNatClampNeg) (xs ((0 : Int32) + (2 : Int32)).toNatClampNeg) (xs ((0 : Int32) + (3 : Int32)).toNatClampNeg) (xs ((0 : Int32) + (4 : Int32)).toNatClampNeg) (xs ((0 : Int32) + (5 : Int32)).toNatClampNeg) hp0 hp1
      refine lv_aload_n hx hb dL_law_1427 rfl (lv_at hl 1 rfl) ?_
      refine lv_aload_n hx hb dL_law_1428 rfl (lv_at hl 0 rfl) ?_
      refine lv_iload_n hx hb dL_law_1429 rfl (lv_at hl 3 rfl) ?_
      refine lv_iconst (v := (1 : Int32)) hx hb dL_law_1430 (by decide) ?_
      refine lv_iadd hx hb dL_law_1431 ?_
      refine va_sld hx hb hX hbl hbA hS (by unfold vp_in; decide) dL_law_1432 ?_
      refine lv_aload_n hx hb dL_law_1433 rfl (lv_at hl 0 rfl) ?_
      refine lv_iload_n hx hb dL_law_1434 rfl (lv_at hl 3 rfl) ?_
      refine lv_iconst (v := (2 : Int32)) hx hb dL_law_1435 (by decide) ?_
      refine lv_iadd hx hb dL_law_1436 ?_
      refine va_sld hx hb hX hbl hbA hS (by unfold vp_in; decide) dL_law_1437 ?_
      refine lv_aload_n hx hb dL_law_1438 rfl (lv_at hl 0 rfl) ?_
      refine lv_iload_n hx hb dL_law_1439 rfl (lv_at hl 3 rfl) ?_
      refine lv_iconst (v := (3 : Int32)) hx hb dL_law_1440 (by decide) ?_
      refine lv_iadd hx hb dL_law_1441 ?_
      refine va_sld hx hb hX hbl hbA hS (by unfold vp_in; decide) dL_law_1442 ?_
      refine lv_aload_n hx hb dL_law_1443 rfl (lv_at hl 0 rfl) ?_
      refine lv_iload_n hx hb dL_law_1444 rfl (lv_at hl 3 rfl) ?_
      refine lv_iconst (v := (4 : Int32)) hx hb dL_law_1445 (by decide) ?_
      refine lv_iadd hx hb dL_law_1446 ?_
      refine va_sld hx hb hX hbl hbA hS (by unfold vp_in; decide) dL_law_1447 ?_
      refine lv_aload_n hx hb dL_law_1448 rfl (lv_at hl 0 rfl) ?_
      refine lv_iload_n hx hb dL_law_1449 rfl (lv_at hl 3 rfl) ?_
      refine lv_iconst (v := (5 : Int32)) hx hb dL_law_1450 (by decide) ?_
      refine lv_iadd hx hb dL_law_1451 ?_
      refine va_sld hx hb hX hbl hbA hS (by unfold vp_in; decide) dL_law_1452 ?_
      refine zk_vi (post := (fun r u => (r, u) = R1)) (w1 := fun u => (wl_X11_shiftB ad cs (ae 10) (ae 11) (ae 2) (ae 3) pf (-1) 0 0 (-1) 0 0)) (As := [.int (xs ((0 : Int32) + (1 : Int32)).toNatClampNeg), .int (xs ((0 : Int32) + (2 : Int32)).toNatClampNeg), .int (xs ((0 : Int32) + (3 : Int32)).toNatClampNeg), .int (xs ((0 : Int32) + (4 : Int32)).toNatClampNeg), .int (xs ((0 : Int32) + (5 : Int32)).toNatClampNeg)]) (rest := []) (c_X11_shiftB l D cs ad (ae 10) (ae 11) (ae 2) (ae 3)  H.size (xs ((0 : Int32) + (1 : Int32)).toNatClampNeg) (xs ((0 : Int32) + (2 : Int32)).toNatClampNeg) (xs ((0 : Int32) + (3 : Int32)).toNatClampNeg) (xs ((0 : Int32) + (4 : Int32)).toNatClampNeg) (xs ((0 : Int32) + (5 : Int32)).toNatClampNeg) pf (-1) 0 0 (-1) 0 0 R1 h1) ⟨hx, hb, hml, hown, ht⟩ (cwV 5 ht gl_162 rfl rfl rfl (by decide +kernel) ⟨Nat.le_of_ble_eq_true rfl, Nat.le_of_ble_eq_true rfl⟩) (va_recv hK hP (ci := 11) (q0 := 0) rfl rfl) hP hD hS hK hA [0, 1, 51, 43] [55, 56, 57, 58, 59, 60, 61, 62, 63, 64, 65, 66, 67, 68, 69, 70, 71, 72, 73, 74, 75, 76, 77, 78, 79, 80, 81, 82, 83, 84, 85, 86, 87, 88, 89, 90, 91, 92, 93, 94, 95, 96, 97, 98] rfl rfl law_hR law_nd (law_dis rfl) rfl hl.1 (Nat.le_of_ble_eq_true rfl) dL_law_1453 ⟨Nat.le_of_ble_eq_true rfl, Nat.le_of_ble_eq_true rfl⟩ (fun r1 u1 H locs hq1 hP hD hS => ?_)
      have e1 : r1 = R1.1 := congrArg Prod.fst hq1
      rw [law_fm] at hP hD
      refine lv_aload_n hx hb dL_law_1456 rfl (lv_at hl 2 rfl) ?_
      refine lv_aload_n hx hb dL_law_1457 rfl (lv_at hl 0 rfl) ?_
      refine lv_iload_n hx hb dL_law_1458 rfl (lv_at hl 3 rfl) ?_
      refine lv_iconst (v := (1 : Int32)) hx hb dL_law_1459 (by decide) ?_
      refine lv_iadd hx hb dL_law_1460 ?_
      refine va_sld hx hb hX hbl hbA hS (by unfold vp_in; decide) dL_law_1461 ?_
      refine lv_aload_n hx hb dL_law_1462 rfl (lv_at hl 0 rfl) ?_
      refine lv_iload_n hx hb dL_law_1463 rfl (lv_at hl 3 rfl) ?_
      refine lv_iconst (v := (2 : Int32)) hx hb dL_law_1464 (by decide) ?_
      refine lv_iadd hx hb dL_law_1465 ?_
      refine va_sld hx hb hX hbl hbA hS (by unfold vp_in; decide) dL_law_1466 ?_
      refine lv_aload_n hx hb dL_law_1467 rfl (lv_at hl 0 rfl) ?_
      refine lv_iload_n hx hb dL_law_1468 rfl (lv_at hl 3 rfl) ?_
      refine lv_iconst (v := (3 : Int32)) hx hb dL_law_1469 (by decide) ?_
      refine lv_iadd hx hb dL_law_1470 ?_
      refine va_sld hx hb hX hbl hbA hS (by unfold vp_in; decide) dL_law_1471 ?_
      refine lv_aload_n hx hb dL_law_1472 rfl (lv_at hl 0 rfl) ?_
      refine lv_iload_n hx hb dL_law_1473 rfl (lv_at hl 3 rfl) ?_
      refine lv_iconst (v := (4 : Int32)) hx hb dL_law_1474 (by decide) ?_
      refine lv_iadd hx hb dL_law_1475 ?_
      refine va_sld hx hb hX hbl hbA hS (by unfold vp_in; decide) dL_law_1476 ?_
      refine lv_aload_n hx hb dL_law_1477 rfl (lv_at hl 0 rfl) ?_
      refine lv_iload_n hx hb dL_law_1478 rfl (lv_at hl 3 rfl) ?_
      refine lv_iconst (v := (5 : Int32)) hx hb dL_law_1479 (by decide) ?_
      refine lv_iadd hx hb dL_law_1480 ?_
      refine va_sld hx hb hX hbl hbA hS (by unfold vp_in; decide) dL_law_1481 ?_
      refine zk_vi (post := (fun r u => (r, u) = R2)) (w1 := fun u => (wl_X12_shift am cs 0 0 0 0 0 0 0 0 0 0 0 0 0 0 0 0 0 ((upd (upd (upd (upd (upd (upd (fun _ => 0) ((0 : Int32)).toNatClampNeg (-1 : Int32)) ((1 : Int32)).toNatClampNeg (-1 : Int32)) ((2 : Int32)).toNatClampNeg (-1 : Int32)) ((3 : Int32)).toNatClampNeg (-1 : Int32)) ((4 : Int32)).toNatClampNeg (-1 : Int32)) ((5 : Int32)).toNatClampNeg (-1 : Int32))) ((fun _ => 0)) u.1 u.2)) (As := [.int (xs ((0 : Int32) + (1 : Int32)).toNatClampNeg), .int (xs ((0 : Int32) + (2 : Int32)).toNatClampNeg), .int (xs ((0 : Int32) + (3 : Int32)).toNatClampNeg), .int (xs ((0 : Int32) + (4 : Int32)).toNatClampNeg), .int (xs ((0 : Int32) + (5 : Int32)).toNatClampNeg)]) (rest := [.int r1]) (c_X12_shift l D cs am   H.size 4000 (xs ((0 : Int32) + (1 : Int32)).toNatClampNeg) (xs ((0 : Int32) + (2 : Int32)).toNatClampNeg) (xs ((0 : Int32) + (3 : Int32)).toNatClampNeg) (xs ((0 : Int32) + (4 : Int32)).toNatClampNeg) (xs ((0 : Int32) + (5 : Int32)).toNatClampNeg) 0 0 0 0 0 0 0 0 0 0 0 0 0 0 0 0 0 ((upd (upd (upd (upd (upd (upd (fun _ => 0) ((0 : Int32)).toNatClampNeg (-1 : Int32)) ((1 : Int32)).toNatClampNeg (-1 : Int32)) ((2 : Int32)).toNatClampNeg (-1 : Int32)) ((3 : Int32)).toNatClampNeg (-1 : Int32)) ((4 : Int32)).toNatClampNeg (-1 : Int32)) ((5 : Int32)).toNatClampNeg (-1 : Int32))) ((fun _ => 0)) ((fun _ => 0)) ((fun _ => 0)) R2 h2) ⟨hx, hb, hml, hown, ht⟩ (cwV 5 ht gl_166 rfl rfl rfl (by decide +kernel) ⟨Nat.le_of_ble_eq_true rfl, Nat.le_of_ble_eq_true rfl⟩) (va_recv hK hP (ci := 12) (q0 := 0) rfl rfl) hP hD hS hK hA [0, 40, 41, 42, 43] [] rfl rfl rfl rfl (by decide) rfl hl.1 (Nat.le_of_ble_eq_true rfl) dL_law_1482 ⟨Nat.le_of_ble_eq_true rfl, Nat.le_of_ble_eq_true rfl⟩ (fun r2 u2 H locs hq2 hP hD hS => ?_)
      have e2 : r2 = R2.1 := congrArg Prod.fst hq2
      have EQ : r1 = r2 := by rw [e1, e2]; exact eq
      refine lv_icmp_eq (tgt := 1546) hx hb dL_law_1485 (by decide) (fun cc => ?_) (fun cc => absurd EQ cc)
      exact law_next C0 (by decide) (by decide) H locs ls hS (lv_sub hl [0, 3] rfl)
    · obtain ⟨R1, R2, h1, h2, eq⟩ := pe_shift (g := g) (pf := pf) (ae := ae) (wb := wb) GF PF 4 (by omega) 1 (by omega) (xs ((0 : Int32) + (1 : Int32)).toNatClampNeg) (xs ((0 : Int32) + (2 : Int32)).toNatClampNeg) (xs ((0 : Int32) + (3 : Int32)).toNatClampNeg) (xs ((0 : Int32) + (4 : Int32)).toNatClampNeg) (xs ((0 : Int32) + (5 : Int32)).toNatClampNeg) hp0 hp1
      refine lv_aload_n hx hb dL_law_1427 rfl (lv_at hl 1 rfl) ?_
      refine lv_aload_n hx hb dL_law_1428 rfl (lv_at hl 0 rfl) ?_
      refine lv_iload_n hx hb dL_law_1429 rfl (lv_at hl 3 rfl) ?_
      refine lv_iconst (v := (1 : Int32)) hx hb dL_law_1430 (by decide) ?_
      refine lv_iadd hx hb dL_law_1431 ?_
      refine va_sld hx hb hX hbl hbA hS (by unfold vp_in; decide) dL_law_1432 ?_
      refine lv_aload_n hx hb dL_law_1433 rfl (lv_at hl 0 rfl) ?_
      refine lv_iload_n hx hb dL_law_1434 rfl (lv_at hl 3 rfl) ?_
      refine lv_iconst (v := (2 : Int32)) hx hb dL_law_1435 (by decide) ?_
      refine lv_iadd hx hb dL_law_1436 ?_
      refine va_sld hx hb hX hbl hbA hS (by unfold vp_in; decide) dL_law_1437 ?_
      refine lv_aload_n hx hb dL_law_1438 rfl (lv_at hl 0 rfl) ?_
      refine lv_iload_n hx hb dL_law_1439 rfl (lv_at hl 3 rfl) ?_
      refine lv_iconst (v := (3 : Int32)) hx hb dL_law_1440 (by decide) ?_
      refine lv_iadd hx hb dL_law_1441 ?_
      refine va_sld hx hb hX hbl hbA hS (by unfold vp_in; decide) dL_law_1442 ?_
      refine lv_aload_n hx hb dL_law_1443 rfl (lv_at hl 0 rfl) ?_
      refine lv_iload_n hx hb dL_law_1444 rfl (lv_at hl 3 rfl) ?_
      refine lv_iconst (v := (4 : Int32)) hx hb dL_law_1445 (by decide) ?_
      refine lv_iadd hx hb dL_law_1446 ?_
      refine va_sld hx hb hX hbl hbA hS (by unfold vp_in; decide) dL_law_1447 ?_
      refine lv_aload_n hx hb dL_law_1448 rfl (lv_at hl 0 rfl) ?_
      refine lv_iload_n hx hb dL_law_1449 rfl (lv_at hl 3 rfl) ?_
      refine lv_iconst (v := (5 : Int32)) hx hb dL_law_1450 (by decide) ?_
      refine lv_iadd hx hb dL_law_1451 ?_
      refine va_sld hx hb hX hbl hbA hS (by unfold vp_in; decide) dL_law_1452 ?_
      refine zk_vi (post := (fun r u => (r, u) = R1)) (w1 := fun u => (wl_X11_shiftB ad cs (ae 10) (ae 11) (ae 4) (ae 5) pf (-1) 0 0 (-1) 0 0)) (As := [.int (xs ((0 : Int32) + (1 : Int32)).toNatClampNeg), .int (xs ((0 : Int32) + (2 : Int32)).toNatClampNeg), .int (xs ((0 : Int32) + (3 : Int32)).toNatClampNeg), .int (xs ((0 : Int32) + (4 : Int32)).toNatClampNeg), .int (xs ((0 : Int32) + (5 : Int32)).toNatClampNeg)]) (rest := []) (c_X11_shiftB l D cs ad (ae 10) (ae 11) (ae 4) (ae 5)  H.size (xs ((0 : Int32) + (1 : Int32)).toNatClampNeg) (xs ((0 : Int32) + (2 : Int32)).toNatClampNeg) (xs ((0 : Int32) + (3 : Int32)).toNatClampNeg) (xs ((0 : Int32) + (4 : Int32)).toNatClampNeg) (xs ((0 : Int32) + (5 : Int32)).toNatClampNeg) pf (-1) 0 0 (-1) 0 0 R1 h1) ⟨hx, hb, hml, hown, ht⟩ (cwV 5 ht gl_162 rfl rfl rfl (by decide +kernel) ⟨Nat.le_of_ble_eq_true rfl, Nat.le_of_ble_eq_true rfl⟩) (va_recv hK hP (ci := 11) (q0 := 0) rfl rfl) hP hD hS hK hA [0, 1, 51, 45] [55, 56, 57, 58, 59, 60, 61, 62, 63, 64, 65, 66, 67, 68, 69, 70, 71, 72, 73, 74, 75, 76, 77, 78, 79, 80, 81, 82, 83, 84, 85, 86, 87, 88, 89, 90, 91, 92, 93, 94, 95, 96, 97, 98] rfl rfl law_hR law_nd (law_dis rfl) rfl hl.1 (Nat.le_of_ble_eq_true rfl) dL_law_1453 ⟨Nat.le_of_ble_eq_true rfl, Nat.le_of_ble_eq_true rfl⟩ (fun r1 u1 H locs hq1 hP hD hS => ?_)
      have e1 : r1 = R1.1 := congrArg Prod.fst hq1
      rw [law_fm] at hP hD
      refine lv_aload_n hx hb dL_law_1456 rfl (lv_at hl 2 rfl) ?_
      refine lv_aload_n hx hb dL_law_1457 rfl (lv_at hl 0 rfl) ?_
      refine lv_iload_n hx hb dL_law_1458 rfl (lv_at hl 3 rfl) ?_
      refine lv_iconst (v := (1 : Int32)) hx hb dL_law_1459 (by decide) ?_
      refine lv_iadd hx hb dL_law_1460 ?_
      refine va_sld hx hb hX hbl hbA hS (by unfold vp_in; decide) dL_law_1461 ?_
      refine lv_aload_n hx hb dL_law_1462 rfl (lv_at hl 0 rfl) ?_
      refine lv_iload_n hx hb dL_law_1463 rfl (lv_at hl 3 rfl) ?_
      refine lv_iconst (v := (2 : Int32)) hx hb dL_law_1464 (by decide) ?_
      refine lv_iadd hx hb dL_law_1465 ?_
      refine va_sld hx hb hX hbl hbA hS (by unfold vp_in; decide) dL_law_1466 ?_
      refine lv_aload_n hx hb dL_law_1467 rfl (lv_at hl 0 rfl) ?_
      refine lv_iload_n hx hb dL_law_1468 rfl (lv_at hl 3 rfl) ?_
      refine lv_iconst (v := (3 : Int32)) hx hb dL_law_1469 (by decide) ?_
      refine lv_iadd hx hb dL_law_1470 ?_
      refine va_sld hx hb hX hbl hbA hS (by unfold vp_in; decide) dL_law_1471 ?_
      refine lv_aload_n hx hb dL_law_1472 rfl (lv_at hl 0 rfl) ?_
      refine lv_iload_n hx hb dL_law_1473 rfl (lv_at hl 3 rfl) ?_
      refine lv_iconst (v := (4 : Int32)) hx hb dL_law_1474 (by decide) ?_
      refine lv_iadd hx hb dL_law_1475 ?_
      refine va_sld hx hb hX hbl hbA hS (by unfold vp_in; decide) dL_law_1476 ?_
      refine lv_aload_n hx hb dL_law_1477 rfl (lv_at hl 0 rfl) ?_
      refine lv_iload_n hx hb dL_law_1478 rfl (lv_at hl 3 rfl) ?_
      refine lv_iconst (v := (5 : Int32)) hx hb dL_law_1479 (by decide) ?_
      refine lv_iadd hx hb dL_law_1480 ?_
      refine va_sld hx hb hX hbl hbA hS (by unfold vp_in; decide) dL_law_1481 ?_
      refine zk_vi (post := (fun r u => (r, u) = R2)) (w1 := fun u => (wl_X12_shift am cs 0 0 0 0 0 0 0 0 0 0 0 0 0 0 0 0 0 ((upd (upd (upd (upd (upd (upd (fun _ => 0) ((0 : Int32)).toNatClampNeg (-1 : Int32)) ((1 : Int32)).toNatClampNeg (-1 : Int32)) ((2 : Int32)).toNatClampNeg (-1 : Int32)) ((3 : Int32)).toNatClampNeg (-1 : Int32)) ((4 : Int32)).toNatClampNeg (-1 : Int32)) ((5 : Int32)).toNatClampNeg (-1 : Int32))) ((fun _ => 0)) u.1 u.2)) (As := [.int (xs ((0 : Int32) + (1 : Int32)).toNatClampNeg), .int (xs ((0 : Int32) + (2 : Int32)).toNatClampNeg), .int (xs ((0 : Int32) + (3 : Int32)).toNatClampNeg), .int (xs ((0 : Int32) + (4 : Int32)).toNatClampNeg), .int (xs ((0 : Int32) + (5 : Int32)).toNatClampNeg)]) (rest := [.int r1]) (c_X12_shift l D cs am   H.size 4000 (xs ((0 : Int32) + (1 : Int32)).toNatClampNeg) (xs ((0 : Int32) + (2 : Int32)).toNatClampNeg) (xs ((0 : Int32) + (3 : Int32)).toNatClampNeg) (xs ((0 : Int32) + (4 : Int32)).toNatClampNeg) (xs ((0 : Int32) + (5 : Int32)).toNatClampNeg) 0 0 0 0 0 0 0 0 0 0 0 0 0 0 0 0 0 ((upd (upd (upd (upd (upd (upd (fun _ => 0) ((0 : Int32)).toNatClampNeg (-1 : Int32)) ((1 : Int32)).toNatClampNeg (-1 : Int32)) ((2 : Int32)).toNatClampNeg (-1 : Int32)) ((3 : Int32)).toNatClampNeg (-1 : Int32)) ((4 : Int32)).toNatClampNeg (-1 : Int32)) ((5 : Int32)).toNatClampNeg (-1 : Int32))) ((fun _ => 0)) ((fun _ => 0)) ((fun _ => 0)) R2 h2) ⟨hx, hb, hml, hown, ht⟩ (cwV 5 ht gl_166 rfl rfl rfl (by decide +kernel) ⟨Nat.le_of_ble_eq_true rfl, Nat.le_of_ble_eq_true rfl⟩) (va_recv hK hP (ci := 12) (q0 := 0) rfl rfl) hP hD hS hK hA [0, 40, 41, 42, 43] [] rfl rfl rfl rfl (by decide) rfl hl.1 (Nat.le_of_ble_eq_true rfl) dL_law_1482 ⟨Nat.le_of_ble_eq_true rfl, Nat.le_of_ble_eq_true rfl⟩ (fun r2 u2 H locs hq2 hP hD hS => ?_)
      have e2 : r2 = R2.1 := congrArg Prod.fst hq2
      have EQ : r1 = r2 := by rw [e1, e2]; exact eq
      refine lv_icmp_eq (tgt := 1546) hx hb dL_law_1485 (by decide) (fun cc => ?_) (fun cc => absurd EQ cc)
      exact law_next C0 (by decide) (by decide) H locs ls hS (lv_sub hl [0, 3] rfl)
    · obtain ⟨R1, R2, h1, h2, eq⟩ := pe_shift (g := g) (pf := pf) (ae := ae) (wb := wb) GF PF 4 (by omega) 2 (by omega) (xs ((0 : Int32) + (1 : Int32)).toNatClampNeg) (xs ((0 : Int32) + (2 : Int32)).toNatClampNeg) (xs ((0 : Int32) + (3 : Int32)).toNatClampNeg) (xs ((0 : Int32) + (4 : Int32)).toNatClampNeg) (xs ((0 : Int32) + (5 : Int32)).toNatClampNeg) hp0 hp1
      refine lv_aload_n hx hb dL_law_1427 rfl (lv_at hl 1 rfl) ?_
      refine lv_aload_n hx hb dL_law_1428 rfl (lv_at hl 0 rfl) ?_
      refine lv_iload_n hx hb dL_law_1429 rfl (lv_at hl 3 rfl) ?_
      refine lv_iconst (v := (1 : Int32)) hx hb dL_law_1430 (by decide) ?_
      refine lv_iadd hx hb dL_law_1431 ?_
      refine va_sld hx hb hX hbl hbA hS (by unfold vp_in; decide) dL_law_1432 ?_
      refine lv_aload_n hx hb dL_law_1433 rfl (lv_at hl 0 rfl) ?_
      refine lv_iload_n hx hb dL_law_1434 rfl (lv_at hl 3 rfl) ?_
      refine lv_iconst (v := (2 : Int32)) hx hb dL_law_1435 (by decide) ?_
      refine lv_iadd hx hb dL_law_1436 ?_
      refine va_sld hx hb hX hbl hbA hS (by unfold vp_in; decide) dL_law_1437 ?_
      refine lv_aload_n hx hb dL_law_1438 rfl (lv_at hl 0 rfl) ?_
      refine lv_iload_n hx hb dL_law_1439 rfl (lv_at hl 3 rfl) ?_
      refine lv_iconst (v := (3 : Int32)) hx hb dL_law_1440 (by decide) ?_
      refine lv_iadd hx hb dL_law_1441 ?_
      refine va_sld hx hb hX hbl hbA hS (by unfold vp_in; decide) dL_law_1442 ?_
      refine lv_aload_n hx hb dL_law_1443 rfl (lv_at hl 0 rfl) ?_
      refine lv_iload_n hx hb dL_law_1444 rfl (lv_at hl 3 rfl) ?_
      refine lv_iconst (v := (4 : Int32)) hx hb dL_law_1445 (by decide) ?_
      refine lv_iadd hx hb dL_law_1446 ?_
      refine va_sld hx hb hX hbl hbA hS (by unfold vp_in; decide) dL_law_1447 ?_
      refine lv_aload_n hx hb dL_law_1448 rfl (lv_at hl 0 rfl) ?_
      refine lv_iload_n hx hb dL_law_1449 rfl (lv_at hl 3 rfl) ?_
      refine lv_iconst (v := (5 : Int32)) hx hb dL_law_1450 (by decide) ?_
      refine lv_iadd hx hb dL_law_1451 ?_
      refine va_sld hx hb hX hbl hbA hS (by unfold vp_in; decide) dL_law_1452 ?_
      refine zk_vi (post := (fun r u => (r, u) = R1)) (w1 := fun u => (wl_X11_shiftB ad cs (ae 10) (ae 11) (ae 6) (ae 7) pf (-1) 0 0 (-1) 0 0)) (As := [.int (xs ((0 : Int32) + (1 : Int32)).toNatClampNeg), .int (xs ((0 : Int32) + (2 : Int32)).toNatClampNeg), .int (xs ((0 : Int32) + (3 : Int32)).toNatClampNeg), .int (xs ((0 : Int32) + (4 : Int32)).toNatClampNeg), .int (xs ((0 : Int32) + (5 : Int32)).toNatClampNeg)]) (rest := []) (c_X11_shiftB l D cs ad (ae 10) (ae 11) (ae 6) (ae 7)  H.size (xs ((0 : Int32) + (1 : Int32)).toNatClampNeg) (xs ((0 : Int32) + (2 : Int32)).toNatClampNeg) (xs ((0 : Int32) + (3 : Int32)).toNatClampNeg) (xs ((0 : Int32) + (4 : Int32)).toNatClampNeg) (xs ((0 : Int32) + (5 : Int32)).toNatClampNeg) pf (-1) 0 0 (-1) 0 0 R1 h1) ⟨hx, hb, hml, hown, ht⟩ (cwV 5 ht gl_162 rfl rfl rfl (by decide +kernel) ⟨Nat.le_of_ble_eq_true rfl, Nat.le_of_ble_eq_true rfl⟩) (va_recv hK hP (ci := 11) (q0 := 0) rfl rfl) hP hD hS hK hA [0, 1, 51, 47] [55, 56, 57, 58, 59, 60, 61, 62, 63, 64, 65, 66, 67, 68, 69, 70, 71, 72, 73, 74, 75, 76, 77, 78, 79, 80, 81, 82, 83, 84, 85, 86, 87, 88, 89, 90, 91, 92, 93, 94, 95, 96, 97, 98] rfl rfl law_hR law_nd (law_dis rfl) rfl hl.1 (Nat.le_of_ble_eq_true rfl) dL_law_1453 ⟨Nat.le_of_ble_eq_true rfl, Nat.le_of_ble_eq_true rfl⟩ (fun r1 u1 H locs hq1 hP hD hS => ?_)
      have e1 : r1 = R1.1 := congrArg Prod.fst hq1
      rw [law_fm] at hP hD
      refine lv_aload_n hx hb dL_law_1456 rfl (lv_at hl 2 rfl) ?_
      refine lv_aload_n hx hb dL_law_1457 rfl (lv_at hl 0 rfl) ?_
      refine lv_iload_n hx hb dL_law_1458 rfl (lv_at hl 3 rfl) ?_
      refine lv_iconst (v := (1 : Int32)) hx hb dL_law_1459 (by decide) ?_
      refine lv_iadd hx hb dL_law_1460 ?_
      refine va_sld hx hb hX hbl hbA hS (by unfold vp_in; decide) dL_law_1461 ?_
      refine lv_aload_n hx hb dL_law_1462 rfl (lv_at hl 0 rfl) ?_
      refine lv_iload_n hx hb dL_law_1463 rfl (lv_at hl 3 rfl) ?_
      refine lv_iconst (v := (2 : Int32)) hx hb dL_law_1464 (by decide) ?_
      refine lv_iadd hx hb dL_law_1465 ?_
      refine va_sld hx hb hX hbl hbA hS (by unfold vp_in; decide) dL_law_1466 ?_
      refine lv_aload_n hx hb dL_law_1467 rfl (lv_at hl 0 rfl) ?_
      refine lv_iload_n hx hb dL_law_1468 rfl (lv_at hl 3 rfl) ?_
      refine lv_iconst (v := (3 : Int32)) hx hb dL_law_1469 (by decide) ?_
      refine lv_iadd hx hb dL_law_1470 ?_
      refine va_sld hx hb hX hbl hbA hS (by unfold vp_in; decide) dL_law_1471 ?_
      refine lv_aload_n hx hb dL_law_1472 rfl (lv_at hl 0 rfl) ?_
      refine lv_iload_n hx hb dL_law_1473 rfl (lv_at hl 3 rfl) ?_
      refine lv_iconst (v := (4 : Int32)) hx hb dL_law_1474 (by decide) ?_
      refine lv_iadd hx hb dL_law_1475 ?_
      refine va_sld hx hb hX hbl hbA hS (by unfold vp_in; decide) dL_law_1476 ?_
      refine lv_aload_n hx hb dL_law_1477 rfl (lv_at hl 0 rfl) ?_
      refine lv_iload_n hx hb dL_law_1478 rfl (lv_at hl 3 rfl) ?_
      refine lv_iconst (v := (5 : Int32)) hx hb dL_law_1479 (by decide) ?_
      refine lv_iadd hx hb dL_law_1480 ?_
      refine va_sld hx hb hX hbl hbA hS (by unfold vp_in; decide) dL_law_1481 ?_
      refine zk_vi (post := (fun r u => (r, u) = R2)) (w1 := fun u => (wl_X12_shift am cs 0 0 0 0 0 0 0 0 0 0 0 0 0 0 0 0 0 ((upd (upd (upd (upd (upd (upd (fun _ => 0) ((0 : Int32)).toNatClampNeg (-1 : Int32)) ((1 : Int32)).toNatClampNeg (-1 : Int32)) ((2 : Int32)).toNatClampNeg (-1 : Int32)) ((3 : Int32)).toNatClampNeg (-1 : Int32)) ((4 : Int32)).toNatClampNeg (-1 : Int32)) ((5 : Int32)).toNatClampNeg (-1 : Int32))) ((fun _ => 0)) u.1 u.2)) (As := [.int (xs ((0 : Int32) + (1 : Int32)).toNatClampNeg), .int (xs ((0 : Int32) + (2 : Int32)).toNatClampNeg), .int (xs ((0 : Int32) + (3 : Int32)).toNatClampNeg), .int (xs ((0 : Int32) + (4 : Int32)).toNatClampNeg), .int (xs ((0 : Int32) + (5 : Int32)).toNatClampNeg)]) (rest := [.int r1]) (c_X12_shift l D cs am   H.size 4000 (xs ((0 : Int32) + (1 : Int32)).toNatClampNeg) (xs ((0 : Int32) + (2 : Int32)).toNatClampNeg) (xs ((0 : Int32) + (3 : Int32)).toNatClampNeg) (xs ((0 : Int32) + (4 : Int32)).toNatClampNeg) (xs ((0 : Int32) + (5 : Int32)).toNatClampNeg) 0 0 0 0 0 0 0 0 0 0 0 0 0 0 0 0 0 ((upd (upd (upd (upd (upd (upd (fun _ => 0) ((0 : Int32)).toNatClampNeg (-1 : Int32)) ((1 : Int32)).toNatClampNeg (-1 : Int32)) ((2 : Int32)).toNatClampNeg (-1 : Int32)) ((3 : Int32)).toNatClampNeg (-1 : Int32)) ((4 : Int32)).toNatClampNeg (-1 : Int32)) ((5 : Int32)).toNatClampNeg (-1 : Int32))) ((fun _ => 0)) ((fun _ => 0)) ((fun _ => 0)) R2 h2) ⟨hx, hb, hml, hown, ht⟩ (cwV 5 ht gl_166 rfl rfl rfl (by decide +kernel) ⟨Nat.le_of_ble_eq_true rfl, Nat.le_of_ble_eq_true rfl⟩) (va_recv hK hP (ci := 12) (q0 := 0) rfl rfl) hP hD hS hK hA [0, 40, 41, 42, 43] [] rfl rfl rfl rfl (by decide) rfl hl.1 (Nat.le_of_ble_eq_true rfl) dL_law_1482 ⟨Nat.le_of_ble_eq_true rfl, Nat.le_of_ble_eq_true rfl⟩ (fun r2 u2 H locs hq2 hP hD hS => ?_)
      have e2 : r2 = R2.1 := congrArg Prod.fst hq2
      have EQ : r1 = r2 := by rw [e1, e2]; exact eq
      refine lv_icmp_eq (tgt := 1546) hx hb dL_law_1485 (by decide) (fun cc => ?_) (fun cc => absurd EQ cc)
      exact law_next C0 (by decide) (by decide) H locs ls hS (lv_sub hl [0, 3] rfl)
    · obtain ⟨R1, R2, h1, h2, eq⟩ := pe_shift (g := g) (pf := pf) (ae := ae) (wb := wb) GF PF 4 (by omega) 3 (by omega) (xs ((0 : Int32) + (1 : Int32)).toNatClampNeg) (xs ((0 : Int32) + (2 : Int32)).toNatClampNeg) (xs ((0 : Int32) + (3 : Int32)).toNatClampNeg) (xs ((0 : Int32) + (4 : Int32)).toNatClampNeg) (xs ((0 : Int32) + (5 : Int32)).toNatClampNeg) hp0 hp1
      refine lv_aload_n hx hb dL_law_1427 rfl (lv_at hl 1 rfl) ?_
      refine lv_aload_n hx hb dL_law_1428 rfl (lv_at hl 0 rfl) ?_
      refine lv_iload_n hx hb dL_law_1429 rfl (lv_at hl 3 rfl) ?_
      refine lv_iconst (v := (1 : Int32)) hx hb dL_law_1430 (by decide) ?_
      refine lv_iadd hx hb dL_law_1431 ?_
      refine va_sld hx hb hX hbl hbA hS (by unfold vp_in; decide) dL_law_1432 ?_
      refine lv_aload_n hx hb dL_law_1433 rfl (lv_at hl 0 rfl) ?_
      refine lv_iload_n hx hb dL_law_1434 rfl (lv_at hl 3 rfl) ?_
      refine lv_iconst (v := (2 : Int32)) hx hb dL_law_1435 (by decide) ?_
      refine lv_iadd hx hb dL_law_1436 ?_
      refine va_sld hx hb hX hbl hbA hS (by unfold vp_in; decide) dL_law_1437 ?_
      refine lv_aload_n hx hb dL_law_1438 rfl (lv_at hl 0 rfl) ?_
      refine lv_iload_n hx hb dL_law_1439 rfl (lv_at hl 3 rfl) ?_
      refine lv_iconst (v := (3 : Int32)) hx hb dL_law_1440 (by decide) ?_
      refine lv_iadd hx hb dL_law_1441 ?_
      refine va_sld hx hb hX hbl hbA hS (by unfold vp_in; decide) dL_law_1442 ?_
      refine lv_aload_n hx hb dL_law_1443 rfl (lv_at hl 0 rfl) ?_
      refine lv_iload_n hx hb dL_law_1444 rfl (lv_at hl 3 rfl) ?_
      refine lv_iconst (v := (4 : Int32)) hx hb dL_law_1445 (by decide) ?_
      refine lv_iadd hx hb dL_law_1446 ?_
      refine va_sld hx hb hX hbl hbA hS (by unfold vp_in; decide) dL_law_1447 ?_
      refine lv_aload_n hx hb dL_law_1448 rfl (lv_at hl 0 rfl) ?_
      refine lv_iload_n hx hb dL_law_1449 rfl (lv_at hl 3 rfl) ?_
      refine lv_iconst (v := (5 : Int32)) hx hb dL_law_1450 (by decide) ?_
      refine lv_iadd hx hb dL_law_1451 ?_
      refine va_sld hx hb hX hbl hbA hS (by unfold vp_in; decide) dL_law_1452 ?_
      refine zk_vi (post := (fun r u => (r, u) = R1)) (w1 := fun u => (wl_X11_shiftB ad cs (ae 10) (ae 11) (ae 8) (ae 9) pf (-1) 0 0 (-1) 0 0)) (As := [.int (xs ((0 : Int32) + (1 : Int32)).toNatClampNeg), .int (xs ((0 : Int32) + (2 : Int32)).toNatClampNeg), .int (xs ((0 : Int32) + (3 : Int32)).toNatClampNeg), .int (xs ((0 : Int32) + (4 : Int32)).toNatClampNeg), .int (xs ((0 : Int32) + (5 : Int32)).toNatClampNeg)]) (rest := []) (c_X11_shiftB l D cs ad (ae 10) (ae 11) (ae 8) (ae 9)  H.size (xs ((0 : Int32) + (1 : Int32)).toNatClampNeg) (xs ((0 : Int32) + (2 : Int32)).toNatClampNeg) (xs ((0 : Int32) + (3 : Int32)).toNatClampNeg) (xs ((0 : Int32) + (4 : Int32)).toNatClampNeg) (xs ((0 : Int32) + (5 : Int32)).toNatClampNeg) pf (-1) 0 0 (-1) 0 0 R1 h1) ⟨hx, hb, hml, hown, ht⟩ (cwV 5 ht gl_162 rfl rfl rfl (by decide +kernel) ⟨Nat.le_of_ble_eq_true rfl, Nat.le_of_ble_eq_true rfl⟩) (va_recv hK hP (ci := 11) (q0 := 0) rfl rfl) hP hD hS hK hA [0, 1, 51, 49] [55, 56, 57, 58, 59, 60, 61, 62, 63, 64, 65, 66, 67, 68, 69, 70, 71, 72, 73, 74, 75, 76, 77, 78, 79, 80, 81, 82, 83, 84, 85, 86, 87, 88, 89, 90, 91, 92, 93, 94, 95, 96, 97, 98] rfl rfl law_hR law_nd (law_dis rfl) rfl hl.1 (Nat.le_of_ble_eq_true rfl) dL_law_1453 ⟨Nat.le_of_ble_eq_true rfl, Nat.le_of_ble_eq_true rfl⟩ (fun r1 u1 H locs hq1 hP hD hS => ?_)
      have e1 : r1 = R1.1 := congrArg Prod.fst hq1
      rw [law_fm] at hP hD
      refine lv_aload_n hx hb dL_law_1456 rfl (lv_at hl 2 rfl) ?_
      refine lv_aload_n hx hb dL_law_1457 rfl (lv_at hl 0 rfl) ?_
      refine lv_iload_n hx hb dL_law_1458 rfl (lv_at hl 3 rfl) ?_
      refine lv_iconst (v := (1 : Int32)) hx hb dL_law_1459 (by decide) ?_
      refine lv_iadd hx hb dL_law_1460 ?_
      refine va_sld hx hb hX hbl hbA hS (by unfold vp_in; decide) dL_law_1461 ?_
      refine lv_aload_n hx hb dL_law_1462 rfl (lv_at hl 0 rfl) ?_
      refine lv_iload_n hx hb dL_law_1463 rfl (lv_at hl 3 rfl) ?_
      refine lv_iconst (v := (2 : Int32)) hx hb dL_law_1464 (by decide) ?_
      refine lv_iadd hx hb dL_law_1465 ?_
      refine va_sld hx hb hX hbl hbA hS (by unfold vp_in; decide) dL_law_1466 ?_
      refine lv_aload_n hx hb dL_law_1467 rfl (lv_at hl 0 rfl) ?_
      refine lv_iload_n hx hb dL_law_1468 rfl (lv_at hl 3 rfl) ?_
      refine lv_iconst (v := (3 : Int32)) hx hb dL_law_1469 (by decide) ?_
      refine lv_iadd hx hb dL_law_1470 ?_
      refine va_sld hx hb hX hbl hbA hS (by unfold vp_in; decide) dL_law_1471 ?_
      refine lv_aload_n hx hb dL_law_1472 rfl (lv_at hl 0 rfl) ?_
      refine lv_iload_n hx hb dL_law_1473 rfl (lv_at hl 3 rfl) ?_
      refine lv_iconst (v := (4 : Int32)) hx hb dL_law_1474 (by decide) ?_
      refine lv_iadd hx hb dL_law_1475 ?_
      refine va_sld hx hb hX hbl hbA hS (by unfold vp_in; decide) dL_law_1476 ?_
      refine lv_aload_n hx hb dL_law_1477 rfl (lv_at hl 0 rfl) ?_
      refine lv_iload_n hx hb dL_law_1478 rfl (lv_at hl 3 rfl) ?_
      refine lv_iconst (v := (5 : Int32)) hx hb dL_law_1479 (by decide) ?_
      refine lv_iadd hx hb dL_law_1480 ?_
      refine va_sld hx hb hX hbl hbA hS (by unfold vp_in; decide) dL_law_1481 ?_
      refine zk_vi (post := (fun r u => (r, u) = R2)) (w1 := fun u => (wl_X12_shift am cs 0 0 0 0 0 0 0 0 0 0 0 0 0 0 0 0 0 ((upd (upd (upd (upd (upd (upd (fun _ => 0) ((0 : Int32)).toNatClampNeg (-1 : Int32)) ((1 : Int32)).toNatClampNeg (-1 : Int32)) ((2 : Int32)).toNatClampNeg (-1 : Int32)) ((3 : Int32)).toNatClampNeg (-1 : Int32)) ((4 : Int32)).toNatClampNeg (-1 : Int32)) ((5 : Int32)).toNatClampNeg (-1 : Int32))) ((fun _ => 0)) u.1 u.2)) (As := [.int (xs ((0 : Int32) + (1 : Int32)).toNatClampNeg), .int (xs ((0 : Int32) + (2 : Int32)).toNatClampNeg), .int (xs ((0 : Int32) + (3 : Int32)).toNatClampNeg), .int (xs ((0 : Int32) + (4 : Int32)).toNatClampNeg), .int (xs ((0 : Int32) + (5 : Int32)).toNatClampNeg)]) (rest := [.int r1]) (c_X12_shift l D cs am   H.size 4000 (xs ((0 : Int32) + (1 : Int32)).toNatClampNeg) (xs ((0 : Int32) + (2 : Int32)).toNatClampNeg) (xs ((0 : Int32) + (3 : Int32)).toNatClampNeg) (xs ((0 : Int32) + (4 : Int32)).toNatClampNeg) (xs ((0 : Int32) + (5 : Int32)).toNatClampNeg) 0 0 0 0 0 0 0 0 0 0 0 0 0 0 0 0 0 ((upd (upd (upd (upd (upd (upd (fun _ => 0) ((0 : Int32)).toNatClampNeg (-1 : Int32)) ((1 : Int32)).toNatClampNeg (-1 : Int32)) ((2 : Int32)).toNatClampNeg (-1 : Int32)) ((3 : Int32)).toNatClampNeg (-1 : Int32)) ((4 : Int32)).toNatClampNeg (-1 : Int32)) ((5 : Int32)).toNatClampNeg (-1 : Int32))) ((fun _ => 0)) ((fun _ => 0)) ((fun _ => 0)) R2 h2) ⟨hx, hb, hml, hown, ht⟩ (cwV 5 ht gl_166 rfl rfl rfl (by decide +kernel) ⟨Nat.le_of_ble_eq_true rfl, Nat.le_of_ble_eq_true rfl⟩) (va_recv hK hP (ci := 12) (q0 := 0) rfl rfl) hP hD hS hK hA [0, 40, 41, 42, 43] [] rfl rfl rfl rfl (by decide) rfl hl.1 (Nat.le_of_ble_eq_true rfl) dL_law_1482 ⟨Nat.le_of_ble_eq_true rfl, Nat.le_of_ble_eq_true rfl⟩ (fun r2 u2 H locs hq2 hP hD hS => ?_)
      have e2 : r2 = R2.1 := congrArg Prod.fst hq2
      have EQ : r1 = r2 := by rw [e1, e2]; exact eq
      refine lv_icmp_eq (tgt := 1546) hx hb dL_law_1485 (by decide) (fun cc => ?_) (fun cc => absurd EQ cc)
      exact law_next C0 (by decide) (by decide) H locs ls hS (lv_sub hl [0, 3] rfl)
    · obtain ⟨R1, R2, h1, h2, eq⟩ := pe_shiftA (g := g) (pf := pf) (ae := ae) (wb := wb) GF PF 4 (by omega) (xs ((0 : Int32) + (1 : Int32)).toNatClampNeg) (xs ((0 : Int32) + (2 : Int32)).toNatClampNeg) (xs ((0 : Int32) + (3 : Int32)).toNatClampNeg) (xs ((0 : Int32) + (4 : Int32)).toNatClampNeg) (xs ((0 : Int32) + (5 : Int32)).toNatClampNeg) hp0 hp1
      refine lv_aload_n hx hb dL_law_1427 rfl (lv_at hl 1 rfl) ?_
      refine lv_aload_n hx hb dL_law_1428 rfl (lv_at hl 0 rfl) ?_
      refine lv_iload_n hx hb dL_law_1429 rfl (lv_at hl 3 rfl) ?_
      refine lv_iconst (v := (1 : Int32)) hx hb dL_law_1430 (by decide) ?_
      refine lv_iadd hx hb dL_law_1431 ?_
      refine va_sld hx hb hX hbl hbA hS (by unfold vp_in; decide) dL_law_1432 ?_
      refine lv_aload_n hx hb dL_law_1433 rfl (lv_at hl 0 rfl) ?_
      refine lv_iload_n hx hb dL_law_1434 rfl (lv_at hl 3 rfl) ?_
      refine lv_iconst (v := (2 : Int32)) hx hb dL_law_1435 (by decide) ?_
      refine lv_iadd hx hb dL_law_1436 ?_
      refine va_sld hx hb hX hbl hbA hS (by unfold vp_in; decide) dL_law_1437 ?_
      refine lv_aload_n hx hb dL_law_1438 rfl (lv_at hl 0 rfl) ?_
      refine lv_iload_n hx hb dL_law_1439 rfl (lv_at hl 3 rfl) ?_
      refine lv_iconst (v := (3 : Int32)) hx hb dL_law_1440 (by decide) ?_
      refine lv_iadd hx hb dL_law_1441 ?_
      refine va_sld hx hb hX hbl hbA hS (by unfold vp_in; decide) dL_law_1442 ?_
      refine lv_aload_n hx hb dL_law_1443 rfl (lv_at hl 0 rfl) ?_
      refine lv_iload_n hx hb dL_law_1444 rfl (lv_at hl 3 rfl) ?_
      refine lv_iconst (v := (4 : Int32)) hx hb dL_law_1445 (by decide) ?_
      refine lv_iadd hx hb dL_law_1446 ?_
      refine va_sld hx hb hX hbl hbA hS (by unfold vp_in; decide) dL_law_1447 ?_
      refine lv_aload_n hx hb dL_law_1448 rfl (lv_at hl 0 rfl) ?_
      refine lv_iload_n hx hb dL_law_1449 rfl (lv_at hl 3 rfl) ?_
      refine lv_iconst (v := (5 : Int32)) hx hb dL_law_1450 (by decide) ?_
      refine lv_iadd hx hb dL_law_1451 ?_
      refine va_sld hx hb hX hbl hbA hS (by unfold vp_in; decide) dL_law_1452 ?_
      refine zk_vi (post := (fun r u => (r, u) = R1)) (w1 := fun u => (wl_X11_shift ad cs (ae 10) (ae 11) pf (-1) 0 0)) (As := [.int (xs ((0 : Int32) + (1 : Int32)).toNatClampNeg), .int (xs ((0 : Int32) + (2 : Int32)).toNatClampNeg), .int (xs ((0 : Int32) + (3 : Int32)).toNatClampNeg), .int (xs ((0 : Int32) + (4 : Int32)).toNatClampNeg), .int (xs ((0 : Int32) + (5 : Int32)).toNatClampNeg)]) (rest := []) (c_X11_shift l D cs ad (ae 10) (ae 11)  H.size (xs ((0 : Int32) + (1 : Int32)).toNatClampNeg) (xs ((0 : Int32) + (2 : Int32)).toNatClampNeg) (xs ((0 : Int32) + (3 : Int32)).toNatClampNeg) (xs ((0 : Int32) + (4 : Int32)).toNatClampNeg) (xs ((0 : Int32) + (5 : Int32)).toNatClampNeg) pf (-1) 0 0 R1 h1) ⟨hx, hb, hml, hown, ht⟩ (cwV 5 ht gl_162 rfl rfl rfl (by decide +kernel) ⟨Nat.le_of_ble_eq_true rfl, Nat.le_of_ble_eq_true rfl⟩) (va_recv hK hP (ci := 11) (q0 := 0) rfl rfl) hP hD hS hK hA [0, 1, 51] [55, 56, 57, 58, 59, 60, 61, 62, 63, 64, 65, 66, 67, 68, 69, 70, 71, 72, 73, 74, 75, 76, 77, 78, 79, 80, 81, 82, 83, 84, 85, 86, 87, 88, 89, 90, 91, 92, 93, 94, 95, 96, 97, 98] rfl rfl law_hR law_nd (law_dis rfl) rfl hl.1 (Nat.le_of_ble_eq_true rfl) dL_law_1453 ⟨Nat.le_of_ble_eq_true rfl, Nat.le_of_ble_eq_true rfl⟩ (fun r1 u1 H locs hq1 hP hD hS => ?_)
      have e1 : r1 = R1.1 := congrArg Prod.fst hq1
      rw [law_fm] at hP hD
      refine lv_aload_n hx hb dL_law_1456 rfl (lv_at hl 2 rfl) ?_
      refine lv_aload_n hx hb dL_law_1457 rfl (lv_at hl 0 rfl) ?_
      refine lv_iload_n hx hb dL_law_1458 rfl (lv_at hl 3 rfl) ?_
      refine lv_iconst (v := (1 : Int32)) hx hb dL_law_1459 (by decide) ?_
      refine lv_iadd hx hb dL_law_1460 ?_
      refine va_sld hx hb hX hbl hbA hS (by unfold vp_in; decide) dL_law_1461 ?_
      refine lv_aload_n hx hb dL_law_1462 rfl (lv_at hl 0 rfl) ?_
      refine lv_iload_n hx hb dL_law_1463 rfl (lv_at hl 3 rfl) ?_
      refine lv_iconst (v := (2 : Int32)) hx hb dL_law_1464 (by decide) ?_
      refine lv_iadd hx hb dL_law_1465 ?_
      refine va_sld hx hb hX hbl hbA hS (by unfold vp_in; decide) dL_law_1466 ?_
      refine lv_aload_n hx hb dL_law_1467 rfl (lv_at hl 0 rfl) ?_
      refine lv_iload_n hx hb dL_law_1468 rfl (lv_at hl 3 rfl) ?_
      refine lv_iconst (v := (3 : Int32)) hx hb dL_law_1469 (by decide) ?_
      refine lv_iadd hx hb dL_law_1470 ?_
      refine va_sld hx hb hX hbl hbA hS (by unfold vp_in; decide) dL_law_1471 ?_
      refine lv_aload_n hx hb dL_law_1472 rfl (lv_at hl 0 rfl) ?_
      refine lv_iload_n hx hb dL_law_1473 rfl (lv_at hl 3 rfl) ?_
      refine lv_iconst (v := (4 : Int32)) hx hb dL_law_1474 (by decide) ?_
      refine lv_iadd hx hb dL_law_1475 ?_
      refine va_sld hx hb hX hbl hbA hS (by unfold vp_in; decide) dL_law_1476 ?_
      refine lv_aload_n hx hb dL_law_1477 rfl (lv_at hl 0 rfl) ?_
      refine lv_iload_n hx hb dL_law_1478 rfl (lv_at hl 3 rfl) ?_
      refine lv_iconst (v := (5 : Int32)) hx hb dL_law_1479 (by decide) ?_
      refine lv_iadd hx hb dL_law_1480 ?_
      refine va_sld hx hb hX hbl hbA hS (by unfold vp_in; decide) dL_law_1481 ?_
      refine zk_vi (post := (fun r u => (r, u) = R2)) (w1 := fun u => (wl_X12_shift am cs 0 0 0 0 0 0 0 0 0 0 0 0 0 0 0 0 0 ((upd (upd (upd (upd (upd (upd (fun _ => 0) ((0 : Int32)).toNatClampNeg (-1 : Int32)) ((1 : Int32)).toNatClampNeg (-1 : Int32)) ((2 : Int32)).toNatClampNeg (-1 : Int32)) ((3 : Int32)).toNatClampNeg (-1 : Int32)) ((4 : Int32)).toNatClampNeg (-1 : Int32)) ((5 : Int32)).toNatClampNeg (-1 : Int32))) ((fun _ => 0)) u.1 u.2)) (As := [.int (xs ((0 : Int32) + (1 : Int32)).toNatClampNeg), .int (xs ((0 : Int32) + (2 : Int32)).toNatClampNeg), .int (xs ((0 : Int32) + (3 : Int32)).toNatClampNeg), .int (xs ((0 : Int32) + (4 : Int32)).toNatClampNeg), .int (xs ((0 : Int32) + (5 : Int32)).toNatClampNeg)]) (rest := [.int r1]) (c_X12_shift l D cs am   H.size 4000 (xs ((0 : Int32) + (1 : Int32)).toNatClampNeg) (xs ((0 : Int32) + (2 : Int32)).toNatClampNeg) (xs ((0 : Int32) + (3 : Int32)).toNatClampNeg) (xs ((0 : Int32) + (4 : Int32)).toNatClampNeg) (xs ((0 : Int32) + (5 : Int32)).toNatClampNeg) 0 0 0 0 0 0 0 0 0 0 0 0 0 0 0 0 0 ((upd (upd (upd (upd (upd (upd (fun _ => 0) ((0 : Int32)).toNatClampNeg (-1 : Int32)) ((1 : Int32)).toNatClampNeg (-1 : Int32)) ((2 : Int32)).toNatClampNeg (-1 : Int32)) ((3 : Int32)).toNatClampNeg (-1 : Int32)) ((4 : Int32)).toNatClampNeg (-1 : Int32)) ((5 : Int32)).toNatClampNeg (-1 : Int32))) ((fun _ => 0)) ((fun _ => 0)) ((fun _ => 0)) R2 h2) ⟨hx, hb, hml, hown, ht⟩ (cwV 5 ht gl_166 rfl rfl rfl (by decide +kernel) ⟨Nat.le_of_ble_eq_true rfl, Nat.le_of_ble_eq_true rfl⟩) (va_recv hK hP (ci := 12) (q0 := 0) rfl rfl) hP hD hS hK hA [0, 40, 41, 42, 43] [] rfl rfl rfl rfl (by decide) rfl hl.1 (Nat.le_of_ble_eq_true rfl) dL_law_1482 ⟨Nat.le_of_ble_eq_true rfl, Nat.le_of_ble_eq_true rfl⟩ (fun r2 u2 H locs hq2 hP hD hS => ?_)
      have e2 : r2 = R2.1 := congrArg Prod.fst hq2
      have EQ : r1 = r2 := by rw [e1, e2]; exact eq
      refine lv_icmp_eq (tgt := 1546) hx hb dL_law_1485 (by decide) (fun cc => ?_) (fun cc => absurd EQ cc)
      exact law_next C0 (by decide) (by decide) H locs ls hS (lv_sub hl [0, 3] rfl)
    · obtain ⟨R1, R2, h1, h2, eq⟩ := pe_shift (g := g) (pf := pf) (ae := ae) (wb := wb) GF PF 4 (by omega) 5 (by omega) (xs ((0 : Int32) + (1 : Int32)).toNatClampNeg) (xs ((0 : Int32) + (2 : Int32)).toNatClampNeg) (xs ((0 : Int32) + (3 : Int32)).toNatClampNeg) (xs ((0 : Int32) + (4 : Int32)).toNatClampNeg) (xs ((0 : Int32) + (5 : Int32)).toNatClampNeg) hp0 hp1
      refine lv_aload_n hx hb dL_law_1427 rfl (lv_at hl 1 rfl) ?_
      refine lv_aload_n hx hb dL_law_1428 rfl (lv_at hl 0 rfl) ?_
      refine lv_iload_n hx hb dL_law_1429 rfl (lv_at hl 3 rfl) ?_
      refine lv_iconst (v := (1 : Int32)) hx hb dL_law_1430 (by decide) ?_
      refine lv_iadd hx hb dL_law_1431 ?_
      refine va_sld hx hb hX hbl hbA hS (by unfold vp_in; decide) dL_law_1432 ?_
      refine lv_aload_n hx hb dL_law_1433 rfl (lv_at hl 0 rfl) ?_
      refine lv_iload_n hx hb dL_law_1434 rfl (lv_at hl 3 rfl) ?_
      refine lv_iconst (v := (2 : Int32)) hx hb dL_law_1435 (by decide) ?_
      refine lv_iadd hx hb dL_law_1436 ?_
      refine va_sld hx hb hX hbl hbA hS (by unfold vp_in; decide) dL_law_1437 ?_
      refine lv_aload_n hx hb dL_law_1438 rfl (lv_at hl 0 rfl) ?_
      refine lv_iload_n hx hb dL_law_1439 rfl (lv_at hl 3 rfl) ?_
      refine lv_iconst (v := (3 : Int32)) hx hb dL_law_1440 (by decide) ?_
      refine lv_iadd hx hb dL_law_1441 ?_
      refine va_sld hx hb hX hbl hbA hS (by unfold vp_in; decide) dL_law_1442 ?_
      refine lv_aload_n hx hb dL_law_1443 rfl (lv_at hl 0 rfl) ?_
      refine lv_iload_n hx hb dL_law_1444 rfl (lv_at hl 3 rfl) ?_
      refine lv_iconst (v := (4 : Int32)) hx hb dL_law_1445 (by decide) ?_
      refine lv_iadd hx hb dL_law_1446 ?_
      refine va_sld hx hb hX hbl hbA hS (by unfold vp_in; decide) dL_law_1447 ?_
      refine lv_aload_n hx hb dL_law_1448 rfl (lv_at hl 0 rfl) ?_
      refine lv_iload_n hx hb dL_law_1449 rfl (lv_at hl 3 rfl) ?_
      refine lv_iconst (v := (5 : Int32)) hx hb dL_law_1450 (by decide) ?_
      refine lv_iadd hx hb dL_law_1451 ?_
      refine va_sld hx hb hX hbl hbA hS (by unfold vp_in; decide) dL_law_1452 ?_
      refine zk_vi (post := (fun r u => (r, u) = R1)) (w1 := fun u => (wl_X11_shiftB ad cs (ae 10) (ae 11) (ae 12) (ae 13) pf (-1) 0 0 (-1) 0 0)) (As := [.int (xs ((0 : Int32) + (1 : Int32)).toNatClampNeg), .int (xs ((0 : Int32) + (2 : Int32)).toNatClampNeg), .int (xs ((0 : Int32) + (3 : Int32)).toNatClampNeg), .int (xs ((0 : Int32) + (4 : Int32)).toNatClampNeg), .int (xs ((0 : Int32) + (5 : Int32)).toNatClampNeg)]) (rest := []) (c_X11_shiftB l D cs ad (ae 10) (ae 11) (ae 12) (ae 13)  H.size (xs ((0 : Int32) + (1 : Int32)).toNatClampNeg) (xs ((0 : Int32) + (2 : Int32)).toNatClampNeg) (xs ((0 : Int32) + (3 : Int32)).toNatClampNeg) (xs ((0 : Int32) + (4 : Int32)).toNatClampNeg) (xs ((0 : Int32) + (5 : Int32)).toNatClampNeg) pf (-1) 0 0 (-1) 0 0 R1 h1) ⟨hx, hb, hml, hown, ht⟩ (cwV 5 ht gl_162 rfl rfl rfl (by decide +kernel) ⟨Nat.le_of_ble_eq_true rfl, Nat.le_of_ble_eq_true rfl⟩) (va_recv hK hP (ci := 11) (q0 := 0) rfl rfl) hP hD hS hK hA [0, 1, 51, 53] [55, 56, 57, 58, 59, 60, 61, 62, 63, 64, 65, 66, 67, 68, 69, 70, 71, 72, 73, 74, 75, 76, 77, 78, 79, 80, 81, 82, 83, 84, 85, 86, 87, 88, 89, 90, 91, 92, 93, 94, 95, 96, 97, 98] rfl rfl law_hR law_nd (law_dis rfl) rfl hl.1 (Nat.le_of_ble_eq_true rfl) dL_law_1453 ⟨Nat.le_of_ble_eq_true rfl, Nat.le_of_ble_eq_true rfl⟩ (fun r1 u1 H locs hq1 hP hD hS => ?_)
      have e1 : r1 = R1.1 := congrArg Prod.fst hq1
      rw [law_fm] at hP hD
      refine lv_aload_n hx hb dL_law_1456 rfl (lv_at hl 2 rfl) ?_
      refine lv_aload_n hx hb dL_law_1457 rfl (lv_at hl 0 rfl) ?_
      refine lv_iload_n hx hb dL_law_1458 rfl (lv_at hl 3 rfl) ?_
      refine lv_iconst (v := (1 : Int32)) hx hb dL_law_1459 (by decide) ?_
      refine lv_iadd hx hb dL_law_1460 ?_
      refine va_sld hx hb hX hbl hbA hS (by unfold vp_in; decide) dL_law_1461 ?_
      refine lv_aload_n hx hb dL_law_1462 rfl (lv_at hl 0 rfl) ?_
      refine lv_iload_n hx hb dL_law_1463 rfl (lv_at hl 3 rfl) ?_
      refine lv_iconst (v := (2 : Int32)) hx hb dL_law_1464 (by decide) ?_
      refine lv_iadd hx hb dL_law_1465 ?_
      refine va_sld hx hb hX hbl hbA hS (by unfold vp_in; decide) dL_law_1466 ?_
      refine lv_aload_n hx hb dL_law_1467 rfl (lv_at hl 0 rfl) ?_
      refine lv_iload_n hx hb dL_law_1468 rfl (lv_at hl 3 rfl) ?_
      refine lv_iconst (v := (3 : Int32)) hx hb dL_law_1469 (by decide) ?_
      refine lv_iadd hx hb dL_law_1470 ?_
      refine va_sld hx hb hX hbl hbA hS (by unfold vp_in; decide) dL_law_1471 ?_
      refine lv_aload_n hx hb dL_law_1472 rfl (lv_at hl 0 rfl) ?_
      refine lv_iload_n hx hb dL_law_1473 rfl (lv_at hl 3 rfl) ?_
      refine lv_iconst (v := (4 : Int32)) hx hb dL_law_1474 (by decide) ?_
      refine lv_iadd hx hb dL_law_1475 ?_
      refine va_sld hx hb hX hbl hbA hS (by unfold vp_in; decide) dL_law_1476 ?_
      refine lv_aload_n hx hb dL_law_1477 rfl (lv_at hl 0 rfl) ?_
      refine lv_iload_n hx hb dL_law_1478 rfl (lv_at hl 3 rfl) ?_
      refine lv_iconst (v := (5 : Int32)) hx hb dL_law_1479 (by decide) ?_
      refine lv_iadd hx hb dL_law_1480 ?_
      refine va_sld hx hb hX hbl hbA hS (by unfold vp_in; decide) dL_law_1481 ?_
      refine zk_vi (post := (fun r u => (r, u) = R2)) (w1 := fun u => (wl_X12_shift am cs 0 0 0 0 0 0 0 0 0 0 0 0 0 0 0 0 0 ((upd (upd (upd (upd (upd (upd (fun _ => 0) ((0 : Int32)).toNatClampNeg (-1 : Int32)) ((1 : Int32)).toNatClampNeg (-1 : Int32)) ((2 : Int32)).toNatClampNeg (-1 : Int32)) ((3 : Int32)).toNatClampNeg (-1 : Int32)) ((4 : Int32)).toNatClampNeg (-1 : Int32)) ((5 : Int32)).toNatClampNeg (-1 : Int32))) ((fun _ => 0)) u.1 u.2)) (As := [.int (xs ((0 : Int32) + (1 : Int32)).toNatClampNeg), .int (xs ((0 : Int32) + (2 : Int32)).toNatClampNeg), .int (xs ((0 : Int32) + (3 : Int32)).toNatClampNeg), .int (xs ((0 : Int32) + (4 : Int32)).toNatClampNeg), .int (xs ((0 : Int32) + (5 : Int32)).toNatClampNeg)]) (rest := [.int r1]) (c_X12_shift l D cs am   H.size 4000 (xs ((0 : Int32) + (1 : Int32)).toNatClampNeg) (xs ((0 : Int32) + (2 : Int32)).toNatClampNeg) (xs ((0 : Int32) + (3 : Int32)).toNatClampNeg) (xs ((0 : Int32) + (4 : Int32)).toNatClampNeg) (xs ((0 : Int32) + (5 : Int32)).toNatClampNeg) 0 0 0 0 0 0 0 0 0 0 0 0 0 0 0 0 0 ((upd (upd (upd (upd (upd (upd (fun _ => 0) ((0 : Int32)).toNatClampNeg (-1 : Int32)) ((1 : Int32)).toNatClampNeg (-1 : Int32)) ((2 : Int32)).toNatClampNeg (-1 : Int32)) ((3 : Int32)).toNatClampNeg (-1 : Int32)) ((4 : Int32)).toNatClampNeg (-1 : Int32)) ((5 : Int32)).toNatClampNeg (-1 : Int32))) ((fun _ => 0)) ((fun _ => 0)) ((fun _ => 0)) R2 h2) ⟨hx, hb, hml, hown, ht⟩ (cwV 5 ht gl_166 rfl rfl rfl (by decide +kernel) ⟨Nat.le_of_ble_eq_true rfl, Nat.le_of_ble_eq_true rfl⟩) (va_recv hK hP (ci := 12) (q0 := 0) rfl rfl) hP hD hS hK hA [0, 40, 41, 42, 43] [] rfl rfl rfl rfl (by decide) rfl hl.1 (Nat.le_of_ble_eq_true rfl) dL_law_1482 ⟨Nat.le_of_ble_eq_true rfl, Nat.le_of_ble_eq_true rfl⟩ (fun r2 u2 H locs hq2 hP hD hS => ?_)
      have e2 : r2 = R2.1 := congrArg Prod.fst hq2
      have EQ : r1 = r2 := by rw [e1, e2]; exact eq
      refine lv_icmp_eq (tgt := 1546) hx hb dL_law_1485 (by decide) (fun cc => ?_) (fun cc => absurd EQ cc)
      exact law_next C0 (by decide) (by decide) H locs ls hS (lv_sub hl [0, 3] rfl)
  · obtain ⟨j1, hj1, hp1⟩ := zk_pl (xs ((0 : Int32) + (3 : Int32)).toNatClampNeg)
    rcases (show j1 = 0 ∨ j1 = 1 ∨ j1 = 2 ∨ j1 = 3 ∨ j1 = 4 ∨ j1 = 5 by omega) with rfl | rfl | rfl | rfl | rfl | rfl
    · obtain ⟨R1, R2, h1, h2, eq⟩ := pe_shift (g := g) (pf := pf) (ae := ae) (wb := wb) GF PF 5 (by omega) 0 (by omega) (xs ((0 : Int32) + (1 : Int32)).toNatClampNeg) (xs ((0 : Int32) + (2 : Int32)).toNatClampNeg) (xs ((0 : Int32) + (3 : Int32)).toNatClampNeg) (xs ((0 : Int32) + (4 : Int32)).toNatClampNeg) (xs ((0 : Int32) + (5 : Int32)).toNatClampNeg) hp0 hp1
      refine lv_aload_n hx hb dL_law_1427 rfl (lv_at hl 1 rfl) ?_
      refine lv_aload_n hx hb dL_law_1428 rfl (lv_at hl 0 rfl) ?_
      refine lv_iload_n hx hb dL_law_1429 rfl (lv_at hl 3 rfl) ?_
      refine lv_iconst (v := (1 : Int32)) hx hb dL_law_1430 (by decide) ?_
      refine lv_iadd hx hb dL_law_1431 ?_
      refine va_sld hx hb hX hbl hbA hS (by unfold vp_in; decide) dL_law_1432 ?_
      refine lv_aload_n hx hb dL_law_1433 rfl (lv_at hl 0 rfl) ?_
      refine lv_iload_n hx hb dL_law_1434 rfl (lv_at hl 3 rfl) ?_
      refine lv_iconst (v := (2 : Int32)) hx hb dL_law_1435 (by decide) ?_
      refine lv_iadd hx hb dL_law_1436 ?_
      refine va_sld hx hb hX hbl hbA hS (by unfold vp_in; decide) dL_law_1437 ?_
      refine lv_aload_n hx hb dL_law_1438 rfl (lv_at hl 0 rfl) ?_
      refine lv_iload_n hx hb dL_law_1439 rfl (lv_at hl 3 rfl) ?_
      refine lv_iconst (v := (3 : Int32)) hx hb dL_law_1440 (by decide) ?_
      refine lv_iadd hx hb dL_law_1441 ?_
      refine va_sld hx hb hX hbl hbA hS (by unfold vp_in; decide) dL_law_1442 ?_
      refine lv_aload_n hx hb dL_law_1443 rfl (lv_at hl 0 rfl) ?_
      refine lv_iload_n hx hb dL_law_1444 rfl (lv_at hl 3 rfl) ?_
      refine lv_iconst (v := (4 : Int32)) hx hb dL_law_1445 (by decide) ?_
      refine lv_iadd hx hb dL_law_1446 ?_
      refine va_sld hx hb hX hbl hbA hS (by unfold vp_in; decide) dL_law_1447 ?_
      refine lv_aload_n hx hb dL_law_1448 rfl (lv_at hl 0 rfl) ?_
      refine lv_iload_n hx hb dL_law_1449 rfl (lv_at hl 3 rfl) ?_
      refine lv_iconst (v := (5 : Int32)) hx hb dL_law_1450 (by decide) ?_
      refine lv_iadd hx hb dL_law_1451 ?_
      refine va_sld hx hb hX hbl hbA hS (by unfold vp_in; decide) dL_law_1452 ?_
      refine zk_vi (post := (fun r u => (r, u) = R1)) (w1 := fun u => (wl_X11_shiftB ad cs (ae 12) (ae 13) (ae 2) (ae 3) pf (-1) 0 0 (-1) 0 0)) (As := [.int (xs ((0 : Int32) + (1 : Int32)).toNatClampNeg), .int (xs ((0 : Int32) + (2 : Int32)).toNatClampNeg), .int (xs ((0 : Int32) + (3 : Int32)).toNatClampNeg), .int (xs ((0 : Int32) + (4 : Int32)).toNatClampNeg), .int (xs ((0 : Int32) + (5 : Int32)).toNatClampNeg)]) (rest := []) (c_X11_shiftB l D cs ad (ae 12) (ae 13) (ae 2) (ae 3)  H.size (xs ((0 : Int32) + (1 : Int32)).toNatClampNeg) (xs ((0 : Int32) + (2 : Int32)).toNatClampNeg) (xs ((0 : Int32) + (3 : Int32)).toNatClampNeg) (xs ((0 : Int32) + (4 : Int32)).toNatClampNeg) (xs ((0 : Int32) + (5 : Int32)).toNatClampNeg) pf (-1) 0 0 (-1) 0 0 R1 h1) ⟨hx, hb, hml, hown, ht⟩ (cwV 5 ht gl_162 rfl rfl rfl (by decide +kernel) ⟨Nat.le_of_ble_eq_true rfl, Nat.le_of_ble_eq_true rfl⟩) (va_recv hK hP (ci := 11) (q0 := 0) rfl rfl) hP hD hS hK hA [0, 1, 53, 43] [55, 56, 57, 58, 59, 60, 61, 62, 63, 64, 65, 66, 67, 68, 69, 70, 71, 72, 73, 74, 75, 76, 77, 78, 79, 80, 81, 82, 83, 84, 85, 86, 87, 88, 89, 90, 91, 92, 93, 94, 95, 96, 97, 98] rfl rfl law_hR law_nd (law_dis rfl) rfl hl.1 (Nat.le_of_ble_eq_true rfl) dL_law_1453 ⟨Nat.le_of_ble_eq_true rfl, Nat.le_of_ble_eq_true rfl⟩ (fun r1 u1 H locs hq1 hP hD hS => ?_)
      have e1 : r1 = R1.1 := congrArg Prod.fst hq1
      rw [law_fm] at hP hD
      refine lv_aload_n hx hb dL_law_1456 rfl (lv_at hl 2 rfl) ?_
      refine lv_aload_n hx hb dL_law_1457 rfl (lv_at hl 0 rfl) ?_
      refine lv_iload_n hx hb dL_law_1458 rfl (lv_at hl 3 rfl) ?_
      refine lv_iconst (v := (1 : Int32)) hx hb dL_law_1459 (by decide) ?_
      refine lv_iadd hx hb dL_law_1460 ?_
      refine va_sld hx hb hX hbl hbA hS (by unfold vp_in; decide) dL_law_1461 ?_
      refine lv_aload_n hx hb dL_law_1462 rfl (lv_at hl 0 rfl) ?_
      refine lv_iload_n hx hb dL_law_1463 rfl (lv_at hl 3 rfl) ?_
      refine lv_iconst (v := (2 : Int32)) hx hb dL_law_1464 (by decide) ?_
      refine lv_iadd hx hb dL_law_1465 ?_
      refine va_sld hx hb hX hbl hbA hS (by unfold vp_in; decide) dL_law_1466 ?_
      refine lv_aload_n hx hb dL_law_1467 rfl (lv_at hl 0 rfl) ?_
      refine lv_iload_n hx hb dL_law_1468 rfl (lv_at hl 3 rfl) ?_
      refine lv_iconst (v := (3 : Int32)) hx hb dL_law_1469 (by decide) ?_
      refine lv_iadd hx hb dL_law_1470 ?_
      refine va_sld hx hb hX hbl hbA hS (by unfold vp_in; decide) dL_law_1471 ?_
      refine lv_aload_n hx hb dL_law_1472 rfl (lv_at hl 0 rfl) ?_
      refine lv_iload_n hx hb dL_law_1473 rfl (lv_at hl 3 rfl) ?_
      refine lv_iconst (v := (4 : Int32)) hx hb dL_law_1474 (by decide) ?_
      refine lv_iadd hx hb dL_law_1475 ?_
      refine va_sld hx hb hX hbl hbA hS (by unfold vp_in; decide) dL_law_1476 ?_
      refine lv_aload_n hx hb dL_law_1477 rfl (lv_at hl 0 rfl) ?_
      refine lv_iload_n hx hb dL_law_1478 rfl (lv_at hl 3 rfl) ?_
      refine lv_iconst (v := (5 : Int32)) hx hb dL_law_1479 (by decide) ?_
      refine lv_iadd hx hb dL_law_1480 ?_
      refine va_sld hx hb hX hbl hbA hS (by unfold vp_in; decide) dL_law_1481 ?_
      refine zk_vi (post := (fun r u => (r, u) = R2)) (w1 := fun u => (wl_X12_shift am cs 0 0 0 0 0 0 0 0 0 0 0 0 0 0 0 0 0 ((upd (upd (upd (upd (upd (upd (fun _ => 0) ((0 : Int32)).toNatClampNeg (-1 : Int32)) ((1 : Int32)).toNatClampNeg (-1 : Int32)) ((2 : Int32)).toNatClampNeg (-1 : Int32)) ((3 : Int32)).toNatClampNeg (-1 : Int32)) ((4 : Int32)).toNatClampNeg (-1 : Int32)) ((5 : Int32)).toNatClampNeg (-1 : Int32))) ((fun _ => 0)) u.1 u.2)) (As := [.int (xs ((0 : Int32) + (1 : Int32)).toNatClampNeg), .int (xs ((0 : Int32) + (2 : Int32)).toNatClampNeg), .int (xs ((0 : Int32) + (3 : Int32)).toNatClampNeg), .int (xs ((0 : Int32) + (4 : Int32)).toNatClampNeg), .int (xs ((0 : Int32) + (5 : Int32)).toNatClampNeg)]) (rest := [.int r1]) (c_X12_shift l D cs am   H.size 4000 (xs ((0 : Int32) + (1 : Int32)).toNatClampNeg) (xs ((0 : Int32) + (2 : Int32)).toNatClampNeg) (xs ((0 : Int32) + (3 : Int32)).toNatClampNeg) (xs ((0 : Int32) + (4 : Int32)).toNatClampNeg) (xs ((0 : Int32) + (5 : Int32)).toNatClampNeg) 0 0 0 0 0 0 0 0 0 0 0 0 0 0 0 0 0 ((upd (upd (upd (upd (upd (upd (fun _ => 0) ((0 : Int32)).toNatClampNeg (-1 : Int32)) ((1 : Int32)).toNatClampNeg (-1 : Int32)) ((2 : Int32)).toNatClampNeg (-1 : Int32)) ((3 : Int32)).toNatClampNeg (-1 : Int32)) ((4 : Int32)).toNatClampNeg (-1 : Int32)) ((5 : Int32)).toNatClampNeg (-1 : Int32))) ((fun _ => 0)) ((fun _ => 0)) ((fun _ => 0)) R2 h2) ⟨hx, hb, hml, hown, ht⟩ (cwV 5 ht gl_166 rfl rfl rfl (by decide +kernel) ⟨Nat.le_of_ble_eq_true rfl, Nat.le_of_ble_eq_true rfl⟩) (va_recv hK hP (ci := 12) (q0 := 0) rfl rfl) hP hD hS hK hA [0, 40, 41, 42, 43] [] rfl rfl rfl rfl (by decide) rfl hl.1 (Nat.le_of_ble_eq_true rfl) dL_law_1482 ⟨Nat.le_of_ble_eq_true rfl, Nat.le_of_ble_eq_true rfl⟩ (fun r2 u2 H locs hq2 hP hD hS => ?_)
      have e2 : r2 = R2.1 := congrArg Prod.fst hq2
      have EQ : r1 = r2 := by rw [e1, e2]; exact eq
      refine lv_icmp_eq (tgt := 1546) hx hb dL_law_1485 (by decide) (fun cc => ?_) (fun cc => absurd EQ cc)
      exact law_next C0 (by decide) (by decide) H locs ls hS (lv_sub hl [0, 3] rfl)
    · obtain ⟨R1, R2, h1, h2, eq⟩ := pe_shift (g := g) (pf := pf) (ae := ae) (wb := wb) GF PF 5 (by omega) 1 (by omega) (xs ((0 : Int32) + (1 : Int32)).toNatClampNeg) (xs ((0 : Int32) + (2 : Int32)).toNatClampNeg) (xs ((0 : Int32) + (3 : Int32)).toNatClampNeg) (xs ((0 : Int32) + (4 : Int32)).toNatClampNeg) (xs ((0 : Int32) + (5 : Int32)).toNatClampNeg) hp0 hp1
      refine lv_aload_n hx hb dL_law_1427 rfl (lv_at hl 1 rfl) ?_
      refine lv_aload_n hx hb dL_law_1428 rfl (lv_at hl 0 rfl) ?_
      refine lv_iload_n hx hb dL_law_1429 rfl (lv_at hl 3 rfl) ?_
      refine lv_iconst (v := (1 : Int32)) hx hb dL_law_1430 (by decide) ?_
      refine lv_iadd hx hb dL_law_1431 ?_
      refine va_sld hx hb hX hbl hbA hS (by unfold vp_in; decide) dL_law_1432 ?_
      refine lv_aload_n hx hb dL_law_1433 rfl (lv_at hl 0 rfl) ?_
      refine lv_iload_n hx hb dL_law_1434 rfl (lv_at hl 3 rfl) ?_
      refine lv_iconst (v := (2 : Int32)) hx hb dL_law_1435 (by decide) ?_
      refine lv_iadd hx hb dL_law_1436 ?_
      refine va_sld hx hb hX hbl hbA hS (by unfold vp_in; decide) dL_law_1437 ?_
      refine lv_aload_n hx hb dL_law_1438 rfl (lv_at hl 0 rfl) ?_
      refine lv_iload_n hx hb dL_law_1439 rfl (lv_at hl 3 rfl) ?_
      refine lv_iconst (v := (3 : Int32)) hx hb dL_law_1440 (by decide) ?_
      refine lv_iadd hx hb dL_law_1441 ?_
      refine va_sld hx hb hX hbl hbA hS (by unfold vp_in; decide) dL_law_1442 ?_
      refine lv_aload_n hx hb dL_law_1443 rfl (lv_at hl 0 rfl) ?_
      refine lv_iload_n hx hb dL_law_1444 rfl (lv_at hl 3 rfl) ?_
      refine lv_iconst (v := (4 : Int32)) hx hb dL_law_1445 (by decide) ?_
      refine lv_iadd hx hb dL_law_1446 ?_
      refine va_sld hx hb hX hbl hbA hS (by unfold vp_in; decide) dL_law_1447 ?_
      refine lv_aload_n hx hb dL_law_1448 rfl (lv_at hl 0 rfl) ?_
      refine lv_iload_n hx hb dL_law_1449 rfl (lv_at hl 3 rfl) ?_
      refine lv_iconst (v := (5 : Int32)) hx hb dL_law_1450 (by decide) ?_
      refine lv_iadd hx hb dL_law_1451 ?_
      refine va_sld hx hb hX hbl hbA hS (by unfold vp_in; decide) dL_law_1452 ?_
      refine zk_vi (post := (fun r u => (r, u) = R1)) (w1 := fun u => (wl_X11_shiftB ad cs (ae 12) (ae 13) (ae 4) (ae 5) pf (-1) 0 0 (-1) 0 0)) (As := [.int (xs ((0 : Int32) + (1 : Int32)).toNatClampNeg), .int (xs ((0 : Int32) + (2 : Int32)).toNatClampNeg), .int (xs ((0 : Int32) + (3 : Int32)).toNatClampNeg), .int (xs ((0 : Int32) + (4 : Int32)).toNatClampNeg), .int (xs ((0 : Int32) + (5 : Int32)).toNatClampNeg)]) (rest := []) (c_X11_shiftB l D cs ad (ae 12) (ae 13) (ae 4) (ae 5)  H.size (xs ((0 : Int32) + (1 : Int32)).toNatClampNeg) (xs ((0 : Int32) + (2 : Int32)).toNatClampNeg) (xs ((0 : Int32) + (3 : Int32)).toNatClampNeg) (xs ((0 : Int32) + (4 : Int32)).toNatClampNeg) (xs ((0 : Int32) + (5 : Int32)).toNatClampNeg) pf (-1) 0 0 (-1) 0 0 R1 h1) ⟨hx, hb, hml, hown, ht⟩ (cwV 5 ht gl_162 rfl rfl rfl (by decide +kernel) ⟨Nat.le_of_ble_eq_true rfl, Nat.le_of_ble_eq_true rfl⟩) (va_recv hK hP (ci := 11) (q0 := 0) rfl rfl) hP hD hS hK hA [0, 1, 53, 45] [55, 56, 57, 58, 59, 60, 61, 62, 63, 64, 65, 66, 67, 68, 69, 70, 71, 72, 73, 74, 75, 76, 77, 78, 79, 80, 81, 82, 83, 84, 85, 86, 87, 88, 89, 90, 91, 92, 93, 94, 95, 96, 97, 98] rfl rfl law_hR law_nd (law_dis rfl) rfl hl.1 (Nat.le_of_ble_eq_true rfl) dL_law_1453 ⟨Nat.le_of_ble_eq_true rfl, Nat.le_of_ble_eq_true rfl⟩ (fun r1 u1 H locs hq1 hP hD hS => ?_)
      have e1 : r1 = R1.1 := congrArg Prod.fst hq1
      rw [law_fm] at hP hD
      refine lv_aload_n hx hb dL_law_1456 rfl (lv_at hl 2 rfl) ?_
      refine lv_aload_n hx hb dL_law_1457 rfl (lv_at hl 0 rfl) ?_
      refine lv_iload_n hx hb dL_law_1458 rfl (lv_at hl 3 rfl) ?_
      refine lv_iconst (v := (1 : Int32)) hx hb dL_law_1459 (by decide) ?_
      refine lv_iadd hx hb dL_law_1460 ?_
      refine va_sld hx hb hX hbl hbA hS (by unfold vp_in; decide) dL_law_1461 ?_
      refine lv_aload_n hx hb dL_law_1462 rfl (lv_at hl 0 rfl) ?_
      refine lv_iload_n hx hb dL_law_1463 rfl (lv_at hl 3 rfl) ?_
      refine lv_iconst (v := (2 : Int32)) hx hb dL_law_1464 (by decide) ?_
      refine lv_iadd hx hb dL_law_1465 ?_
      refine va_sld hx hb hX hbl hbA hS (by unfold vp_in; decide) dL_law_1466 ?_
      refine lv_aload_n hx hb dL_law_1467 rfl (lv_at hl 0 rfl) ?_
      refine lv_iload_n hx hb dL_law_1468 rfl (lv_at hl 3 rfl) ?_
      refine lv_iconst (v := (3 : Int32)) hx hb dL_law_1469 (by decide) ?_
      refine lv_iadd hx hb dL_law_1470 ?_
      refine va_sld hx hb hX hbl hbA hS (by unfold vp_in; decide) dL_law_1471 ?_
      refine lv_aload_n hx hb dL_law_1472 rfl (lv_at hl 0 rfl) ?_
      refine lv_iload_n hx hb dL_law_1473 rfl (lv_at hl 3 rfl) ?_
      refine lv_iconst (v := (4 : Int32)) hx hb dL_law_1474 (by decide) ?_
      refine lv_iadd hx hb dL_law_1475 ?_
      refine va_sld hx hb hX hbl hbA hS (by unfold vp_in; decide) dL_law_1476 ?_
      refine lv_aload_n hx hb dL_law_1477 rfl (lv_at hl 0 rfl) ?_
      refine lv_iload_n hx hb dL_law_1478 rfl (lv_at hl 3 rfl) ?_
      refine lv_iconst (v := (5 : Int32)) hx hb dL_law_1479 (by decide) ?_
      refine lv_iadd hx hb dL_law_1480 ?_
      refine va_sld hx hb hX hbl hbA hS (by unfold vp_in; decide) dL_law_1481 ?_
      refine zk_vi (post := (fun r u => (r, u) = R2)) (w1 := fun u => (wl_X12_shift am cs 0 0 0 0 0 0 0 0 0 0 0 0 0 0 0 0 0 ((upd (upd (upd (upd (upd (upd (fun _ => 0) ((0 : Int32)).toNatClampNeg (-1 : Int32)) ((1 : Int32)).toNatClampNeg (-1 : Int32)) ((2 : Int32)).toNatClampNeg (-1 : Int32)) ((3 : Int32)).toNatClampNeg (-1 : Int32)) ((4 : Int32)).toNatClampNeg (-1 : Int32)) ((5 : Int32)).toNatClampNeg (-1 : Int32))) ((fun _ => 0)) u.1 u.2)) (As := [.int (xs ((0 : Int32) + (1 : Int32)).toNatClampNeg), .int (xs ((0 : Int32) + (2 : Int32)).toNatClampNeg), .int (xs ((0 : Int32) + (3 : Int32)).toNatClampNeg), .int (xs ((0 : Int32) + (4 : Int32)).toNatClampNeg), .int (xs ((0 : Int32) + (5 : Int32)).toNatClampNeg)]) (rest := [.int r1]) (c_X12_shift l D cs am   H.size 4000 (xs ((0 : Int32) + (1 : Int32)).toNatClampNeg) (xs ((0 : Int32) + (2 : Int32)).toNatClampNeg) (xs ((0 : Int32) + (3 : Int32)).toNatClampNeg) (xs ((0 : Int32) + (4 : Int32)).toNatClampNeg) (xs ((0 : Int32) + (5 : Int32)).toNatClampNeg) 0 0 0 0 0 0 0 0 0 0 0 0 0 0 0 0 0 ((upd (upd (upd (upd (upd (upd (fun _ => 0) ((0 : Int32)).toNatClampNeg (-1 : Int32)) ((1 : Int32)).toNatClampNeg (-1 : Int32)) ((2 : Int32)).toNatClampNeg (-1 : Int32)) ((3 : Int32)).toNatClampNeg (-1 : Int32)) ((4 : Int32)).toNatClampNeg (-1 : Int32)) ((5 : Int32)).toNatClampNeg (-1 : Int32))) ((fun _ => 0)) ((fun _ => 0)) ((fun _ => 0)) R2 h2) ⟨hx, hb, hml, hown, ht⟩ (cwV 5 ht gl_166 rfl rfl rfl (by decide +kernel) ⟨Nat.le_of_ble_eq_true rfl, Nat.le_of_ble_eq_true rfl⟩) (va_recv hK hP (ci := 12) (q0 := 0) rfl rfl) hP hD hS hK hA [0, 40, 41, 42, 43] [] rfl rfl rfl rfl (by decide) rfl hl.1 (Nat.le_of_ble_eq_true rfl) dL_law_1482 ⟨Nat.le_of_ble_eq_true rfl, Nat.le_of_ble_eq_true rfl⟩ (fun r2 u2 H locs hq2 hP hD hS => ?_)
      have e2 : r2 = R2.1 := congrArg Prod.fst hq2
      have EQ : r1 = r2 := by rw [e1, e2]; exact eq
      refine lv_icmp_eq (tgt := 1546) hx hb dL_law_1485 (by decide) (fun cc => ?_) (fun cc => absurd EQ cc)
      exact law_next C0 (by decide) (by decide) H locs ls hS (lv_sub hl [0, 3] rfl)
    · obtain ⟨R1, R2, h1, h2, eq⟩ := pe_shift (g := g) (pf := pf) (ae := ae) (wb := wb) GF PF 5 (by omega) 2 (by omega) (xs ((0 : Int32) + (1 : Int32)).toNatClampNeg) (xs ((0 : Int32) + (2 : Int32)).toNatClampNeg) (xs ((0 : Int32) + (3 : Int32)).toNatClampNeg) (xs ((0 : Int32) + (4 : Int32)).toNatClampNeg) (xs ((0 : Int32) + (5 : Int32)).toNatClampNeg) hp0 hp1
      refine lv_aload_n hx hb dL_law_1427 rfl (lv_at hl 1 rfl) ?_
      refine lv_aload_n hx hb dL_law_1428 rfl (lv_at hl 0 rfl) ?_
      refine lv_iload_n hx hb dL_law_1429 rfl (lv_at hl 3 rfl) ?_
      refine lv_iconst (v := (1 : Int32)) hx hb dL_law_1430 (by decide) ?_
      refine lv_iadd hx hb dL_law_1431 ?_
      refine va_sld hx hb hX hbl hbA hS (by unfold vp_in; decide) dL_law_1432 ?_
      refine lv_aload_n hx hb dL_law_1433 rfl (lv_at hl 0 rfl) ?_
      refine lv_iload_n hx hb dL_law_1434 rfl (lv_at hl 3 rfl) ?_
      refine lv_iconst (v := (2 : Int32)) hx hb dL_law_1435 (by decide) ?_
      refine lv_iadd hx hb dL_law_1436 ?_
      refine va_sld hx hb hX hbl hbA hS (by unfold vp_in; decide) dL_law_1437 ?_
      refine lv_aload_n hx hb dL_law_1438 rfl (lv_at hl 0 rfl) ?_
      refine lv_iload_n hx hb dL_law_1439 rfl (lv_at hl 3 rfl) ?_
      refine lv_iconst (v := (3 : Int32)) hx hb dL_law_1440 (by decide) ?_
      refine lv_iadd hx hb dL_law_1441 ?_
      refine va_sld hx hb hX hbl hbA hS (by unfold vp_in; decide) dL_law_1442 ?_
      refine lv_aload_n hx hb dL_law_1443 rfl (lv_at hl 0 rfl) ?_
      refine lv_iload_n hx hb dL_law_1444 rfl (lv_at hl 3 rfl) ?_
      refine lv_iconst (v := (4 : Int32)) hx hb dL_law_1445 (by decide) ?_
      refine lv_iadd hx hb dL_law_1446 ?_
      refine va_sld hx hb hX hbl hbA hS (by unfold vp_in; decide) dL_law_1447 ?_
      refine lv_aload_n hx hb dL_law_1448 rfl (lv_at hl 0 rfl) ?_
      refine lv_iload_n hx hb dL_law_1449 rfl (lv_at hl 3 rfl) ?_
      refine lv_iconst (v := (5 : Int32)) hx hb dL_law_1450 (by decide) ?_
      refine lv_iadd hx hb dL_law_1451 ?_
      refine va_sld hx hb hX hbl hbA hS (by unfold vp_in; decide) dL_law_1452 ?_
      refine zk_vi (post := (fun r u => (r, u) = R1)) (w1 := fun u => (wl_X11_shiftB ad cs (ae 12) (ae 13) (ae 6) (ae 7) pf (-1) 0 0 (-1) 0 0)) (As := [.int (xs ((0 : Int32) + (1 : Int32)).toNatClampNeg), .int (xs ((0 : Int32) + (2 : Int32)).toNatClampNeg), .int (xs ((0 : Int32) + (3 : Int32)).toNatClampNeg), .int (xs ((0 : Int32) + (4 : Int32)).toNatClampNeg), .int (xs ((0 : Int32) + (5 : Int32)).toNatClampNeg)]) (rest := []) (c_X11_shiftB l D cs ad (ae 12) (ae 13) (ae 6) (ae 7)  H.size (xs ((0 : Int32) + (1 : Int32)).toNatClampNeg) (xs ((0 : Int32) + (2 : Int32)).toNatClampNeg) (xs ((0 : Int32) + (3 : Int32)).toNatClampNeg) (xs ((0 : Int32) + (4 : Int32)).toNatClampNeg) (xs ((0 : Int32) + (5 : Int32)).toNatClampNeg) pf (-1) 0 0 (-1) 0 0 R1 h1) ⟨hx, hb, hml, hown, ht⟩ (cwV 5 ht gl_162 rfl rfl rfl (by decide +kernel) ⟨Nat.le_of_ble_eq_true rfl, Nat.le_of_ble_eq_true rfl⟩) (va_recv hK hP (ci := 11) (q0 := 0) rfl rfl) hP hD hS hK hA [0, 1, 53, 47] [55, 56, 57, 58, 59, 60, 61, 62, 63, 64, 65, 66, 67, 68, 69, 70, 71, 72, 73, 74, 75, 76, 77, 78, 79, 80, 81, 82, 83, 84, 85, 86, 87, 88, 89, 90, 91, 92, 93, 94, 95, 96, 97, 98] rfl rfl law_hR law_nd (law_dis rfl) rfl hl.1 (Nat.le_of_ble_eq_true rfl) dL_law_1453 ⟨Nat.le_of_ble_eq_true rfl, Nat.le_of_ble_eq_true rfl⟩ (fun r1 u1 H locs hq1 hP hD hS => ?_)
      have e1 : r1 = R1.1 := congrArg Prod.fst hq1
      rw [law_fm] at hP hD
      refine lv_aload_n hx hb dL_law_1456 rfl (lv_at hl 2 rfl) ?_
      refine lv_aload_n hx hb dL_law_1457 rfl (lv_at hl 0 rfl) ?_
      refine lv_iload_n hx hb dL_law_1458 rfl (lv_at hl 3 rfl) ?_
      refine lv_iconst (v := (1 : Int32)) hx hb dL_law_1459 (by decide) ?_
      refine lv_iadd hx hb dL_law_1460 ?_
      refine va_sld hx hb hX hbl hbA hS (by unfold vp_in; decide) dL_law_1461 ?_
      refine lv_aload_n hx hb dL_law_1462 rfl (lv_at hl 0 rfl) ?_
      refine lv_iload_n hx hb dL_law_1463 rfl (lv_at hl 3 rfl) ?_
      refine lv_iconst (v := (2 : Int32)) hx hb dL_law_1464 (by decide) ?_
      refine lv_iadd hx hb dL_law_1465 ?_
      refine va_sld hx hb hX hbl hbA hS (by unfold vp_in; decide) dL_law_1466 ?_
      refine lv_aload_n hx hb dL_law_1467 rfl (lv_at hl 0 rfl) ?_
      refine lv_iload_n hx hb dL_law_1468 rfl (lv_at hl 3 rfl) ?_
      refine lv_iconst (v := (3 : Int32)) hx hb dL_law_1469 (by decide) ?_
      refine lv_iadd hx hb dL_law_1470 ?_
      refine va_sld hx hb hX hbl hbA hS (by unfold vp_in; decide) dL_law_1471 ?_
      refine lv_aload_n hx hb dL_law_1472 rfl (lv_at hl 0 rfl) ?_
      refine lv_iload_n hx hb dL_law_1473 rfl (lv_at hl 3 rfl) ?_
      refine lv_iconst (v := (4 : Int32)) hx hb dL_law_1474 (by decide) ?_
      refine lv_iadd hx hb dL_law_1475 ?_
      refine va_sld hx hb hX hbl hbA hS (by unfold vp_in; decide) dL_law_1476 ?_
      refine lv_aload_n hx hb dL_law_1477 rfl (lv_at hl 0 rfl) ?_
      refine lv_iload_n hx hb dL_law_1478 rfl (lv_at hl 3 rfl) ?_
      refine lv_iconst (v := (5 : Int32)) hx hb dL_law_1479 (by decide) ?_
      refine lv_iadd hx hb dL_law_1480 ?_
      refine va_sld hx hb hX hbl hbA hS (by unfold vp_in; decide) dL_law_1481 ?_
      refine zk_vi (post := (fun r u => (r, u) = R2)) (w1 := fun u => (wl_X12_shift am cs 0 0 0 0 0 0 0 0 0 0 0 0 0 0 0 0 0 ((upd (upd (upd (upd (upd (upd (fun _ => 0) ((0 : Int32)).toNatClampNeg (-1 : Int32)) ((1 : Int32)).toNatClampNeg (-1 : Int32)) ((2 : Int32)).toNatClampNeg (-1 : Int32)) ((3 : Int32)).toNatClampNeg (-1 : Int32)) ((4 : Int32)).toNatClampNeg (-1 : Int32)) ((5 : Int32)).toNatClampNeg (-1 : Int32))) ((fun _ => 0)) u.1 u.2)) (As := [.int (xs ((0 : Int32) + (1 : Int32)).toNatClampNeg), .int (xs ((0 : Int32) + (2 : Int32)).toNatClampNeg), .int (xs ((0 : Int32) + (3 : Int32)).toNatClampNeg), .int (xs ((0 : Int32) + (4 : Int32)).toNatClampNeg), .int (xs ((0 : Int32) + (5 : Int32)).toNatClampNeg)]) (rest := [.int r1]) (c_X12_shift l D cs am   H.size 4000 (xs ((0 : Int32) + (1 : Int32)).toNatClampNeg) (xs ((0 : Int32) + (2 : Int32)).toNatClampNeg) (xs ((0 : Int32) + (3 : Int32)).toNatClampNeg) (xs ((0 : Int32) + (4 : Int32)).toNatClampNeg) (xs ((0 : Int32) + (5 : Int32)).toNatClampNeg) 0 0 0 0 0 0 0 0 0 0 0 0 0 0 0 0 0 ((upd (upd (upd (upd (upd (upd (fun _ => 0) ((0 : Int32)).toNatClampNeg (-1 : Int32)) ((1 : Int32)).toNatClampNeg (-1 : Int32)) ((2 : Int32)).toNatClampNeg (-1 : Int32)) ((3 : Int32)).toNatClampNeg (-1 : Int32)) ((4 : Int32)).toNatClampNeg (-1 : Int32)) ((5 : Int32)).toNatClampNeg (-1 : Int32))) ((fun _ => 0)) ((fun _ => 0)) ((fun _ => 0)) R2 h2) ⟨hx, hb, hml, hown, ht⟩ (cwV 5 ht gl_166 rfl rfl rfl (by decide +kernel) ⟨Nat.le_of_ble_eq_true rfl, Nat.le_of_ble_eq_true rfl⟩) (va_recv hK hP (ci := 12) (q0 := 0) rfl rfl) hP hD hS hK hA [0, 40, 41, 42, 43] [] rfl rfl rfl rfl (by decide) rfl hl.1 (Nat.le_of_ble_eq_true rfl) dL_law_1482 ⟨Nat.le_of_ble_eq_true rfl, Nat.le_of_ble_eq_true rfl⟩ (fun r2 u2 H locs hq2 hP hD hS => ?_)
      have e2 : r2 = R2.1 := congrArg Prod.fst hq2
      have EQ : r1 = r2 := by rw [e1, e2]; exact eq
      refine lv_icmp_eq (tgt := 1546) hx hb dL_law_1485 (by decide) (fun cc => ?_) (fun cc => absurd EQ cc)
      exact law_next C0 (by decide) (by decide) H locs ls hS (lv_sub hl [0, 3] rfl)
    · obtain ⟨R1, R2, h1, h2, eq⟩ := pe_shift (g := g) (pf := pf) (ae := ae) (wb := wb) GF PF 5 (by omega) 3 (by omega) (xs ((0 : Int32) + (1 : Int32)).toNatClampNeg) (xs ((0 : Int32) + (2 : Int32)).toNatClampNeg) (xs ((0 : Int32) + (3 : Int32)).toNatClampNeg) (xs ((0 : Int32) + (4 : Int32)).toNatClampNeg) (xs ((0 : Int32) + (5 : Int32)).toNatClampNeg) hp0 hp1
      refine lv_aload_n hx hb dL_law_1427 rfl (lv_at hl 1 rfl) ?_
      refine lv_aload_n hx hb dL_law_1428 rfl (lv_at hl 0 rfl) ?_
      refine lv_iload_n hx hb dL_law_1429 rfl (lv_at hl 3 rfl) ?_
      refine lv_iconst (v := (1 : Int32)) hx hb dL_law_1430 (by decide) ?_
      refine lv_iadd hx hb dL_law_1431 ?_
      refine va_sld hx hb hX hbl hbA hS (by unfold vp_in; decide) dL_law_1432 ?_
      refine lv_aload_n hx hb dL_law_1433 rfl (lv_at hl 0 rfl) ?_
      refine lv_iload_n hx hb dL_law_1434 rfl (lv_at hl 3 rfl) ?_
      refine lv_iconst (v := (2 : Int32)) hx hb dL_law_1435 (by decide) ?_
      refine lv_iadd hx hb dL_law_1436 ?_
      refine va_sld hx hb hX hbl hbA hS (by unfold vp_in; decide) dL_law_1437 ?_
      refine lv_aload_n hx hb dL_law_1438 rfl (lv_at hl 0 rfl) ?_
      refine lv_iload_n hx hb dL_law_1439 rfl (lv_at hl 3 rfl) ?_
      refine lv_iconst (v := (3 : Int32)) hx hb dL_law_1440 (by decide) ?_
      refine lv_iadd hx hb dL_law_1441 ?_
      refine va_sld hx hb hX hbl hbA hS (by unfold vp_in; decide) dL_law_1442 ?_
      refine lv_aload_n hx hb dL_law_1443 rfl (lv_at hl 0 rfl) ?_
      refine lv_iload_n hx hb dL_law_1444 rfl (lv_at hl 3 rfl) ?_
      refine lv_iconst (v := (4 : Int32)) hx hb dL_law_1445 (by decide) ?_
      refine lv_iadd hx hb dL_law_1446 ?_
      refine va_sld hx hb hX hbl hbA hS (by unfold vp_in; decide) dL_law_1447 ?_
      refine lv_aload_n hx hb dL_law_1448 rfl (lv_at hl 0 rfl) ?_
      refine lv_iload_n hx hb dL_law_1449 rfl (lv_at hl 3 rfl) ?_
      refine lv_iconst (v := (5 : Int32)) hx hb dL_law_1450 (by decide) ?_
      refine lv_iadd hx hb dL_law_1451 ?_
      refine va_sld hx hb hX hbl hbA hS (by unfold vp_in; decide) dL_law_1452 ?_
      refine zk_vi (post := (fun r u => (r, u) = R1)) (w1 := fun u => (wl_X11_shiftB ad cs (ae 12) (ae 13) (ae 8) (ae 9) pf (-1) 0 0 (-1) 0 0)) (As := [.int (xs ((0 : Int32) + (1 : Int32)).toNatClampNeg), .int (xs ((0 : Int32) + (2 : Int32)).toNatClampNeg), .int (xs ((0 : Int32) + (3 : Int32)).toNatClampNeg), .int (xs ((0 : Int32) + (4 : Int32)).toNatClampNeg), .int (xs ((0 : Int32) + (5 : Int32)).toNatClampNeg)]) (rest := []) (c_X11_shiftB l D cs ad (ae 12) (ae 13) (ae 8) (ae 9)  H.size (xs ((0 : Int32) + (1 : Int32)).toNatClampNeg) (xs ((0 : Int32) + (2 : Int32)).toNatClampNeg) (xs ((0 : Int32) + (3 : Int32)).toNatClampNeg) (xs ((0 : Int32) + (4 : Int32)).toNatClampNeg) (xs ((0 : Int32) + (5 : Int32)).toNatClampNeg) pf (-1) 0 0 (-1) 0 0 R1 h1) ⟨hx, hb, hml, hown, ht⟩ (cwV 5 ht gl_162 rfl rfl rfl (by decide +kernel) ⟨Nat.le_of_ble_eq_true rfl, Nat.le_of_ble_eq_true rfl⟩) (va_recv hK hP (ci := 11) (q0 := 0) rfl rfl) hP hD hS hK hA [0, 1, 53, 49] [55, 56, 57, 58, 59, 60, 61, 62, 63, 64, 65, 66, 67, 68, 69, 70, 71, 72, 73, 74, 75, 76, 77, 78, 79, 80, 81, 82, 83, 84, 85, 86, 87, 88, 89, 90, 91, 92, 93, 94, 95, 96, 97, 98] rfl rfl law_hR law_nd (law_dis rfl) rfl hl.1 (Nat.le_of_ble_eq_true rfl) dL_law_1453 ⟨Nat.le_of_ble_eq_true rfl, Nat.le_of_ble_eq_true rfl⟩ (fun r1 u1 H locs hq1 hP hD hS => ?_)
      have e1 : r1 = R1.1 := congrArg Prod.fst hq1
      rw [law_fm] at hP hD
      refine lv_aload_n hx hb dL_law_1456 rfl (lv_at hl 2 rfl) ?_
      refine lv_aload_n hx hb dL_law_1457 rfl (lv_at hl 0 rfl) ?_
      refine lv_iload_n hx hb dL_law_1458 rfl (lv_at hl 3 rfl) ?_
      refine lv_iconst (v := (1 : Int32)) hx hb dL_law_1459 (by decide) ?_
      refine lv_iadd hx hb dL_law_1460 ?_
      refine va_sld hx hb hX hbl hbA hS (by unfold vp_in; decide) dL_law_1461 ?_
      refine lv_aload_n hx hb dL_law_1462 rfl (lv_at hl 0 rfl) ?_
      refine lv_iload_n hx hb dL_law_1463 rfl (lv_at hl 3 rfl) ?_
      refine lv_iconst (v := (2 : Int32)) hx hb dL_law_1464 (by decide) ?_
      refine lv_iadd hx hb dL_law_1465 ?_
      refine va_sld hx hb hX hbl hbA hS (by unfold vp_in; decide) dL_law_1466 ?_
      refine lv_aload_n hx hb dL_law_1467 rfl (lv_at hl 0 rfl) ?_
      refine lv_iload_n hx hb dL_law_1468 rfl (lv_at hl 3 rfl) ?_
      refine lv_iconst (v := (3 : Int32)) hx hb dL_law_1469 (by decide) ?_
      refine lv_iadd hx hb dL_law_1470 ?_
      refine va_sld hx hb hX hbl hbA hS (by unfold vp_in; decide) dL_law_1471 ?_
      refine lv_aload_n hx hb dL_law_1472 rfl (lv_at hl 0 rfl) ?_
      refine lv_iload_n hx hb dL_law_1473 rfl (lv_at hl 3 rfl) ?_
      refine lv_iconst (v := (4 : Int32)) hx hb dL_law_1474 (by decide) ?_
      refine lv_iadd hx hb dL_law_1475 ?_
      refine va_sld hx hb hX hbl hbA hS (by unfold vp_in; decide) dL_law_1476 ?_
      refine lv_aload_n hx hb dL_law_1477 rfl (lv_at hl 0 rfl) ?_
      refine lv_iload_n hx hb dL_law_1478 rfl (lv_at hl 3 rfl) ?_
      refine lv_iconst (v := (5 : Int32)) hx hb dL_law_1479 (by decide) ?_
      refine lv_iadd hx hb dL_law_1480 ?_
      refine va_sld hx hb hX hbl hbA hS (by unfold vp_in; decide) dL_law_1481 ?_
      refine zk_vi (post := (fun r u => (r, u) = R2)) (w1 := fun u => (wl_X12_shift am cs 0 0 0 0 0 0 0 0 0 0 0 0 0 0 0 0 0 ((upd (upd (upd (upd (upd (upd (fun _ => 0) ((0 : Int32)).toNatClampNeg (-1 : Int32)) ((1 : Int32)).toNatClampNeg (-1 : Int32)) ((2 : Int32)).toNatClampNeg (-1 : Int32)) ((3 : Int32)).toNatClampNeg (-1 : Int32)) ((4 : Int32)).toNatClampNeg (-1 : Int32)) ((5 : Int32)).toNatClampNeg (-1 : Int32))) ((fun _ => 0)) u.1 u.2)) (As := [.int (xs ((0 : Int32) + (1 : Int32)).toNatClampNeg), .int (xs ((0 : Int32) + (2 : Int32)).toNatClampNeg), .int (xs ((0 : Int32) + (3 : Int32)).toNatClampNeg), .int (xs ((0 : Int32) + (4 : Int32)).toNatClampNeg), .int (xs ((0 : Int32) + (5 : Int32)).toNatClampNeg)]) (rest := [.int r1]) (c_X12_shift l D cs am   H.size 4000 (xs ((0 : Int32) + (1 : Int32)).toNatClampNeg) (xs ((0 : Int32) + (2 : Int32)).toNatClampNeg) (xs ((0 : Int32) + (3 : Int32)).toNatClampNeg) (xs ((0 : Int32) + (4 : Int32)).toNatClampNeg) (xs ((0 : Int32) + (5 : Int32)).toNatClampNeg) 0 0 0 0 0 0 0 0 0 0 0 0 0 0 0 0 0 ((upd (upd (upd (upd (upd (upd (fun _ => 0) ((0 : Int32)).toNatClampNeg (-1 : Int32)) ((1 : Int32)).toNatClampNeg (-1 : Int32)) ((2 : Int32)).toNatClampNeg (-1 : Int32)) ((3 : Int32)).toNatClampNeg (-1 : Int32)) ((4 : Int32)).toNatClampNeg (-1 : Int32)) ((5 : Int32)).toNatClampNeg (-1 : Int32))) ((fun _ => 0)) ((fun _ => 0)) ((fun _ => 0)) R2 h2) ⟨hx, hb, hml, hown, ht⟩ (cwV 5 ht gl_166 rfl rfl rfl (by decide +kernel) ⟨Nat.le_of_ble_eq_true rfl, Nat.le_of_ble_eq_true rfl⟩) (va_recv hK hP (ci := 12) (q0 := 0) rfl rfl) hP hD hS hK hA [0, 40, 41, 42, 43] [] rfl rfl rfl rfl (by decide) rfl hl.1 (Nat.le_of_ble_eq_true rfl) dL_law_1482 ⟨Nat.le_of_ble_eq_true rfl, Nat.le_of_ble_eq_true rfl⟩ (fun r2 u2 H locs hq2 hP hD hS => ?_)
      have e2 : r2 = R2.1 := congrArg Prod.fst hq2
      have EQ : r1 = r2 := by rw [e1, e2]; exact eq
      refine lv_icmp_eq (tgt := 1546) hx hb dL_law_1485 (by decide) (fun cc => ?_) (fun cc => absurd EQ cc)
      exact law_next C0 (by decide) (by decide) H locs ls hS (lv_sub hl [0, 3] rfl)
    · obtain ⟨R1, R2, h1, h2, eq⟩ := pe_shift (g := g) (pf := pf) (ae := ae) (wb := wb) GF PF 5 (by omega) 4 (by omega) (xs ((0 : Int32) + (1 : Int32)).toNatClampNeg) (xs ((0 : Int32) + (2 : Int32)).toNatClampNeg) (xs ((0 : Int32) + (3 : Int32)).toNatClampNeg) (xs ((0 : Int32) + (4 : Int32)).toNatClampNeg) (xs ((0 : Int32) + (5 : Int32)).toNatClampNeg) hp0 hp1
      refine lv_aload_n hx hb dL_law_1427 rfl (lv_at hl 1 rfl) ?_
      refine lv_aload_n hx hb dL_law_1428 rfl (lv_at hl 0 rfl) ?_
      refine lv_iload_n hx hb dL_law_1429 rfl (lv_at hl 3 rfl) ?_
      refine lv_iconst (v := (1 : Int32)) hx hb dL_law_1430 (by decide) ?_
      refine lv_iadd hx hb dL_law_1431 ?_
      refine va_sld hx hb hX hbl hbA hS (by unfold vp_in; decide) dL_law_1432 ?_
      refine lv_aload_n hx hb dL_law_1433 rfl (lv_at hl 0 rfl) ?_
      refine lv_iload_n hx hb dL_law_1434 rfl (lv_at hl 3 rfl) ?_
      refine lv_iconst (v := (2 : Int32)) hx hb dL_law_1435 (by decide) ?_
      refine lv_iadd hx hb dL_law_1436 ?_
      refine va_sld hx hb hX hbl hbA hS (by unfold vp_in; decide) dL_law_1437 ?_
      refine lv_aload_n hx hb dL_law_1438 rfl (lv_at hl 0 rfl) ?_
      refine lv_iload_n hx hb dL_law_1439 rfl (lv_at hl 3 rfl) ?_
      refine lv_iconst (v := (3 : Int32)) hx hb dL_law_1440 (by decide) ?_
      refine lv_iadd hx hb dL_law_1441 ?_
      refine va_sld hx hb hX hbl hbA hS (by unfold vp_in; decide) dL_law_1442 ?_
      refine lv_aload_n hx hb dL_law_1443 rfl (lv_at hl 0 rfl) ?_
      refine lv_iload_n hx hb dL_law_1444 rfl (lv_at hl 3 rfl) ?_
      refine lv_iconst (v := (4 : Int32)) hx hb dL_law_1445 (by decide) ?_
      refine lv_iadd hx hb dL_law_1446 ?_
      refine va_sld hx hb hX hbl hbA hS (by unfold vp_in; decide) dL_law_1447 ?_
      refine lv_aload_n hx hb dL_law_1448 rfl (lv_at hl 0 rfl) ?_
      refine lv_iload_n hx hb dL_law_1449 rfl (lv_at hl 3 rfl) ?_
      refine lv_iconst (v := (5 : Int32)) hx hb dL_law_1450 (by decide) ?_
      refine lv_iadd hx hb dL_law_1451 ?_
      refine va_sld hx hb hX hbl hbA hS (by unfold vp_in; decide) dL_law_1452 ?_
      refine zk_vi (post := (fun r u => (r, u) = R1)) (w1 := fun u => (wl_X11_shiftB ad cs (ae 12) (ae 13) (ae 10) (ae 11) pf (-1) 0 0 (-1) 0 0)) (As := [.int (xs ((0 : Int32) + (1 : Int32)).toNatClampNeg), .int (xs ((0 : Int32) + (2 : Int32)).toNatClampNeg), .int (xs ((0 : Int32) + (3 : Int32)).toNatClampNeg), .int (xs ((0 : Int32) + (4 : Int32)).toNatClampNeg), .int (xs ((0 : Int32) + (5 : Int32)).toNatClampNeg)]) (rest := []) (c_X11_shiftB l D cs ad (ae 12) (ae 13) (ae 10) (ae 11)  H.size (xs ((0 : Int32) + (1 : Int32)).toNatClampNeg) (xs ((0 : Int32) + (2 : Int32)).toNatClampNeg) (xs ((0 : Int32) + (3 : Int32)).toNatClampNeg) (xs ((0 : Int32) + (4 : Int32)).toNatClampNeg) (xs ((0 : Int32) + (5 : Int32)).toNatClampNeg) pf (-1) 0 0 (-1) 0 0 R1 h1) ⟨hx, hb, hml, hown, ht⟩ (cwV 5 ht gl_162 rfl rfl rfl (by decide +kernel) ⟨Nat.le_of_ble_eq_true rfl, Nat.le_of_ble_eq_true rfl⟩) (va_recv hK hP (ci := 11) (q0 := 0) rfl rfl) hP hD hS hK hA [0, 1, 53, 51] [55, 56, 57, 58, 59, 60, 61, 62, 63, 64, 65, 66, 67, 68, 69, 70, 71, 72, 73, 74, 75, 76, 77, 78, 79, 80, 81, 82, 83, 84, 85, 86, 87, 88, 89, 90, 91, 92, 93, 94, 95, 96, 97, 98] rfl rfl law_hR law_nd (law_dis rfl) rfl hl.1 (Nat.le_of_ble_eq_true rfl) dL_law_1453 ⟨Nat.le_of_ble_eq_true rfl, Nat.le_of_ble_eq_true rfl⟩ (fun r1 u1 H locs hq1 hP hD hS => ?_)
      have e1 : r1 = R1.1 := congrArg Prod.fst hq1
      rw [law_fm] at hP hD
      refine lv_aload_n hx hb dL_law_1456 rfl (lv_at hl 2 rfl) ?_
      refine lv_aload_n hx hb dL_law_1457 rfl (lv_at hl 0 rfl) ?_
      refine lv_iload_n hx hb dL_law_1458 rfl (lv_at hl 3 rfl) ?_
      refine lv_iconst (v := (1 : Int32)) hx hb dL_law_1459 (by decide) ?_
      refine lv_iadd hx hb dL_law_1460 ?_
      refine va_sld hx hb hX hbl hbA hS (by unfold vp_in; decide) dL_law_1461 ?_
      refine lv_aload_n hx hb dL_law_1462 rfl (lv_at hl 0 rfl) ?_
      refine lv_iload_n hx hb dL_law_1463 rfl (lv_at hl 3 rfl) ?_
      refine lv_iconst (v := (2 : Int32)) hx hb dL_law_1464 (by decide) ?_
      refine lv_iadd hx hb dL_law_1465 ?_
      refine va_sld hx hb hX hbl hbA hS (by unfold vp_in; decide) dL_law_1466 ?_
      refine lv_aload_n hx hb dL_law_1467 rfl (lv_at hl 0 rfl) ?_
      refine lv_iload_n hx hb dL_law_1468 rfl (lv_at hl 3 rfl) ?_
      refine lv_iconst (v := (3 : Int32)) hx hb dL_law_1469 (by decide) ?_
      refine lv_iadd hx hb dL_law_1470 ?_
      refine va_sld hx hb hX hbl hbA hS (by unfold vp_in; decide) dL_law_1471 ?_
      refine lv_aload_n hx hb dL_law_1472 rfl (lv_at hl 0 rfl) ?_
      refine lv_iload_n hx hb dL_law_1473 rfl (lv_at hl 3 rfl) ?_
      refine lv_iconst (v := (4 : Int32)) hx hb dL_law_1474 (by decide) ?_
      refine lv_iadd hx hb dL_law_1475 ?_
      refine va_sld hx hb hX hbl hbA hS (by unfold vp_in; decide) dL_law_1476 ?_
      refine lv_aload_n hx hb dL_law_1477 rfl (lv_at hl 0 rfl) ?_
      refine lv_iload_n hx hb dL_law_1478 rfl (lv_at hl 3 rfl) ?_
      refine lv_iconst (v := (5 : Int32)) hx hb dL_law_1479 (by decide) ?_
      refine lv_iadd hx hb dL_law_1480 ?_
      refine va_sld hx hb hX hbl hbA hS (by unfold vp_in; decide) dL_law_1481 ?_
      refine zk_vi (post := (fun r u => (r, u) = R2)) (w1 := fun u => (wl_X12_shift am cs 0 0 0 0 0 0 0 0 0 0 0 0 0 0 0 0 0 ((upd (upd (upd (upd (upd (upd (fun _ => 0) ((0 : Int32)).toNatClampNeg (-1 : Int32)) ((1 : Int32)).toNatClampNeg (-1 : Int32)) ((2 : Int32)).toNatClampNeg (-1 : Int32)) ((3 : Int32)).toNatClampNeg (-1 : Int32)) ((4 : Int32)).toNatClampNeg (-1 : Int32)) ((5 : Int32)).toNatClampNeg (-1 : Int32))) ((fun _ => 0)) u.1 u.2)) (As := [.int (xs ((0 : Int32) + (1 : Int32)).toNatClampNeg), .int (xs ((0 : Int32) + (2 : Int32)).toNatClampNeg), .int (xs ((0 : Int32) + (3 : Int32)).toNatClampNeg), .int (xs ((0 : Int32) + (4 : Int32)).toNatClampNeg), .int (xs ((0 : Int32) + (5 : Int32)).toNatClampNeg)]) (rest := [.int r1]) (c_X12_shift l D cs am   H.size 4000 (xs ((0 : Int32) + (1 : Int32)).toNatClampNeg) (xs ((0 : Int32) + (2 : Int32)).toNatClampNeg) (xs ((0 : Int32) + (3 : Int32)).toNatClampNeg) (xs ((0 : Int32) + (4 : Int32)).toNatClampNeg) (xs ((0 : Int32) + (5 : Int32)).toNatClampNeg) 0 0 0 0 0 0 0 0 0 0 0 0 0 0 0 0 0 ((upd (upd (upd (upd (upd (upd (fun _ => 0) ((0 : Int32)).toNatClampNeg (-1 : Int32)) ((1 : Int32)).toNatClampNeg (-1 : Int32)) ((2 : Int32)).toNatClampNeg (-1 : Int32)) ((3 : Int32)).toNatClampNeg (-1 : Int32)) ((4 : Int32)).toNatClampNeg (-1 : Int32)) ((5 : Int32)).toNatClampNeg (-1 : Int32))) ((fun _ => 0)) ((fun _ => 0)) ((fun _ => 0)) R2 h2) ⟨hx, hb, hml, hown, ht⟩ (cwV 5 ht gl_166 rfl rfl rfl (by decide +kernel) ⟨Nat.le_of_ble_eq_true rfl, Nat.le_of_ble_eq_true rfl⟩) (va_recv hK hP (ci := 12) (q0 := 0) rfl rfl) hP hD hS hK hA [0, 40, 41, 42, 43] [] rfl rfl rfl rfl (by decide) rfl hl.1 (Nat.le_of_ble_eq_true rfl) dL_law_1482 ⟨Nat.le_of_ble_eq_true rfl, Nat.le_of_ble_eq_true rfl⟩ (fun r2 u2 H locs hq2 hP hD hS => ?_)
      have e2 : r2 = R2.1 := congrArg Prod.fst hq2
      have EQ : r1 = r2 := by rw [e1, e2]; exact eq
      refine lv_icmp_eq (tgt := 1546) hx hb dL_law_1485 (by decide) (fun cc => ?_) (fun cc => absurd EQ cc)
      exact law_next C0 (by decide) (by decide) H locs ls hS (lv_sub hl [0, 3] rfl)
    · obtain ⟨R1, R2, h1, h2, eq⟩ := pe_shiftA (g := g) (pf := pf) (ae := ae) (wb := wb) GF PF 5 (by omega) (xs ((0 : Int32) + (1 : Int32)).toNatClampNeg) (xs ((0 : Int32) + (2 : Int32)).toNatClampNeg) (xs ((0 : Int32) + (3 : Int32)).toNatClampNeg) (xs ((0 : Int32) + (4 : Int32)).toNatClampNeg) (xs ((0 : Int32) + (5 : Int32)).toNatClampNeg) hp0 hp1
      refine lv_aload_n hx hb dL_law_1427 rfl (lv_at hl 1 rfl) ?_
      refine lv_aload_n hx hb dL_law_1428 rfl (lv_at hl 0 rfl) ?_
      refine lv_iload_n hx hb dL_law_1429 rfl (lv_at hl 3 rfl) ?_
      refine lv_iconst (v := (1 : Int32)) hx hb dL_law_1430 (by decide) ?_
      refine lv_iadd hx hb dL_law_1431 ?_
      refine va_sld hx hb hX hbl hbA hS (by unfold vp_in; decide) dL_law_1432 ?_
      refine lv_aload_n hx hb dL_law_1433 rfl (lv_at hl 0 rfl) ?_
      refine lv_iload_n hx hb dL_law_1434 rfl (lv_at hl 3 rfl) ?_
      refine lv_iconst (v := (2 : Int32)) hx hb dL_law_1435 (by decide) ?_
      refine lv_iadd hx hb dL_law_1436 ?_
      refine va_sld hx hb hX hbl hbA hS (by unfold vp_in; decide) dL_law_1437 ?_
      refine lv_aload_n hx hb dL_law_1438 rfl (lv_at hl 0 rfl) ?_
      refine lv_iload_n hx hb dL_law_1439 rfl (lv_at hl 3 rfl) ?_
      refine lv_iconst (v := (3 : Int32)) hx hb dL_law_1440 (by decide) ?_
      refine lv_iadd hx hb dL_law_1441 ?_
      refine va_sld hx hb hX hbl hbA hS (by unfold vp_in; decide) dL_law_1442 ?_
      refine lv_aload_n hx hb dL_law_1443 rfl (lv_at hl 0 rfl) ?_
      refine lv_iload_n hx hb dL_law_1444 rfl (lv_at hl 3 rfl) ?_
      refine lv_iconst (v := (4 : Int32)) hx hb dL_law_1445 (by decide) ?_
      refine lv_iadd hx hb dL_law_1446 ?_
      refine va_sld hx hb hX hbl hbA hS (by unfold vp_in; decide) dL_law_1447 ?_
      refine lv_aload_n hx hb dL_law_1448 rfl (lv_at hl 0 rfl) ?_
      refine lv_iload_n hx hb dL_law_1449 rfl (lv_at hl 3 rfl) ?_
      refine lv_iconst (v := (5 : Int32)) hx hb dL_law_1450 (by decide) ?_
      refine lv_iadd hx hb dL_law_1451 ?_
      refine va_sld hx hb hX hbl hbA hS (by unfold vp_in; decide) dL_law_1452 ?_
      refine zk_vi (post := (fun r u => (r, u) = R1)) (w1 := fun u => (wl_X11_shift ad cs (ae 12) (ae 13) pf (-1) 0 0)) (As := [.int (xs ((0 : Int32) + (1 : Int32)).toNatClampNeg), .int (xs ((0 : Int32) + (2 : Int32)).toNatClampNeg), .int (xs ((0 : Int32) + (3 : Int32)).toNatClampNeg), .int (xs ((0 : Int32) + (4 : Int32)).toNatClampNeg), .int (xs ((0 : Int32) + (5 : Int32)).toNatClampNeg)]) (rest := []) (c_X11_shift l D cs ad (ae 12) (ae 13)  H.size (xs ((0 : Int32) + (1 : Int32)).toNatClampNeg) (xs ((0 : Int32) + (2 : Int32)).toNatClampNeg) (xs ((0 : Int32) + (3 : Int32)).toNatClampNeg) (xs ((0 : Int32) + (4 : Int32)).toNatClampNeg) (xs ((0 : Int32) + (5 : Int32)).toNatClampNeg) pf (-1) 0 0 R1 h1) ⟨hx, hb, hml, hown, ht⟩ (cwV 5 ht gl_162 rfl rfl rfl (by decide +kernel) ⟨Nat.le_of_ble_eq_true rfl, Nat.le_of_ble_eq_true rfl⟩) (va_recv hK hP (ci := 11) (q0 := 0) rfl rfl) hP hD hS hK hA [0, 1, 53] [55, 56, 57, 58, 59, 60, 61, 62, 63, 64, 65, 66, 67, 68, 69, 70, 71, 72, 73, 74, 75, 76, 77, 78, 79, 80, 81, 82, 83, 84, 85, 86, 87, 88, 89, 90, 91, 92, 93, 94, 95, 96, 97, 98] rfl rfl law_hR law_nd (law_dis rfl) rfl hl.1 (Nat.le_of_ble_eq_true rfl) dL_law_1453 ⟨Nat.le_of_ble_eq_true rfl, Nat.le_of_ble_eq_true rfl⟩ (fun r1 u1 H locs hq1 hP hD hS => ?_)
      have e1 : r1 = R1.1 := congrArg Prod.fst hq1
      rw [law_fm] at hP hD
      refine lv_aload_n hx hb dL_law_1456 rfl (lv_at hl 2 rfl) ?_
      refine lv_aload_n hx hb dL_law_1457 rfl (lv_at hl 0 rfl) ?_
      refine lv_iload_n hx hb dL_law_1458 rfl (lv_at hl 3 rfl) ?_
      refine lv_iconst (v := (1 : Int32)) hx hb dL_law_1459 (by decide) ?_
      refine lv_iadd hx hb dL_law_1460 ?_
      refine va_sld hx hb hX hbl hbA hS (by unfold vp_in; decide) dL_law_1461 ?_
      refine lv_aload_n hx hb dL_law_1462 rfl (lv_at hl 0 rfl) ?_
      refine lv_iload_n hx hb dL_law_1463 rfl (lv_at hl 3 rfl) ?_
      refine lv_iconst (v := (2 : Int32)) hx hb dL_law_1464 (by decide) ?_
      refine lv_iadd hx hb dL_law_1465 ?_
      refine va_sld hx hb hX hbl hbA hS (by unfold vp_in; decide) dL_law_1466 ?_
      refine lv_aload_n hx hb dL_law_1467 rfl (lv_at hl 0 rfl) ?_
      refine lv_iload_n hx hb dL_law_1468 rfl (lv_at hl 3 rfl) ?_
      refine lv_iconst (v := (3 : Int32)) hx hb dL_law_1469 (by decide) ?_
      refine lv_iadd hx hb dL_law_1470 ?_
      refine va_sld hx hb hX hbl hbA hS (by unfold vp_in; decide) dL_law_1471 ?_
      refine lv_aload_n hx hb dL_law_1472 rfl (lv_at hl 0 rfl) ?_
      refine lv_iload_n hx hb dL_law_1473 rfl (lv_at hl 3 rfl) ?_
      refine lv_iconst (v := (4 : Int32)) hx hb dL_law_1474 (by decide) ?_
      refine lv_iadd hx hb dL_law_1475 ?_
      refine va_sld hx hb hX hbl hbA hS (by unfold vp_in; decide) dL_law_1476 ?_
      refine lv_aload_n hx hb dL_law_1477 rfl (lv_at hl 0 rfl) ?_
      refine lv_iload_n hx hb dL_law_1478 rfl (lv_at hl 3 rfl) ?_
      refine lv_iconst (v := (5 : Int32)) hx hb dL_law_1479 (by decide) ?_
      refine lv_iadd hx hb dL_law_1480 ?_
      refine va_sld hx hb hX hbl hbA hS (by unfold vp_in; decide) dL_law_1481 ?_
      refine zk_vi (post := (fun r u => (r, u) = R2)) (w1 := fun u => (wl_X12_shift am cs 0 0 0 0 0 0 0 0 0 0 0 0 0 0 0 0 0 ((upd (upd (upd (upd (upd (upd (fun _ => 0) ((0 : Int32)).toNatClampNeg (-1 : Int32)) ((1 : Int32)).toNatClampNeg (-1 : Int32)) ((2 : Int32)).toNatClampNeg (-1 : Int32)) ((3 : Int32)).toNatClampNeg (-1 : Int32)) ((4 : Int32)).toNatClampNeg (-1 : Int32)) ((5 : Int32)).toNatClampNeg (-1 : Int32))) ((fun _ => 0)) u.1 u.2)) (As := [.int (xs ((0 : Int32) + (1 : Int32)).toNatClampNeg), .int (xs ((0 : Int32) + (2 : Int32)).toNatClampNeg), .int (xs ((0 : Int32) + (3 : Int32)).toNatClampNeg), .int (xs ((0 : Int32) + (4 : Int32)).toNatClampNeg), .int (xs ((0 : Int32) + (5 : Int32)).toNatClampNeg)]) (rest := [.int r1]) (c_X12_shift l D cs am   H.size 4000 (xs ((0 : Int32) + (1 : Int32)).toNatClampNeg) (xs ((0 : Int32) + (2 : Int32)).toNatClampNeg) (xs ((0 : Int32) + (3 : Int32)).toNatClampNeg) (xs ((0 : Int32) + (4 : Int32)).toNatClampNeg) (xs ((0 : Int32) + (5 : Int32)).toNatClampNeg) 0 0 0 0 0 0 0 0 0 0 0 0 0 0 0 0 0 ((upd (upd (upd (upd (upd (upd (fun _ => 0) ((0 : Int32)).toNatClampNeg (-1 : Int32)) ((1 : Int32)).toNatClampNeg (-1 : Int32)) ((2 : Int32)).toNatClampNeg (-1 : Int32)) ((3 : Int32)).toNatClampNeg (-1 : Int32)) ((4 : Int32)).toNatClampNeg (-1 : Int32)) ((5 : Int32)).toNatClampNeg (-1 : Int32))) ((fun _ => 0)) ((fun _ => 0)) ((fun _ => 0)) R2 h2) ⟨hx, hb, hml, hown, ht⟩ (cwV 5 ht gl_166 rfl rfl rfl (by decide +kernel) ⟨Nat.le_of_ble_eq_true rfl, Nat.le_of_ble_eq_true rfl⟩) (va_recv hK hP (ci := 12) (q0 := 0) rfl rfl) hP hD hS hK hA [0, 40, 41, 42, 43] [] rfl rfl rfl rfl (by decide) rfl hl.1 (Nat.le_of_ble_eq_true rfl) dL_law_1482 ⟨Nat.le_of_ble_eq_true rfl, Nat.le_of_ble_eq_true rfl⟩ (fun r2 u2 H locs hq2 hP hD hS => ?_)
      have e2 : r2 = R2.1 := congrArg Prod.fst hq2
      have EQ : r1 = r2 := by rw [e1, e2]; exact eq
      refine lv_icmp_eq (tgt := 1546) hx hb dL_law_1485 (by decide) (fun cc => ?_) (fun cc => absurd EQ cc)
      exact law_next C0 (by decide) (by decide) H locs ls hS (lv_sub hl [0, 3] rfl)
