theorem dL_law_1490 : decode cL_law 1490 = .ok (.aload_n 1, 1) := by decide +kernel
theorem dL_law_1491 : decode cL_law 1491 = .ok (.aload_n 0, 1) := by decide +kernel
theorem dL_law_1492 : decode cL_law 1492 = .ok (.iload_n 3, 1) := by decide +kernel
theorem dL_law_1493 : decode cL_law 1493 = .ok (.iconst 1, 1) := by decide +kernel
theorem dL_law_1494 : decode cL_law 1494 = .ok (.iadd, 1) := by decide +kernel
theorem dL_law_1495 : decode cL_law 1495 = .ok (.iaload, 1) := by decide +kernel
theorem dL_law_1496 : decode cL_law 1496 = .ok (.aload_n 0, 1) := by decide +kernel
theorem dL_law_1497 : decode cL_law 1497 = .ok (.iload_n 3, 1) := by decide +kernel
theorem dL_law_1498 : decode cL_law 1498 = .ok (.iconst 2, 1) := by decide +kernel
theorem dL_law_1499 : decode cL_law 1499 = .ok (.iadd, 1) := by decide +kernel
theorem dL_law_1500 : decode cL_law 1500 = .ok (.iaload, 1) := by decide +kernel
theorem dL_law_1501 : decode cL_law 1501 = .ok (.invokevirtual 167, 3) := by decide +kernel
theorem dL_law_1504 : decode cL_law 1504 = .ok (.aload_n 2, 1) := by decide +kernel
theorem dL_law_1505 : decode cL_law 1505 = .ok (.aload_n 0, 1) := by decide +kernel
theorem dL_law_1506 : decode cL_law 1506 = .ok (.iload_n 3, 1) := by decide +kernel
theorem dL_law_1507 : decode cL_law 1507 = .ok (.iconst 1, 1) := by decide +kernel
theorem dL_law_1508 : decode cL_law 1508 = .ok (.iadd, 1) := by decide +kernel
theorem dL_law_1509 : decode cL_law 1509 = .ok (.iaload, 1) := by decide +kernel
theorem dL_law_1510 : decode cL_law 1510 = .ok (.aload_n 0, 1) := by decide +kernel
theorem dL_law_1511 : decode cL_law 1511 = .ok (.iload_n 3, 1) := by decide +kernel
theorem dL_law_1512 : decode cL_law 1512 = .ok (.iconst 2, 1) := by decide +kernel
theorem dL_law_1513 : decode cL_law 1513 = .ok (.iadd, 1) := by decide +kernel
theorem dL_law_1514 : decode cL_law 1514 = .ok (.iaload, 1) := by decide +kernel
theorem dL_law_1515 : decode cL_law 1515 = .ok (.invokevirtual 170, 3) := by decide +kernel
theorem dL_law_1518 : decode cL_law 1518 = .ok (.if_icmp .eq 28, 3) := by decide +kernel
set_option maxHeartbeats 8000000 in
set_option maxRecDepth 100000 in
theorem law_case_36 {p : Program} {l : Launch} {e : Env} {s : State} {m : MethodId} {below : List Frame} {meth : Method} {c : Code} {b : Nat} {xs : Nat → Int32} {D : va_G} {cs : Nat → ClassId} {k : (Nat → Nat) × (Nat → Nat)} {ad ae am : Nat → Nat} {wb : Nat} {g pf : Nat → Option Nat} (C0 : lw_At p s m meth c b 6 xs) (hK : va_K D classes (zT cs) s) (hO : zO s) (hE : zE k (fun q : Nat => s.heap.size ≤ q) s) (GF : ∀ t, t < 8 → g (24 + t) = some (ae 0)) (PF : ∀ j, j < 6 → pf j = some (ae (2 + 2 * j))) (H : Heap) (locs : List Loc) (ls : Array Slot) (hP : va_P D classes (zF ad cs ae wb g pf ++ zM am cs) H) (hD : va_D (fun q : Nat => s.heap.size ≤ q) (zF ad cs ae wb g pf ++ zM am cs)) (hS : va_S (fun q : Nat => s.heap.size ≤ q) s.heap H locs) (hl : lv_has ls 4 [(0, .ref b), (1, .ref (ad 0)), (2, .ref (am 41)), (3, .int (0 : Int32))]) : W p l e room_1 s m #[Value.ref b] below meth c H locs 2000 200000 (lw_Z below #[Value.ref b] s) (F0 m 1490 ls []) := by
  obtain ⟨hx, hb, hr, hml, hown, hts, hX, hbl, hlocks, hgv⟩ := id C0
  have hA : ∀ q : Nat, s.heap.size ≤ q → (fun q : Nat => s.heap.size ≤ q) q := fun _ h => h
  have hbA : ¬ (fun q : Nat => s.heap.size ≤ q) b := Nat.not_le.mpr hbl
  have ht : ∀ w ∈ zW, w.before #[Value.ref b] s = true := fun w hw => hts w (List.mem_filter.mp hw).1
  obtain ⟨j0, hj0, hp0⟩ := zk_pl (xs ((0 : Int32) + (1 : Int32)).toNatClampNeg)
  rcases (show j0 = 0 ∨ j0 = 1 ∨ j0 = 2 ∨ j0 = 3 ∨ j0 = 4 ∨ j0 = 5 by omega) with rfl | rfl | rfl | rfl | rfl | rfl
  · obtain ⟨R1, R2, h1, h2, eq⟩ := pe_taken (g := g) (pf := pf) (ae := ae) (wb := wb) GF PF 0 (by omega) (xs ((0 : Int32) + (1 : Int32)).toNatClampNeg) (xs ((0 : Int32) + (2 : Int32)).toNatClampNeg) hp0
    refine lv_aload_n hx hb dL_law_1490 rfl (lv_at hl 1 rfl) ?_
    refine lv_aload_n hx hb dL_law_1491 rfl (lv_at hl 0 rfl) ?_
    refine lv_iload_n hx hb dL_law_1492 rfl (lv_at hl 3 rfl) ?_
    refine lv_iconst (v := (1 : Int32)) hx hb dL_law_1493 (by decide) ?_
    refine lv_iadd hx hb dL_law_1494 ?_
    refine va_sld hx hb hX hbl hbA hS (by unfold vp_in; decide) dL_law_1495 ?_
    refine lv_aload_n hx hb dL_law_1496 rfl (lv_at hl 0 rfl) ?_
    refine lv_iload_n hx hb dL_law_1497 rfl (lv_at hl 3 rfl) ?_
    refine lv_iconst (v := (2 : Int32)) hx hb dL_law_1498 (by decide) ?_
    refine lv_iadd hx hb dL_law_1499 ?_
    refine va_sld hx hb hX hbl hbA hS (by unfold vp_in; decide) dL_law_1500 ?_
    refine zk_vi (post := (fun r u => (r, u) = R1)) (w1 := fun u => (wl_X11_taken ad cs (ae 2) (ae 3) pf 0 0 0 (-1) 0 0)) (As := [.int (xs ((0 : Int32) + (1 : Int32)).toNatClampNeg), .int (xs ((0 : Int32) + (2 : Int32)).toNatClampNeg)]) (rest := []) (c_X11_taken l D cs ad (ae 2) (ae 3)  H.size (xs ((0 : Int32) + (1 : Int32)).toNatClampNeg) (xs ((0 : Int32) + (2 : Int32)).toNatClampNeg) pf 0 0 0 (-1) 0 0 R1 h1) ⟨hx, hb, hml, hown, ht⟩ (cwV 2 ht gl_167 rfl rfl rfl (by decide +kernel) ⟨Nat.le_of_ble_eq_true rfl, Nat.le_of_ble_eq_true rfl⟩) (va_recv hK hP (ci := 11) (q0 := 0) rfl rfl) hP hD hS hK hA [0, 1, 4, 43] [55, 56, 57, 58, 59, 60, 61, 62, 63, 64, 65, 66, 67, 68, 69, 70, 71, 72, 73, 74, 75, 76, 77, 78, 79, 80, 81, 82, 83, 84, 85, 86, 87, 88, 89, 90, 91, 92, 93, 94, 95, 96, 97, 98] rfl rfl law_hR law_nd (law_dis rfl) rfl hl.1 (Nat.le_of_ble_eq_true rfl) dL_law_1501 ⟨Nat.le_of_ble_eq_true rfl, Nat.le_of_ble_eq_true rfl⟩ (fun r1 u1 H locs hq1 hP hD hS => ?_)
    have e1 : r1 = R1.1 := congrArg Prod.fst hq1
    rw [law_fm] at hP hD
    refine lv_aload_n hx hb dL_law_1504 rfl (lv_at hl 2 rfl) ?_
    refine lv_aload_n hx hb dL_law_1505 rfl (lv_at hl 0 rfl) ?_
    refine lv_iload_n hx hb dL_law_1506 rfl (lv_at hl 3 rfl) ?_
    refine lv_iconst (v := (1 : Int32)) hx hb dL_law_1507 (by decide) ?_
    refine lv_iadd hx hb dL_law_1508 ?_
    refine va_sld hx hb hX hbl hbA hS (by unfold vp_in; decide) dL_law_1509 ?_
    refine lv_aload_n hx hb dL_law_1510 rfl (lv_at hl 0 rfl) ?_
    refine lv_iload_n hx hb dL_law_1511 rfl (lv_at hl 3 rfl) ?_
    refine lv_iconst (v := (2 : Int32)) hx hb dL_law_1512 (by decide) ?_
    refine lv_iadd hx hb dL_law_1513 ?_
    refine va_sld hx hb hX hbl hbA hS (by unfold vp_in; decide) dL_law_1514 ?_
    refine zk_vi (post := (fun r u => (r, u) = R2)) (w1 := fun u => (wl_X12_taken am cs 0 0 0 0 0 0 0 0 0 0 0 0 0 0 0 0 0 ((fun _ => 0)) ((fun _ => 0)) ((upd (upd (upd (upd (upd (upd (fun _ => 0) ((0 : Int32)).toNatClampNeg (-1 : Int32)) ((1 : Int32)).toNatClampNeg (-1 : Int32)) ((2 : Int32)).toNatClampNeg (-1 : Int32)) ((3 : Int32)).toNatClampNeg (-1 : Int32)) ((4 : Int32)).toNatClampNeg (-1 : Int32)) ((5 : Int32)).toNatClampNeg (-1 : Int32))))) (As := [.int (xs ((0 : Int32) + (1 : Int32)).toNatClampNeg), .int (xs ((0 : Int32) + (2 : Int32)).toNatClampNeg)]) (rest := [.int r1]) (c_X12_taken l D cs am   H.size (xs ((0 : Int32) + (1 : Int32)).toNatClampNeg) (xs ((0 : Int32) + (2 : Int32)).toNatClampNeg) 0 0 0 0 0 0 0 0 0 0 0 0 0 0 0 0 0 ((fun _ => 0)) ((fun _ => 0)) ((upd (upd (upd (upd (upd (upd (fun _ => 0) ((0 : Int32)).toNatClampNeg (-1 : Int32)) ((1 : Int32)).toNatClampNeg (-1 : Int32)) ((2 : Int32)).toNatClampNeg (-1 : Int32)) ((3 : Int32)).toNatClampNeg (-1 : Int32)) ((4 : Int32)).toNatClampNeg (-1 : Int32)) ((5 : Int32)).toNatClampNeg (-1 : Int32))) R2 h2) ⟨hx, hb, hml, hown, ht⟩ (cwV 2 ht gl_170 rfl rfl rfl (by decide +kernel) ⟨Nat.le_of_ble_eq_true rfl, Nat.le_of_ble_eq_true rfl⟩) (va_recv hK hP (ci := 12) (q0 := 0) rfl rfl) hP hD hS hK hA [0, 12, 16, 40] [] rfl rfl rfl rfl (by decide) rfl hl.1 (Nat.le_of_ble_eq_true rfl) dL_law_1515 ⟨Nat.le_of_ble_eq_true rfl, Nat.le_of_ble_eq_true rfl⟩ (fun r2 u2 H locs hq2 hP hD hS => ?_)
    have e2 : r2 = R2.1 := congrArg Prod.fst hq2
    have EQ : r1 = r2 := by rw [e1, e2]; exact eq
    refine lv_icmp_eq (tgt := 1546) hx hb dL_law_1518 (by decide) (fun cc => ?_) (fun cc => absurd EQ cc)
    exact law_next C0 (by decide) (by decide) H locs ls hS (lv_sub hl [0, 3] rfl)
  · obtain ⟨R1, R2, h1, h2, eq⟩ := pe_taken (g := g) (pf := pf) (ae := ae) (wb := wb) GF PF 1 (by omega) (xs ((0 : Int32) + (1 : Int32)).toNatClampNeg) (xs ((0 : Int32) + (2 : Int32)).toNatClampNeg) hp0
    refine lv_aload_n hx hb dL_law_1490 rfl (lv_at hl 1 rfl) ?_
    refine lv_aload_n hx hb dL_law_1491 rfl (lv_at hl 0 rfl) ?_
    refine lv_iload_n hx hb dL_law_1492 rfl (lv_at hl 3 rfl) ?_
    refine lv_iconst (v := (1 : Int32)) hx hb dL_law_1493 (by decide) ?_
    refine lv_iadd hx hb dL_law_1494 ?_
    refine va_sld hx hb hX hbl hbA hS (by unfold vp_in; decide) dL_law_1495 ?_
    refine lv_aload_n hx hb dL_law_1496 rfl (lv_at hl 0 rfl) ?_
    refine lv_iload_n hx hb dL_law_1497 rfl (lv_at hl 3 rfl) ?_
    refine lv_iconst (v := (2 : Int32)) hx hb dL_law_1498 (by decide) ?_
    refine lv_iadd hx hb dL_law_1499 ?_
    refine va_sld hx hb hX hbl hbA hS (by unfold vp_in; decide) dL_law_1500 ?_
    refine zk_vi (post := (fun r u => (r, u) = R1)) (w1 := fun u => (wl_X11_taken ad cs (ae 4) (ae 5) pf 0 0 0 (-1) 0 0)) (As := [.int (xs ((0 : Int32) + (1 : Int32)).toNatClampNeg), .int (xs ((0 : Int32) + (2 : Int32)).toNatClampNeg)]) (rest := []) (c_X11_taken l D cs ad (ae 4) (ae 5)  H.size (xs ((0 : Int32) + (1 : Int32)).toNatClampNeg) (xs ((0 : Int32) + (2 : Int32)).toNatClampNeg) pf 0 0 0 (-1) 0 0 R1 h1) ⟨hx, hb, hml, hown, ht⟩ (cwV 2 ht gl_167 rfl rfl rfl (by decide +kernel) ⟨Nat.le_of_ble_eq_true rfl, Nat.le_of_ble_eq_true rfl⟩) (va_recv hK hP (ci := 11) (q0 := 0) rfl rfl) hP hD hS hK hA [0, 1, 4, 45] [55, 56, 57, 58, 59, 60, 61, 62, 63, 64, 65, 66, 67, 68, 69, 70, 71, 72, 73, 74, 75, 76, 77, 78, 79, 80, 81, 82, 83, 84, 85, 86, 87, 88, 89, 90, 91, 92, 93, 94, 95, 96, 97, 98] rfl rfl law_hR law_nd (law_dis rfl) rfl hl.1 (Nat.le_of_ble_eq_true rfl) dL_law_1501 ⟨Nat.le_of_ble_eq_true rfl, Nat.le_of_ble_eq_true rfl⟩ (fun r1 u1 H locs hq1 hP hD hS => ?_)
    have e1 : r1 = R1.1 := congrArg Prod.fst hq1
    rw [law_fm] at hP hD
    refine lv_aload_n hx hb dL_law_1504 rfl (lv_at hl 2 rfl) ?_
    refine lv_aload_n hx hb dL_law_1505 rfl (lv_at hl 0 rfl) ?_
    refine lv_iload_n hx hb dL_law_1506 rfl (lv_at hl 3 rfl) ?_
    refine lv_iconst (v := (1 : Int32)) hx hb dL_law_1507 (by decide) ?_
    refine lv_iadd hx hb dL_law_1508 ?_
    refine va_sld hx hb hX hbl hbA hS (by unfold vp_in; decide) dL_law_1509 ?_
    refine lv_aload_n hx hb dL_law_1510 rfl (lv_at hl 0 rfl) ?_
    refine lv_iload_n hx hb dL_law_1511 rfl (lv_at hl 3 rfl) ?_
    refine lv_iconst (v := (2 : Int32)) hx hb dL_law_1512 (by decide) ?_
    refine lv_iadd hx hb dL_law_1513 ?_
    refine va_sld hx hb hX hbl hbA hS (by unfold vp_in; decide) dL_law_1514 ?_
    refine zk_vi (post := (fun r u => (r, u) = R2)) (w1 := fun u => (wl_X12_taken am cs 0 0 0 0 0 0 0 0 0 0 0 0 0 0 0 0 0 ((fun _ => 0)) ((fun _ => 0)) ((upd (upd (upd (upd (upd (upd (fun _ => 0) ((0 : Int32)).toNatClampNeg (-1 : Int32)) ((1 : Int32)).toNatClampNeg (-1 : Int32)) ((2 : Int32)).toNatClampNeg (-1 : Int32)) ((3 : Int32)).toNatClampNeg (-1 : Int32)) ((4 : Int32)).toNatClampNeg (-1 : Int32)) ((5 : Int32)).toNatClampNeg (-1 : Int32))))) (As := [.int (xs ((0 : Int32) + (1 : Int32)).toNatClampNeg), .int (xs ((0 : Int32) + (2 : Int32)).toNatClampNeg)]) (rest := [.int r1]) (c_X12_taken l D cs am   H.size (xs ((0 : Int32) + (1 : Int32)).toNatClampNeg) (xs ((0 : Int32) + (2 : Int32)).toNatClampNeg) 0 0 0 0 0 0 0 0 0 0 0 0 0 0 0 0 0 ((fun _ => 0)) ((fun _ => 0)) ((upd (upd (upd (upd (upd (upd (fun _ => 0) ((0 : Int32)).toNatClampNeg (-1 : Int32)) ((1 : Int32)).toNatClampNeg (-1 : Int32)) ((2 : Int32)).toNatClampNeg (-1 : Int32)) ((3 : Int32)).toNatClampNeg (-1 : Int32)) ((4 : Int32)).toNatClampNeg (-1 : Int32)) ((5 : Int32)).toNatClampNeg (-1 : Int32))) R2 h2) ⟨hx, hb, hml, hown, ht⟩ (cwV 2 ht gl_170 rfl rfl rfl (by decide +kernel) ⟨Nat.le_of_ble_eq_true rfl, Nat.le_of_ble_eq_true rfl⟩) (va_recv hK hP (ci := 12) (q0 := 0) rfl rfl) hP hD hS hK hA [0, 12, 16, 40] [] rfl rfl rfl rfl (by decide) rfl hl.1 (Nat.le_of_ble_eq_true rfl) dL_law_1515 ⟨Nat.le_of_ble_eq_true rfl, Nat.le_of_ble_eq_true rfl⟩ (fun r2 u2 H locs hq2 hP hD hS => ?_)
    have e2 : r2 = R2.1 := congrArg Prod.fst hq2
    have EQ : r1 = r2 := by rw [e1, e2]; exact eq
    refine lv_icmp_eq (tgt := 1546) hx hb dL_law_1518 (by decide) (fun cc => ?_) (fun cc => absurd EQ cc)
    exact law_next C0 (by decide) (by decide) H locs ls hS (lv_sub hl [0, 3] rfl)
  · obtain ⟨R1, R2, h1, h2, eq⟩ := pe_taken (g := g) (pf := pf) (ae := ae) (wb := wb) GF PF 2 (by omega) (xs ((0 : Int32) + (1 : Int32)).toNatClampNeg) (xs ((0 : Int32) + (2 : Int32)).toNatClampNeg) hp0
    refine lv_aload_n hx hb dL_law_1490 rfl (lv_at hl 1 rfl) ?_
    refine lv_aload_n hx hb dL_law_1491 rfl (lv_at hl 0 rfl) ?_
    refine lv_iload_n hx hb dL_law_1492 rfl (lv_at hl 3 rfl) ?_
    refine lv_iconst (v := (1 : Int32)) hx hb dL_law_1493 (by decide) ?_
    refine lv_iadd hx hb dL_law_1494 ?_
    refine va_sld hx hb hX hbl hbA hS (by unfold vp_in; decide) dL_law_1495 ?_
    refine lv_aload_n hx hb dL_law_1496 rfl (lv_at hl 0 rfl) ?_
    refine lv_iload_n hx hb dL_law_1497 rfl (lv_at hl 3 rfl) ?_
    refine lv_iconst (v := (2 : Int32)) hx hb dL_law_1498 (by decide) ?_
    refine lv_iadd hx hb dL_law_1499 ?_
    refine va_sld hx hb hX hbl hbA hS (by unfold vp_in; decide) dL_law_1500 ?_
    refine zk_vi (post := (fun r u => (r, u) = R1)) (w1 := fun u => (wl_X11_taken ad cs (ae 6) (ae 7) pf 0 0 0 (-1) 0 0)) (As := [.int (xs ((0 : Int32) + (1 : Int32)).toNatClampNeg), .int (xs ((0 : Int32) + (2 : Int32)).toNatClampNeg)]) (rest := []) (c_X11_taken l D cs ad (ae 6) (ae 7)  H.size (xs ((0 : Int32) + (1 : Int32)).toNatClampNeg) (xs ((0 : Int32) + (2 : Int32)).toNatClampNeg) pf 0 0 0 (-1) 0 0 R1 h1) ⟨hx, hb, hml, hown, ht⟩ (cwV 2 ht gl_167 rfl rfl rfl (by decide +kernel) ⟨Nat.le_of_ble_eq_true rfl, Nat.le_of_ble_eq_true rfl⟩) (va_recv hK hP (ci := 11) (q0 := 0) rfl rfl) hP hD hS hK hA [0, 1, 4, 47] [55, 56, 57, 58, 59, 60, 61, 62, 63, 64, 65, 66, 67, 68, 69, 70, 71, 72, 73, 74, 75, 76, 77, 78, 79, 80, 81, 82, 83, 84, 85, 86, 87, 88, 89, 90, 91, 92, 93, 94, 95, 96, 97, 98] rfl rfl law_hR law_nd (law_dis rfl) rfl hl.1 (Nat.le_of_ble_eq_true rfl) dL_law_1501 ⟨Nat.le_of_ble_eq_true rfl, Nat.le_of_ble_eq_true rfl⟩ (fun r1 u1 H locs hq1 hP hD hS => ?_)
    have e1 : r1 = R1.1 := congrArg Prod.fst hq1
    rw [law_fm] at hP hD
    refine lv_aload_n hx hb dL_law_1504 rfl (lv_at hl 2 rfl) ?_
    refine lv_aload_n hx hb dL_law_1505 rfl (lv_at hl 0 rfl) ?_
    refine lv_iload_n hx hb dL_law_1506 rfl (lv_at hl 3 rfl) ?_
    refine lv_iconst (v := (1 : Int32)) hx hb dL_law_1507 (by decide) ?_
    refine lv_iadd hx hb dL_law_1508 ?_
    refine va_sld hx hb hX hbl hbA hS (by unfold vp_in; decide) dL_law_1509 ?_
    refine lv_aload_n hx hb dL_law_1510 rfl (lv_at hl 0 rfl) ?_
    refine lv_iload_n hx hb dL_law_1511 rfl (lv_at hl 3 rfl) ?_
    refine lv_iconst (v := (2 : Int32)) hx hb dL_law_1512 (by decide) ?_
    refine lv_iadd hx hb dL_law_1513 ?_
    refine va_sld hx hb hX hbl hbA hS (by unfold vp_in; decide) dL_law_1514 ?_
    refine zk_vi (post := (fun r u => (r, u) = R2)) (w1 := fun u => (wl_X12_taken am cs 0 0 0 0 0 0 0 0 0 0 0 0 0 0 0 0 0 ((fun _ => 0)) ((fun _ => 0)) ((upd (upd (upd (upd (upd (upd (fun _ => 0) ((0 : Int32)).toNatClampNeg (-1 : Int32)) ((1 : Int32)).toNatClampNeg (-1 : Int32)) ((2 : Int32)).toNatClampNeg (-1 : Int32)) ((3 : Int32)).toNatClampNeg (-1 : Int32)) ((4 : Int32)).toNatClampNeg (-1 : Int32)) ((5 : Int32)).toNatClampNeg (-1 : Int32))))) (As := [.int (xs ((0 : Int32) + (1 : Int32)).toNatClampNeg), .int (xs ((0 : Int32) + (2 : Int32)).toNatClampNeg)]) (rest := [.int r1]) (c_X12_taken l D cs am   H.size (xs ((0 : Int32) + (1 : Int32)).toNatClampNeg) (xs ((0 : Int32) + (2 : Int32)).toNatClampNeg) 0 0 0 0 0 0 0 0 0 0 0 0 0 0 0 0 0 ((fun _ => 0)) ((fun _ => 0)) ((upd (upd (upd (upd (upd (upd (fun _ => 0) ((0 : Int32)).toNatClampNeg (-1 : Int32)) ((1 : Int32)).toNatClampNeg (-1 : Int32)) ((2 : Int32)).toNatClampNeg (-1 : Int32)) ((3 : Int32)).toNatClampNeg (-1 : Int32)) ((4 : Int32)).toNatClampNeg (-1 : Int32)) ((5 : Int32)).toNatClampNeg (-1 : Int32))) R2 h2) ⟨hx, hb, hml, hown, ht⟩ (cwV 2 ht gl_170 rfl rfl rfl (by decide +kernel) ⟨Nat.le_of_ble_eq_true rfl, Nat.le_of_ble_eq_true rfl⟩) (va_recv hK hP (ci := 12) (q0 := 0) rfl rfl) hP hD hS hK hA [0, 12, 16, 40] [] rfl rfl rfl rfl (by decide) rfl hl.1 (Nat.le_of_ble_eq_true rfl) dL_law_1515 ⟨Nat.le_of_ble_eq_true rfl, Nat.le_of_ble_eq_true rfl⟩ (fun r2 u2 H locs hq2 hP hD hS => ?_)
    have e2 : r2 = R2.1 := congrArg Prod.fst hq2
    have EQ : r1 = r2 := by rw [e1, e2]; exact eq
    refine lv_icmp_eq (tgt := 1546) hx hb dL_law_1518 (by decide) (fun cc => ?_) (fun cc => absurd EQ cc)
    exact law_next C0 (by decide) (by decide) H locs ls hS (lv_sub hl [0, 3] rfl)
  · obtain ⟨R1, R2, h1, h2, eq⟩ := pe_taken (g := g) (pf := pf) (ae := ae) (wb := wb) GF PF 3 (by omega) (xs ((0 : Int32) + (1 : Int32)).toNatClampNeg) (xs ((0 : Int32) + (2 : Int32)).toNatClampNeg) hp0
    refine lv_aload_n hx hb dL_law_1490 rfl (lv_at hl 1 rfl) ?_
    refine lv_aload_n hx hb dL_law_1491 rfl (lv_at hl 0 rfl) ?_
    refine lv_iload_n hx hb dL_law_1492 rfl (lv_at hl 3 rfl) ?_
    refine lv_iconst (v := (1 : Int32)) hx hb dL_law_1493 (by decide) ?_
    refine lv_iadd hx hb dL_law_1494 ?_
    refine va_sld hx hb hX hbl hbA hS (by unfold vp_in; decide) dL_law_1495 ?_
    refine lv_aload_n hx hb dL_law_1496 rfl (lv_at hl 0 rfl) ?_
    refine lv_iload_n hx hb dL_law_1497 rfl (lv_at hl 3 rfl) ?_
    refine lv_iconst (v := (2 : Int32)) hx hb dL_law_1498 (by decide) ?_
    refine lv_iadd hx hb dL_law_1499 ?_
    refine va_sld hx hb hX hbl hbA hS (by unfold vp_in; decide) dL_law_1500 ?_
    refine zk_vi (post := (fun r u => (r, u) = R1)) (w1 := fun u => (wl_X11_taken ad cs (ae 8) (ae 9) pf 0 0 0 (-1) 0 0)) (As := [.int (xs ((0 : Int32) + (1 : Int32)).toNatClampNeg), .int (xs ((0 : Int32) + (2 : Int32)).toNatClampNeg)]) (rest := []) (c_X11_taken l D cs ad (ae 8) (ae 9)  H.size (xs ((0 : Int32) + (1 : Int32)).toNatClampNeg) (xs ((0 : Int32) + (2 : Int32)).toNatClampNeg) pf 0 0 0 (-1) 0 0 R1 h1) ⟨hx, hb, hml, hown, ht⟩ (cwV 2 ht gl_167 rfl rfl rfl (by decide +kernel) ⟨Nat.le_of_ble_eq_true rfl, Nat.le_of_ble_eq_true rfl⟩) (va_recv hK hP (ci := 11) (q0 := 0) rfl rfl) hP hD hS hK hA [0, 1, 4, 49] [55, 56, 57, 58, 59, 60, 61, 62, 63, 64, 65, 66, 67, 68, 69, 70, 71, 72, 73, 74, 75, 76, 77, 78, 79, 80, 81, 82, 83, 84, 85, 86, 87, 88, 89, 90, 91, 92, 93, 94, 95, 96, 97, 98] rfl rfl law_hR law_nd (law_dis rfl) rfl hl.1 (Nat.le_of_ble_eq_true rfl) dL_law_1501 ⟨Nat.le_of_ble_eq_true rfl, Nat.le_of_ble_eq_true rfl⟩ (fun r1 u1 H locs hq1 hP hD hS => ?_)
    have e1 : r1 = R1.1 := congrArg Prod.fst hq1
    rw [law_fm] at hP hD
    refine lv_aload_n hx hb dL_law_1504 rfl (lv_at hl 2 rfl) ?_
    refine lv_aload_n hx hb dL_law_1505 rfl (lv_at hl 0 rfl) ?_
    refine lv_iload_n hx hb dL_law_1506 rfl (lv_at hl 3 rfl) ?_
    refine lv_iconst (v := (1 : Int32)) hx hb dL_law_1507 (by decide) ?_
    refine lv_iadd hx hb dL_law_1508 ?_
    refine va_sld hx hb hX hbl hbA hS (by unfold vp_in; decide) dL_law_1509 ?_
    refine lv_aload_n hx hb dL_law_1510 rfl (lv_at hl 0 rfl) ?_
    refine lv_iload_n hx hb dL_law_1511 rfl (lv_at hl 3 rfl) ?_
    refine lv_iconst (v := (2 : Int32)) hx hb dL_law_1512 (by decide) ?_
    refine lv_iadd hx hb dL_law_1513 ?_
    refine va_sld hx hb hX hbl hbA hS (by unfold vp_in; decide) dL_law_1514 ?_
    refine zk_vi (post := (fun r u => (r, u) = R2)) (w1 := fun u => (wl_X12_taken am cs 0 0 0 0 0 0 0 0 0 0 0 0 0 0 0 0 0 ((fun _ => 0)) ((fun _ => 0)) ((upd (upd (upd (upd (upd (upd (fun _ => 0) ((0 : Int32)).toNatClampNeg (-1 : Int32)) ((1 : Int32)).toNatClampNeg (-1 : Int32)) ((2 : Int32)).toNatClampNeg (-1 : Int32)) ((3 : Int32)).toNatClampNeg (-1 : Int32)) ((4 : Int32)).toNatClampNeg (-1 : Int32)) ((5 : Int32)).toNatClampNeg (-1 : Int32))))) (As := [.int (xs ((0 : Int32) + (1 : Int32)).toNatClampNeg), .int (xs ((0 : Int32) + (2 : Int32)).toNatClampNeg)]) (rest := [.int r1]) (c_X12_taken l D cs am   H.size (xs ((0 : Int32) + (1 : Int32)).toNatClampNeg) (xs ((0 : Int32) + (2 : Int32)).toNatClampNeg) 0 0 0 0 0 0 0 0 0 0 0 0 0 0 0 0 0 ((fun _ => 0)) ((fun _ => 0)) ((upd (upd (upd (upd (upd (upd (fun _ => 0) ((0 : Int32)).toNatClampNeg (-1 : Int32)) ((1 : Int32)).toNatClampNeg (-1 : Int32)) ((2 : Int32)).toNatClampNeg (-1 : Int32)) ((3 : Int32)).toNatClampNeg (-1 : Int32)) ((4 : Int32)).toNatClampNeg (-1 : Int32)) ((5 : Int32)).toNatClampNeg (-1 : Int32))) R2 h2) ⟨hx, hb, hml, hown, ht⟩ (cwV 2 ht gl_170 rfl rfl rfl (by decide +kernel) ⟨Nat.le_of_ble_eq_true rfl, Nat.le_of_ble_eq_true rfl⟩) (va_recv hK hP (ci := 12) (q0 := 0) rfl rfl) hP hD hS hK hA [0, 12, 16, 40] [] rfl rfl rfl rfl (by decide) rfl hl.1 (Nat.le_of_ble_eq_true rfl) dL_law_1515 ⟨Nat.le_of_ble_eq_true rfl, Nat.le_of_ble_eq_true rfl⟩ (fun r2 u2 H locs hq2 hP hD hS => ?_)
    have e2 : r2 = R2.1 := congrArg Prod.fst hq2
    have EQ : r1 = r2 := by rw [e1, e2]; exact eq
    refine lv_icmp_eq (tgt := 1546) hx hb dL_law_1518 (by decide) (fun cc => ?_) (fun cc => absurd EQ cc)
    exact law_next C0 (by decide) (by decide) H locs ls hS (lv_sub hl [0, 3] rfl)
  · obtain ⟨R1, R2, h1, h2, eq⟩ := pe_taken (g := g) (pf := pf) (ae := ae) (wb := wb) GF PF 4 (by omega) (xs ((0 : Int32) + (1 : Int32)).toNatClampNeg) (xs ((0 : Int32) + (2 : Int32)).toNatClampNeg) hp0
    refine lv_aload_n hx hb dL_law_1490 rfl (lv_at hl 1 rfl) ?_
    refine lv_aload_n hx hb dL_law_1491 rfl (lv_at hl 0 rfl) ?_
    refine lv_iload_n hx hb dL_law_1492 rfl (lv_at hl 3 rfl) ?_
    refine lv_iconst (v := (1 : Int32)) hx hb dL_law_1493 (by decide) ?_
    refine lv_iadd hx hb dL_law_1494 ?_
    refine va_sld hx hb hX hbl hbA hS (by unfold vp_in; decide) dL_law_1495 ?_
    refine lv_aload_n hx hb dL_law_1496 rfl (lv_at hl 0 rfl) ?_
    refine lv_iload_n hx hb dL_law_1497 rfl (lv_at hl 3 rfl) ?_
    refine lv_iconst (v := (2 : Int32)) hx hb dL_law_1498 (by decide) ?_
    refine lv_iadd hx hb dL_law_1499 ?_
    refine va_sld hx hb hX hbl hbA hS (by unfold vp_in; decide) dL_law_1500 ?_
    refine zk_vi (post := (fun r u => (r, u) = R1)) (w1 := fun u => (wl_X11_taken ad cs (ae 10) (ae 11) pf 0 0 0 (-1) 0 0)) (As := [.int (xs ((0 : Int32) + (1 : Int32)).toNatClampNeg), .int (xs ((0 : Int32) + (2 : Int32)).toNatClampNeg)]) (rest := []) (c_X11_taken l D cs ad (ae 10) (ae 11)  H.size (xs ((0 : Int32) + (1 : Int32)).toNatClampNeg) (xs ((0 : Int32) + (2 : Int32)).toNatClampNeg) pf 0 0 0 (-1) 0 0 R1 h1) ⟨hx, hb, hml, hown, ht⟩ (cwV 2 ht gl_167 rfl rfl rfl (by decide +kernel) ⟨Nat.le_of_ble_eq_true rfl, Nat.le_of_ble_eq_true rfl⟩) (va_recv hK hP (ci := 11) (q0 := 0) rfl rfl) hP hD hS hK hA [0, 1, 4, 51] [55, 56, 57, 58, 59, 60, 61, 62, 63, 64, 65, 66, 67, 68, 69, 70, 71, 72, 73, 74, 75, 76, 77, 78, 79, 80, 81, 82, 83, 84, 85, 86, 87, 88, 89, 90, 91, 92, 93, 94, 95, 96, 97, 98] rfl rfl law_hR law_nd (law_dis rfl) rfl hl.1 (Nat.le_of_ble_eq_true rfl) dL_law_1501 ⟨Nat.le_of_ble_eq_true rfl, Nat.le_of_ble_eq_true rfl⟩ (fun r1 u1 H locs hq1 hP hD hS => ?_)
    have e1 : r1 = R1.1 := congrArg Prod.fst hq1
    rw [law_fm] at hP hD
    refine lv_aload_n hx hb dL_law_1504 rfl (lv_at hl 2 rfl) ?_
    refine lv_aload_n hx hb dL_law_1505 rfl (lv_at hl 0 rfl) ?_
    refine lv_iload_n hx hb dL_law_1506 rfl (lv_at hl 3 rfl) ?_
    refine lv_iconst (v := (1 : Int32)) hx hb dL_law_1507 (by decide) ?_
    refine lv_iadd hx hb dL_law_1508 ?_
    refine va_sld hx hb hX hbl hbA hS (by unfold vp_in; decide) dL_law_1509 ?_
    refine lv_aload_n hx hb dL_law_1510 rfl (lv_at hl 0 rfl) ?_
    refine lv_iload_n hx hb dL_law_1511 rfl (lv_at hl 3 rfl) ?_
    refine lv_iconst (v := (2 : Int32)) hx hb dL_law_1512 (by decide) ?_
    refine lv_iadd hx hb dL_law_1513 ?_
    refine va_sld hx hb hX hbl hbA hS (by unfold vp_in; decide) dL_law_1514 ?_
    refine zk_vi (post := (fun r u => (r, u) = R2)) (w1 := fun u => (wl_X12_taken am cs 0 0 0 0 0 0 0 0 0 0 0 0 0 0 0 0 0 ((fun _ => 0)) ((fun _ => 0)) ((upd (upd (upd (upd (upd (upd (fun _ => 0) ((0 : Int32)).toNatClampNeg (-1 : Int32)) ((1 : Int32)).toNatClampNeg (-1 : Int32)) ((2 : Int32)).toNatClampNeg (-1 : Int32)) ((3 : Int32)).toNatClampNeg (-1 : Int32)) ((4 : Int32)).toNatClampNeg (-1 : Int32)) ((5 : Int32)).toNatClampNeg (-1 : Int32))))) (As := [.int (xs ((0 : Int32) + (1 : Int32)).toNatClampNeg), .int (xs ((0 : Int32) + (2 : Int32)).toNatClampNeg)]) (rest := [.int r1]) (c_X12_taken l D cs am   H.size (xs ((0 : Int32) + (1 : Int32)).toNatClampNeg) (xs ((0 : Int32) + (2 : Int32)).toNatClampNeg) 0 0 0 0 0 0 0 0 0 0 0 0 0 0 0 0 0 ((fun _ => 0)) ((fun _ => 0)) ((upd (upd (upd (upd (upd (upd (fun _ => 0) ((0 : Int32)).toNatClampNeg (-1 : Int32)) ((1 : Int32)).toNatClampNeg (-1 : Int32)) ((2 : Int32)).toNatClampNeg (-1 : Int32)) ((3 : Int32)).toNatClampNeg (-1 : Int32)) ((4 : Int32)).toNatClampNeg (-1 : Int32)) ((5 : Int32)).toNatClampNeg (-1 : Int32))) R2 h2) ⟨hx, hb, hml, hown, ht⟩ (cwV 2 ht gl_170 rfl rfl rfl (by decide +kernel) ⟨Nat.le_of_ble_eq_true rfl, Nat.le_of_ble_eq_true rfl⟩) (va_recv hK hP (ci := 12) (q0 := 0) rfl rfl) hP hD hS hK hA [0, 12, 16, 40] [] rfl rfl rfl rfl (by decide) rfl hl.1 (Nat.le_of_ble_eq_true rfl) dL_law_1515 ⟨Nat.le_of_ble_eq_true rfl, Nat.le_of_ble_eq_true rfl⟩ (fun r2 u2 H locs hq2 hP hD hS => ?_)
    have e2 : r2 = R2.1 := congrArg Prod.fst hq2
    have EQ : r1 = r2 := by rw [e1, e2]; exact eq
    refine lv_icmp_eq (tgt := 1546) hx hb dL_law_1518 (by decide) (fun cc => ?_) (fun cc => absurd EQ cc)
    exact law_next C0 (by decide) (by decide) H locs ls hS (lv_sub hl [0, 3] rfl)
  · obtain ⟨R1, R2, h1, h2, eq⟩ := pe_taken (g := g) (pf := pf) (ae := ae) (wb := wb) GF PF 5 (by omega) (xs ((0 : Int32) + (1 : Int32)).toNatClampNeg) (xs ((0 : Int32) + (2 : Int32)).toNatClampNeg) hp0
    refine lv_aload_n hx hb dL_law_1490 rfl (lv_at hl 1 rfl) ?_
    refine lv_aload_n hx hb dL_law_1491 rfl (lv_at hl 0 rfl) ?_
    refine lv_iload_n hx hb dL_law_1492 rfl (lv_at hl 3 rfl) ?_
    refine lv_iconst (v := (1 : Int32)) hx hb dL_law_1493 (by decide) ?_
    refine lv_iadd hx hb dL_law_1494 ?_
    refine va_sld hx hb hX hbl hbA hS (by unfold vp_in; decide) dL_law_1495 ?_
    refine lv_aload_n hx hb dL_law_1496 rfl (lv_at hl 0 rfl) ?_
    refine lv_iload_n hx hb dL_law_1497 rfl (lv_at hl 3 rfl) ?_
    refine lv_iconst (v := (2 : Int32)) hx hb dL_law_1498 (by decide) ?_
    refine lv_iadd hx hb dL_law_1499 ?_
    refine va_sld hx hb hX hbl hbA hS (by unfold vp_in; decide) dL_law_1500 ?_
    refine zk_vi (post := (fun r u => (r, u) = R1)) (w1 := fun u => (wl_X11_taken ad cs (ae 12) (ae 13) pf 0 0 0 (-1) 0 0)) (As := [.int (xs ((0 : Int32) + (1 : Int32)).toNatClampNeg), .int (xs ((0 : Int32) + (2 : Int32)).toNatClampNeg)]) (rest := []) (c_X11_taken l D cs ad (ae 12) (ae 13)  H.size (xs ((0 : Int32) + (1 : Int32)).toNatClampNeg) (xs ((0 : Int32) + (2 : Int32)).toNatClampNeg) pf 0 0 0 (-1) 0 0 R1 h1) ⟨hx, hb, hml, hown, ht⟩ (cwV 2 ht gl_167 rfl rfl rfl (by decide +kernel) ⟨Nat.le_of_ble_eq_true rfl, Nat.le_of_ble_eq_true rfl⟩) (va_recv hK hP (ci := 11) (q0 := 0) rfl rfl) hP hD hS hK hA [0, 1, 4, 53] [55, 56, 57, 58, 59, 60, 61, 62, 63, 64, 65, 66, 67, 68, 69, 70, 71, 72, 73, 74, 75, 76, 77, 78, 79, 80, 81, 82, 83, 84, 85, 86, 87, 88, 89, 90, 91, 92, 93, 94, 95, 96, 97, 98] rfl rfl law_hR law_nd (law_dis rfl) rfl hl.1 (Nat.le_of_ble_eq_true rfl) dL_law_1501 ⟨Nat.le_of_ble_eq_true rfl, Nat.le_of_ble_eq_true rfl⟩ (fun r1 u1 H locs hq1 hP hD hS => ?_)
    have e1 : r1 = R1.1 := congrArg Prod.fst hq1
    rw [law_fm] at hP hD
    refine lv_aload_n hx hb dL_law_1504 rfl (lv_at hl 2 rfl) ?_
    refine lv_aload_n hx hb dL_law_1505 rfl (lv_at hl 0 rfl) ?_
    refine lv_iload_n hx hb dL_law_1506 rfl (lv_at hl 3 rfl) ?_
    refine lv_iconst (v := (1 : Int32)) hx hb dL_law_1507 (by decide) ?_
    refine lv_iadd hx hb dL_law_1508 ?_
    refine va_sld hx hb hX hbl hbA hS (by unfold vp_in; decide) dL_law_1509 ?_
    refine lv_aload_n hx hb dL_law_1510 rfl (lv_at hl 0 rfl) ?_
    refine lv_iload_n hx hb dL_law_1511 rfl (lv_at hl 3 rfl) ?_
    refine lv_iconst (v := (2 : Int32)) hx hb dL_law_1512 (by decide) ?_
    refine lv_iadd hx hb dL_law_1513 ?_
    refine va_sld hx hb hX hbl hbA hS (by unfold vp_in; decide) dL_law_1514 ?_
    refine zk_vi (post := (fun r u => (r, u) = R2)) (w1 := fun u => (wl_X12_taken am cs 0 0 0 0 0 0 0 0 0 0 0 0 0 0 0 0 0 ((fun _ => 0)) ((fun _ => 0)) ((upd (upd (upd (upd (upd (upd (fun _ => 0) ((0 : Int32)).toNatClampNeg (-1 : Int32)) ((1 : Int32)).toNatClampNeg (-1 : Int32)) ((2 : Int32)).toNatClampNeg (-1 : Int32)) ((3 : Int32)).toNatClampNeg (-1 : Int32)) ((4 : Int32)).toNatClampNeg (-1 : Int32)) ((5 : Int32)).toNatClampNeg (-1 : Int32))))) (As := [.int (xs ((0 : Int32) + (1 : Int32)).toNatClampNeg), .int (xs ((0 : Int32) + (2 : Int32)).toNatClampNeg)]) (rest := [.int r1]) (c_X12_taken l D cs am   H.size (xs ((0 : Int32) + (1 : Int32)).toNatClampNeg) (xs ((0 : Int32) + (2 : Int32)).toNatClampNeg) 0 0 0 0 0 0 0 0 0 0 0 0 0 0 0 0 0 ((fun _ => 0)) ((fun _ => 0)) ((upd (upd (upd (upd (upd (upd (fun _ => 0) ((0 : Int32)).toNatClampNeg (-1 : Int32)) ((1 : Int32)).toNatClampNeg (-1 : Int32)) ((2 : Int32)).toNatClampNeg (-1 : Int32)) ((3 : Int32)).toNatClampNeg (-1 : Int32)) ((4 : Int32)).toNatClampNeg (-1 : Int32)) ((5 : Int32)).toNatClampNeg (-1 : Int32))) R2 h2) ⟨hx, hb, hml, hown, ht⟩ (cwV 2 ht gl_170 rfl rfl rfl (by decide +kernel) ⟨Nat.le_of_ble_eq_true rfl, Nat.le_of_ble_eq_true rfl⟩) (va_recv hK hP (ci := 12) (q0 := 0) rfl rfl) hP hD hS hK hA [0, 12, 16, 40] [] rfl rfl rfl rfl (by decide) rfl hl.1 (Nat.le_of_ble_eq_true rfl) dL_law_1515 ⟨Nat.le_of_ble_eq_true rfl, Nat.le_of_ble_eq_true rfl⟩ (fun r2 u2 H locs hq2 hP hD hS => ?_)
    have e2 : r2 = R2.1 := congrArg Prod.fst hq2
    have EQ : r1 = r2 := by rw [e1, e2]; exact eq
    refine lv_icmp_eq (tgt := 1546) hx hb dL_law_1518 (by decide) (fun cc => ?_) (fun cc => absurd EQ cc)
    exact law_next C0 (by decide) (by decide) H locs ls hS (lv_sub hl [0, 3] rfl)
theorem dL_law_1523 : decode cL_law 1523 = .ok (.aload_n 1, 1) := by decide +kernel
theorem dL_law_1524 : decode cL_law 1524 = .ok (.aload_n 0, 1) := by decide +kernel
theorem dL_law_1525 : decode cL_law 1525 = .ok (.iload_n 3, 1) := by decide +kernel
theorem dL_law_1526 : decode cL_law 1526 = .ok (.iconst 1, 1) := by decide +kernel
theorem dL_law_1527 : decode cL_law 1527 = .ok (.iadd, 1) := by decide +kernel
theorem dL_law_1528 : decode cL_law 1528 = .ok (.iaload, 1) := by decide +kernel
theorem dL_law_1529 : decode cL_law 1529 = .ok (.invokevirtual 171, 3) := by decide +kernel
theorem dL_law_1532 : decode cL_law 1532 = .ok (.aload_n 2, 1) := by decide +kernel
theorem dL_law_1533 : decode cL_law 1533 = .ok (.aload_n 0, 1) := by decide +kernel
theorem dL_law_1534 : decode cL_law 1534 = .ok (.iload_n 3, 1) := by decide +kernel
theorem dL_law_1535 : decode cL_law 1535 = .ok (.iconst 1, 1) := by decide +kernel
theorem dL_law_1536 : decode cL_law 1536 = .ok (.iadd, 1) := by decide +kernel
theorem dL_law_1537 : decode cL_law 1537 = .ok (.iaload, 1) := by decide +kernel
theorem dL_law_1538 : decode cL_law 1538 = .ok (.invokevirtual 174, 3) := by decide +kernel
theorem dL_law_1541 : decode cL_law 1541 = .ok (.if_icmp .eq 5, 3) := by decide +kernel
set_option maxHeartbeats 8000000 in
set_option maxRecDepth 100000 in
theorem law_case_37 {p : Program} {l : Launch} {e : Env} {s : State} {m : MethodId} {below : List Frame} {meth : Method} {c : Code} {b : Nat} {xs : Nat → Int32} {D : va_G} {cs : Nat → ClassId} {k : (Nat → Nat) × (Nat → Nat)} {ad ae am : Nat → Nat} {wb : Nat} {g pf : Nat → Option Nat} (C0 : lw_At p s m meth c b 6 xs) (hK : va_K D classes (zT cs) s) (hO : zO s) (hE : zE k (fun q : Nat => s.heap.size ≤ q) s) (GF : ∀ t, t < 8 → g (24 + t) = some (ae 0)) (PF : ∀ j, j < 6 → pf j = some (ae (2 + 2 * j))) (H : Heap) (locs : List Loc) (ls : Array Slot) (hP : va_P D classes (zF ad cs ae wb g pf ++ zM am cs) H) (hD : va_D (fun q : Nat => s.heap.size ≤ q) (zF ad cs ae wb g pf ++ zM am cs)) (hS : va_S (fun q : Nat => s.heap.size ≤ q) s.heap H locs) (hl : lv_has ls 4 [(0, .ref b), (1, .ref (ad 0)), (2, .ref (am 41)), (3, .int (0 : Int32))]) : W p l e room_1 s m #[Value.ref b] below meth c H locs 2000 200000 (lw_Z below #[Value.ref b] s) (F0 m 1523 ls []) := by
  obtain ⟨hx, hb, hr, hml, hown, hts, hX, hbl, hlocks, hgv⟩ := id C0
  have hA : ∀ q : Nat, s.heap.size ≤ q → (fun q : Nat => s.heap.size ≤ q) q := fun _ h => h
  have hbA : ¬ (fun q : Nat => s.heap.size ≤ q) b := Nat.not_le.mpr hbl
  have ht : ∀ w ∈ zW, w.before #[Value.ref b] s = true := fun w hw => hts w (List.mem_filter.mp hw).1
  obtain ⟨R1, R2, h1, h2, eq⟩ := pe_count (g := g) (pf := pf) (ae := ae) (wb := wb) GF PF (xs ((0 : Int32) + (1 : Int32)).toNatClampNeg) 
  refine lv_aload_n hx hb dL_law_1523 rfl (lv_at hl 1 rfl) ?_
  refine lv_aload_n hx hb dL_law_1524 rfl (lv_at hl 0 rfl) ?_
  refine lv_iload_n hx hb dL_law_1525 rfl (lv_at hl 3 rfl) ?_
  refine lv_iconst (v := (1 : Int32)) hx hb dL_law_1526 (by decide) ?_
  refine lv_iadd hx hb dL_law_1527 ?_
  refine va_sld hx hb hX hbl hbA hS (by unfold vp_in; decide) dL_law_1528 ?_
  refine zk_vi (post := (fun r u => (r, u) = R1)) (w1 := fun u => (wl_X11_count ad cs 0 0 0 0 0 (.ref wb) 0 0 0 0 0 0 0 0)) (As := [.int (xs ((0 : Int32) + (1 : Int32)).toNatClampNeg)]) (rest := []) (c_X11_count l D cs ad   H.size (xs ((0 : Int32) + (1 : Int32)).toNatClampNeg) 0 0 0 0 0 (.ref wb) 0 0 0 0 0 0 0 0 R1 h1) ⟨hx, hb, hml, hown, ht⟩ (cwV 1 ht gl_171 rfl rfl rfl (by decide +kernel) ⟨Nat.le_of_ble_eq_true rfl, Nat.le_of_ble_eq_true rfl⟩) (va_recv hK hP (ci := 11) (q0 := 0) rfl rfl) hP hD hS hK hA [0, 4, 23, 28, 34, 39] [55, 56, 57, 58, 59, 60, 61, 62, 63, 64, 65, 66, 67, 68, 69, 70, 71, 72, 73, 74, 75, 76, 77, 78, 79, 80, 81, 82, 83, 84, 85, 86, 87, 88, 89, 90, 91, 92, 93, 94, 95, 96, 97, 98] rfl rfl law_hR law_nd (law_dis rfl) rfl hl.1 (Nat.le_of_ble_eq_true rfl) dL_law_1529 ⟨Nat.le_of_ble_eq_true rfl, Nat.le_of_ble_eq_true rfl⟩ (fun r1 u1 H locs hq1 hP hD hS => ?_)
  have e1 : r1 = R1.1 := congrArg Prod.fst hq1
  rw [law_fm] at hP hD
  refine lv_aload_n hx hb dL_law_1532 rfl (lv_at hl 2 rfl) ?_
  refine lv_aload_n hx hb dL_law_1533 rfl (lv_at hl 0 rfl) ?_
  refine lv_iload_n hx hb dL_law_1534 rfl (lv_at hl 3 rfl) ?_
  refine lv_iconst (v := (1 : Int32)) hx hb dL_law_1535 (by decide) ?_
  refine lv_iadd hx hb dL_law_1536 ?_
  refine va_sld hx hb hX hbl hbA hS (by unfold vp_in; decide) dL_law_1537 ?_
  refine zk_vi (post := (fun r u => (r, u) = R2)) (w1 := fun u => (wl_X12_count am cs 0 0 0 0 0 0 0 0 0 0 0 0 0 0 0 0 0)) (As := [.int (xs ((0 : Int32) + (1 : Int32)).toNatClampNeg)]) (rest := [.int r1]) (c_X12_count l D cs am   H.size (xs ((0 : Int32) + (1 : Int32)).toNatClampNeg) 0 0 0 0 0 0 0 0 0 0 0 0 0 0 0 0 0 R2 h2) ⟨hx, hb, hml, hown, ht⟩ (cwV 1 ht gl_174 rfl rfl rfl (by decide +kernel) ⟨Nat.le_of_ble_eq_true rfl, Nat.le_of_ble_eq_true rfl⟩) (va_recv hK hP (ci := 12) (q0 := 0) rfl rfl) hP hD hS hK hA [0] [] rfl rfl rfl rfl (by decide) rfl hl.1 (Nat.le_of_ble_eq_true rfl) dL_law_1538 ⟨Nat.le_of_ble_eq_true rfl, Nat.le_of_ble_eq_true rfl⟩ (fun r2 u2 H locs hq2 hP hD hS => ?_)
  have e2 : r2 = R2.1 := congrArg Prod.fst hq2
  have EQ : r1 = r2 := by rw [e1, e2]; exact eq
  refine lv_icmp_eq (tgt := 1546) hx hb dL_law_1541 (by decide) (fun cc => ?_) (fun cc => absurd EQ cc)
  exact law_next C0 (by decide) (by decide) H locs ls hS (lv_sub hl [0, 3] rfl)
