theorem dL_law_27 : decode cL_law 27 = .ok (.aload_n 0, 1) := by decide +kernel
theorem dL_law_28 : decode cL_law 28 = .ok (.iload_n 3, 1) := by decide +kernel
theorem dL_law_29 : decode cL_law 29 = .ok (.iaload, 1) := by decide +kernel
theorem dL_law_30 : decode cL_law 30 = .ok (.bipush 63, 2) := by decide +kernel
theorem dL_law_32 : decode cL_law 32 = .ok (.iand, 1) := by decide +kernel
theorem dL_law_33 : decode cL_law 33 = .ok (.tableswitch 1513 0 37 #[167, 220, 263, 296, 329, 382, 425, 458, 491, 504, 537, 570, 603, 626, 669, 712, 765, 798, 831, 865, 888, 921, 954, 967, 1010, 1033, 1076, 1119, 1132, 1145, 1188, 1211, 1244, 1287, 1360, 1394, 1457, 1490], 167) := by decide +kernel
set_option maxHeartbeats 8000000 in
set_option maxRecDepth 100000 in
theorem law_turn {p : Program} {l : Launch} {e : Env} {s : State} {m : MethodId} {below : List Frame} {meth : Method} {c : Code} {b : Nat} {xs : Nat → Int32} {D : va_G} {cs : Nat → ClassId} {k : (Nat → Nat) × (Nat → Nat)} {ad ae am : Nat → Nat} {wb : Nat} {g pf : Nat → Option Nat} (C0 : lw_At p s m meth c b 6 xs) (hK : va_K D classes (zT cs) s) (hO : zO s) (hE : zE k (fun q : Nat => s.heap.size ≤ q) s) (GF : ∀ t, t < 8 → g (24 + t) = some (ae 0)) (PF : ∀ j, j < 6 → pf j = some (ae (2 + 2 * j))) (H : Heap) (locs : List Loc) (ls : Array Slot) (hP : va_P D classes (zF ad cs ae wb g pf ++ zM am cs) H) (hD : va_D (fun q : Nat => s.heap.size ≤ q) (zF ad cs ae wb g pf ++ zM am cs)) (hS : va_S (fun q : Nat => s.heap.size ≤ q) s.heap H locs) (hl : lv_has ls 4 [(0, .ref b), (1, .ref (ad 0)), (2, .ref (am 41)), (3, .int (0 : Int32))]) : W p l e room_1 s m #[Value.ref b] below meth c H locs 2000 200000 (lw_Z below #[Value.ref b] s) (F0 m 18 ls []) := by
  obtain ⟨hx, hb, hr, hml, hown, hts, hX, hbl, hlocks, hgv⟩ := id C0
  have hA : ∀ q : Nat, s.heap.size ≤ q → (fun q : Nat => s.heap.size ≤ q) q := fun _ h => h
  have hbA : ¬ (fun q : Nat => s.heap.size ≤ q) b := Nat.not_le.mpr hbl
  have ht : ∀ w ∈ zW, w.before #[Value.ref b] s = true := fun w hw => hts w (List.mem_filter.mp hw).1
  refine lv_iload_n hx hb dL_law_18 rfl (lv_at hl 3 rfl) ?_
  refine lv_aload_n hx hb dL_law_19 rfl (lv_at hl 0 rfl) ?_
  refine va_slen hx hb hX hbl hbA hS dL_law_20 ?_
  refine lv_bipush (v := (6 : Int32)) hx hb dL_law_21 (by decide) ?_
  refine lv_isub hx hb dL_law_23 ?_
  refine lv_icmp_gt (tgt := 1552) hx hb dL_law_24 (by decide) (fun cc => absurd cc (by decide)) (fun cc => ?_)
  refine lv_aload_n hx hb dL_law_27 rfl (lv_at hl 0 rfl) ?_
  refine lv_iload_n hx hb dL_law_28 rfl (lv_at hl 3 rfl) ?_
  refine va_sld hx hb hX hbl hbA hS (by unfold vp_in; decide) dL_law_29 ?_
  refine lv_bipush (v := (63 : Int32)) hx hb dL_law_30 (by decide) ?_
  refine lv_iand hx hb dL_law_32 ?_
  generalize xs (0 : Int32).toNatClampNeg &&& (63 : Int32) = v
  by_cases c0 : v = (0 : Int32)
  · refine lv_tableIn (tgt := 200) hx hb dL_law_33 (by rw [c0]; decide) (by rw [c0]; decide) (by rw [c0]; rfl) (by decide) ?_
    exact law_case_0 C0 hK hO hE GF PF H locs ls hP hD hS hl
  by_cases c1 : v = (1 : Int32)
  · refine lv_tableIn (tgt := 253) hx hb dL_law_33 (by rw [c1]; decide) (by rw [c1]; decide) (by rw [c1]; rfl) (by decide) ?_
    exact law_case_1 C0 hK hO hE GF PF H locs ls hP hD hS hl
  by_cases c2 : v = (2 : Int32)
  · refine lv_tableIn (tgt := 296) hx hb dL_law_33 (by rw [c2]; decide) (by rw [c2]; decide) (by rw [c2]; rfl) (by decide) ?_
    exact law_case_2 C0 hK hO hE GF PF H locs ls hP hD hS hl
  by_cases c3 : v = (3 : Int32)
  · refine lv_tableIn (tgt := 329) hx hb dL_law_33 (by rw [c3]; decide) (by rw [c3]; decide) (by rw [c3]; rfl) (by decide) ?_
    exact law_case_3 C0 hK hO hE GF PF H locs ls hP hD hS hl
  by_cases c4 : v = (4 : Int32)
  · refine lv_tableIn (tgt := 362) hx hb dL_law_33 (by rw [c4]; decide) (by rw [c4]; decide) (by rw [c4]; rfl) (by decide) ?_
    exact law_case_4 C0 hK hO hE GF PF H locs ls hP hD hS hl
  by_cases c5 : v = (5 : Int32)
  · refine lv_tableIn (tgt := 415) hx hb dL_law_33 (by rw [c5]; decide) (by rw [c5]; decide) (by rw [c5]; rfl) (by decide) ?_
    exact law_case_5 C0 hK hO hE GF PF H locs ls hP hD hS hl
  by_cases c6 : v = (6 : Int32)
  · refine lv_tableIn (tgt := 458) hx hb dL_law_33 (by rw [c6]; decide) (by rw [c6]; decide) (by rw [c6]; rfl) (by decide) ?_
    exact law_case_6 C0 hK hO hE GF PF H locs ls hP hD hS hl
  by_cases c7 : v = (7 : Int32)
  · refine lv_tableIn (tgt := 491) hx hb dL_law_33 (by rw [c7]; decide) (by rw [c7]; decide) (by rw [c7]; rfl) (by decide) ?_
    exact law_case_7 C0 hK hO hE GF PF H locs ls hP hD hS hl
  by_cases c8 : v = (8 : Int32)
  · refine lv_tableIn (tgt := 524) hx hb dL_law_33 (by rw [c8]; decide) (by rw [c8]; decide) (by rw [c8]; rfl) (by decide) ?_
    exact law_case_8 C0 hK hO hE GF PF H locs ls hP hD hS hl
  by_cases c9 : v = (9 : Int32)
  · refine lv_tableIn (tgt := 537) hx hb dL_law_33 (by rw [c9]; decide) (by rw [c9]; decide) (by rw [c9]; rfl) (by decide) ?_
    exact law_case_9 C0 hK hO hE GF PF H locs ls hP hD hS hl
  by_cases c10 : v = (10 : Int32)
  · refine lv_tableIn (tgt := 570) hx hb dL_law_33 (by rw [c10]; decide) (by rw [c10]; decide) (by rw [c10]; rfl) (by decide) ?_
    exact law_case_10 C0 hK hO hE GF PF H locs ls hP hD hS hl
  by_cases c11 : v = (11 : Int32)
  · refine lv_tableIn (tgt := 603) hx hb dL_law_33 (by rw [c11]; decide) (by rw [c11]; decide) (by rw [c11]; rfl) (by decide) ?_
    exact law_case_11 C0 hK hO hE GF PF H locs ls hP hD hS hl
  by_cases c12 : v = (12 : Int32)
  · refine lv_tableIn (tgt := 636) hx hb dL_law_33 (by rw [c12]; decide) (by rw [c12]; decide) (by rw [c12]; rfl) (by decide) ?_
    exact law_case_12 C0 hK hO hE GF PF H locs ls hP hD hS hl
  by_cases c13 : v = (13 : Int32)
  · refine lv_tableIn (tgt := 659) hx hb dL_law_33 (by rw [c13]; decide) (by rw [c13]; decide) (by rw [c13]; rfl) (by decide) ?_
    exact law_case_13 C0 hK hO hE GF PF H locs ls hP hD hS hl
  by_cases c14 : v = (14 : Int32)
  · refine lv_tableIn (tgt := 702) hx hb dL_law_33 (by rw [c14]; decide) (by rw [c14]; decide) (by rw [c14]; rfl) (by decide) ?_
    exact law_case_14 C0 hK hO hE GF PF H locs ls hP hD hS hl
  by_cases c15 : v = (15 : Int32)
  · refine lv_tableIn (tgt := 745) hx hb dL_law_33 (by rw [c15]; decide) (by rw [c15]; decide) (by rw [c15]; rfl) (by decide) ?_
    exact law_case_15 C0 hK hO hE GF PF H locs ls hP hD hS hl
  by_cases c16 : v = (16 : Int32)
  · refine lv_tableIn (tgt := 798) hx hb dL_law_33 (by rw [c16]; decide) (by rw [c16]; decide) (by rw [c16]; rfl) (by decide) ?_
    exact law_case_16 C0 hK hO hE GF PF H locs ls hP hD hS hl
  by_cases c17 : v = (17 : Int32)
  · refine lv_tableIn (tgt := 831) hx hb dL_law_33 (by rw [c17]; decide) (by rw [c17]; decide) (by rw [c17]; rfl) (by decide) ?_
    exact law_case_17 C0 hK hO hE GF PF H locs ls hP hD hS hl
  by_cases c18 : v = (18 : Int32)
  · refine lv_tableIn (tgt := 864) hx hb dL_law_33 (by rw [c18]; decide) (by rw [c18]; decide) (by rw [c18]; rfl) (by decide) ?_
    exact law_case_18 C0 hK hO hE GF PF H locs ls hP hD hS hl
  by_cases c19 : v = (19 : Int32)
  · refine lv_tableIn (tgt := 898) hx hb dL_law_33 (by rw [c19]; decide) (by rw [c19]; decide) (by rw [c19]; rfl) (by decide) ?_
    exact law_case_19 C0 hK hO hE GF PF H locs ls hP hD hS hl
  by_cases c20 : v = (20 : Int32)
  · refine lv_tableIn (tgt := 921) hx hb dL_law_33 (by rw [c20]; decide) (by rw [c20]; decide) (by rw [c20]; rfl) (by decide) ?_
    exact law_case_20 C0 hK hO hE GF PF H locs ls hP hD hS hl
  by_cases c21 : v = (21 : Int32)
  · refine lv_tableIn (tgt := 954) hx hb dL_law_33 (by rw [c21]; decide) (by rw [c21]; decide) (by rw [c21]; rfl) (by decide) ?_
    exact law_case_21 C0 hK hO hE GF PF H locs ls hP hD hS hl
  by_cases c22 : v = (22 : Int32)
  · refine lv_tableIn (tgt := 987) hx hb dL_law_33 (by rw [c22]; decide) (by rw [c22]; decide) (by rw [c22]; rfl) (by decide) ?_
    exact law_case_22 C0 hK hO hE GF PF H locs ls hP hD hS hl
  by_cases c23 : v = (23 : Int32)
  · refine lv_tableIn (tgt := 1000) hx hb dL_law_33 (by rw [c23]; decide) (by rw [c23]; decide) (by rw [c23]; rfl) (by decide) ?_
    exact law_case_23 C0 hK hO hE GF PF H locs ls hP hD hS hl
  by_cases c24 : v = (24 : Int32)
  · refine lv_tableIn (tgt := 1043) hx hb dL_law_33 (by rw [c24]; decide) (by rw [c24]; decide) (by rw [c24]; rfl) (by decide) ?_
    exact law_case_24 C0 hK hO hE GF PF H locs ls hP hD hS hl
  by_cases c25 : v = (25 : Int32)
  · refine lv_tableIn (tgt := 1066) hx hb dL_law_33 (by rw [c25]; decide) (by rw [c25]; decide) (by rw [c25]; rfl) (by decide) ?_
    exact law_case_25 C0 hK hO hE GF PF H locs ls hP hD hS hl
  by_cases c26 : v = (26 : Int32)
  · refine lv_tableIn (tgt := 1109) hx hb dL_law_33 (by rw [c26]; decide) (by rw [c26]; decide) (by rw [c26]; rfl) (by decide) ?_
    exact law_case_26 C0 hK hO hE GF PF H locs ls hP hD hS hl
  by_cases c27 : v = (27 : Int32)
  · refine lv_tableIn (tgt := 1152) hx hb dL_law_33 (by rw [c27]; decide) (by rw [c27]; decide) (by rw [c27]; rfl) (by decide) ?_
    exact law_case_27 C0 hK hO hE GF PF H locs ls hP hD hS hl
  by_cases c28 : v = (28 : Int32)
  · refine lv_tableIn (tgt := 1165) hx hb dL_law_33 (by rw [c28]; decide) (by rw [c28]; decide) (by rw [c28]; rfl) (by decide) ?_
    exact law_case_28 C0 hK hO hE GF PF H locs ls hP hD hS hl
  by_cases c29 : v = (29 : Int32)
  · refine lv_tableIn (tgt := 1178) hx hb dL_law_33 (by rw [c29]; decide) (by rw [c29]; decide) (by rw [c29]; rfl) (by decide) ?_
    exact law_case_29 C0 hK hO hE GF PF H locs ls hP hD hS hl
  by_cases c30 : v = (30 : Int32)
  · refine lv_tableIn (tgt := 1221) hx hb dL_law_33 (by rw [c30]; decide) (by rw [c30]; decide) (by rw [c30]; rfl) (by decide) ?_
    exact law_case_30 C0 hK hO hE GF PF H locs ls hP hD hS hl
  by_cases c31 : v = (31 : Int32)
  · refine lv_tableIn (tgt := 1244) hx hb dL_law_33 (by rw [c31]; decide) (by rw [c31]; decide) (by rw [c31]; rfl) (by decide) ?_
    exact law_case_31 C0 hK hO hE GF PF H locs ls hP hD hS hl
  by_cases c32 : v = (32 : Int32)
  · refine lv_tableIn (tgt := 1277) hx hb dL_law_33 (by rw [c32]; decide) (by rw [c32]; decide) (by rw [c32]; rfl) (by decide) ?_
    exact law_case_32 C0 hK hO hE GF PF H locs ls hP hD hS hl
  by_cases c33 : v = (33 : Int32)
  · refine lv_tableIn (tgt := 1320) hx hb dL_law_33 (by rw [c33]; decide) (by rw [c33]; decide) (by rw [c33]; rfl) (by decide) ?_
    exact law_case_33 C0 hK hO hE GF PF H locs ls hP hD hS hl
  by_cases c34 : v = (34 : Int32)
  · refine lv_tableIn (tgt := 1393) hx hb dL_law_33 (by rw [c34]; decide) (by rw [c34]; decide) (by rw [c34]; rfl) (by decide) ?_
    exact law_case_34 C0 hK hO hE GF PF H locs ls hP hD hS hl
  by_cases c35 : v = (35 : Int32)
  · refine lv_tableIn (tgt := 1427) hx hb dL_law_33 (by rw [c35]; decide) (by rw [c35]; decide) (by rw [c35]; rfl) (by decide) ?_
    exact law_case_35 C0 hK hO hE GF PF H locs ls hP hD hS hl
  by_cases c36 : v = (36 : Int32)
  · refine lv_tableIn (tgt := 1490) hx hb dL_law_33 (by rw [c36]; decide) (by rw [c36]; decide) (by rw [c36]; rfl) (by decide) ?_
    exact law_case_36 C0 hK hO hE GF PF H locs ls hP hD hS hl
  by_cases c37 : v = (37 : Int32)
  · refine lv_tableIn (tgt := 1523) hx hb dL_law_33 (by rw [c37]; decide) (by rw [c37]; decide) (by rw [c37]; rfl) (by decide) ?_
    exact law_case_37 C0 hK hO hE GF PF H locs ls hP hD hS hl
  refine lv_tableOut (tgt := 1546) hx hb dL_law_33 (zk_out (lo := 0) (hi := 37) [(0 : Int32), (1 : Int32), (2 : Int32), (3 : Int32), (4 : Int32), (5 : Int32), (6 : Int32), (7 : Int32), (8 : Int32), (9 : Int32), (10 : Int32), (11 : Int32), (12 : Int32), (13 : Int32), (14 : Int32), (15 : Int32), (16 : Int32), (17 : Int32), (18 : Int32), (19 : Int32), (20 : Int32), (21 : Int32), (22 : Int32), (23 : Int32), (24 : Int32), (25 : Int32), (26 : Int32), (27 : Int32), (28 : Int32), (29 : Int32), (30 : Int32), (31 : Int32), (32 : Int32), (33 : Int32), (34 : Int32), (35 : Int32), (36 : Int32), (37 : Int32)] (by decide +kernel) (List.forall_mem_cons.mpr ⟨c0, List.forall_mem_cons.mpr ⟨c1, List.forall_mem_cons.mpr ⟨c2, List.forall_mem_cons.mpr ⟨c3, List.forall_mem_cons.mpr ⟨c4, List.forall_mem_cons.mpr ⟨c5, List.forall_mem_cons.mpr ⟨c6, List.forall_mem_cons.mpr ⟨c7, List.forall_mem_cons.mpr ⟨c8, List.forall_mem_cons.mpr ⟨c9, List.forall_mem_cons.mpr ⟨c10, List.forall_mem_cons.mpr ⟨c11, List.forall_mem_cons.mpr ⟨c12, List.forall_mem_cons.mpr ⟨c13, List.forall_mem_cons.mpr ⟨c14, List.forall_mem_cons.mpr ⟨c15, List.forall_mem_cons.mpr ⟨c16, List.forall_mem_cons.mpr ⟨c17, List.forall_mem_cons.mpr ⟨c18, List.forall_mem_cons.mpr ⟨c19, List.forall_mem_cons.mpr ⟨c20, List.forall_mem_cons.mpr ⟨c21, List.forall_mem_cons.mpr ⟨c22, List.forall_mem_cons.mpr ⟨c23, List.forall_mem_cons.mpr ⟨c24, List.forall_mem_cons.mpr ⟨c25, List.forall_mem_cons.mpr ⟨c26, List.forall_mem_cons.mpr ⟨c27, List.forall_mem_cons.mpr ⟨c28, List.forall_mem_cons.mpr ⟨c29, List.forall_mem_cons.mpr ⟨c30, List.forall_mem_cons.mpr ⟨c31, List.forall_mem_cons.mpr ⟨c32, List.forall_mem_cons.mpr ⟨c33, List.forall_mem_cons.mpr ⟨c34, List.forall_mem_cons.mpr ⟨c35, List.forall_mem_cons.mpr ⟨c36, List.forall_mem_cons.mpr ⟨c37, fun _ h => absurd h List.not_mem_nil⟩⟩⟩⟩⟩⟩⟩⟩⟩⟩⟩⟩⟩⟩⟩⟩⟩⟩⟩⟩⟩⟩⟩⟩⟩⟩⟩⟩⟩⟩⟩⟩⟩⟩⟩⟩⟩⟩)) (by decide) ?_
  exact law_next C0 (by decide) (by decide) H locs ls hS (lv_sub hl [0, 3] rfl)
