theorem kw_98 : Cond.classLink R_law 7 RX11 ∈ zW := zwI (i := 98) (by decide +kernel) (by decide +kernel)
theorem kw_99 : Cond.instantiable RX11 11 ∈ zW := zwI (i := 99) (by decide +kernel) (by decide +kernel)
theorem kw_100 : Cond.methodLink R_law 9 yX11_init ∈ zW := zwI (i := 100) (by decide +kernel) (by decide +kernel)
theorem kw_101 : Cond.instanceMethod yX11_init ∈ zW := zwI (i := 101) (by decide +kernel) (by decide +kernel)
theorem kw_102 : Cond.code yX11_init cX11_init 4 none ∈ zW := zwI (i := 102) (by decide +kernel) (by decide +kernel)
theorem kw_1290 : Cond.classLink R_law 10 RX12 ∈ zW := zwI (i := 1290) (by decide +kernel) (by decide +kernel)
theorem kw_1291 : Cond.instantiable RX12 60 ∈ zW := zwI (i := 1291) (by decide +kernel) (by decide +kernel)
theorem kw_1292 : Cond.methodLink R_law 12 yX12_init ∈ zW := zwI (i := 1292) (by decide +kernel) (by decide +kernel)
theorem kw_1293 : Cond.instanceMethod yX12_init ∈ zW := zwI (i := 1293) (by decide +kernel) (by decide +kernel)
theorem kw_1294 : Cond.code yX12_init cX12_init 1 none ∈ zW := zwI (i := 1294) (by decide +kernel) (by decide +kernel)
theorem dL_law_0 : decode cL_law 0 = .ok (.new 7, 3) := by decide +kernel
theorem dL_law_3 : decode cL_law 3 = .ok (.dup, 1) := by decide +kernel
theorem dL_law_4 : decode cL_law 4 = .ok (.invokespecial 9, 3) := by decide +kernel
theorem dL_law_7 : decode cL_law 7 = .ok (.astore_n 1, 1) := by decide +kernel
theorem dL_law_8 : decode cL_law 8 = .ok (.new 10, 3) := by decide +kernel
theorem dL_law_11 : decode cL_law 11 = .ok (.dup, 1) := by decide +kernel
theorem dL_law_12 : decode cL_law 12 = .ok (.invokespecial 12, 3) := by decide +kernel
theorem dL_law_15 : decode cL_law 15 = .ok (.astore_n 2, 1) := by decide +kernel
theorem dL_law_16 : decode cL_law 16 = .ok (.iconst 0, 1) := by decide +kernel
theorem dL_law_17 : decode cL_law 17 = .ok (.istore_n 3, 1) := by decide +kernel
theorem dL_law_27 : decode cL_law 27 = .ok (.aload_n 0, 1) := by decide +kernel
theorem dL_law_28 : decode cL_law 28 = .ok (.iload_n 3, 1) := by decide +kernel
theorem dL_law_29 : decode cL_law 29 = .ok (.iaload, 1) := by decide +kernel
theorem dL_law_30 : decode cL_law 30 = .ok (.bipush 63, 2) := by decide +kernel
theorem dL_law_32 : decode cL_law 32 = .ok (.iand, 1) := by decide +kernel
theorem dL_law_33 : decode cL_law 33 = .ok (.tableswitch 1513 0 37 #[167, 220, 263, 296, 329, 382, 425, 458, 491, 504, 537, 570, 603, 626, 669, 712, 765, 798, 831, 865, 888, 921, 954, 967, 1010, 1033, 1076, 1119, 1132, 1145, 1188, 1211, 1244, 1287, 1360, 1394, 1457, 1490], 167) := by decide +kernel
set_option maxHeartbeats 8000000 in
set_option maxRecDepth 100000 in
theorem law_turn {p : Program} {l : Launch} {e : Env} {s : State} {m : MethodId} {below : List Frame} {meth : Method} {c : Code} {b : Nat} {xs : Nat → Int32} {D : va_G} {cs : Nat → ClassId} {k : (Nat → Nat) × (Nat → Nat)} {ad ae am : Nat → Nat} {wb : Nat} {g pf : Nat → Option Nat} (C0 : lw_At p s m meth c b 6 xs) (hK : va_K D classes (zT cs) s) (hO : zO s) (hE : zE k (fun q : Nat => s.heap.size ≤ q) s) (GF : ∀ t, t < 8 → g (24 + t) = some (ae 0)) (PF : ∀ j, j < 6 → pf j = some (ae (2 + 2 * j))) (H : Heap) (locs : List Loc) (ls : Array Slot) (hP : va_P D classes (zF ad cs ae wb g pf ++ zM am cs) H) (hD : va_D (fun q : Nat => s.heap.size ≤ q) (zF ad cs ae wb g pf ++ zM am cs)) (hS : va_S (fun q : Nat => s.heap.size ≤ q) s.heap H locs) (hl : lv_has ls 4 [(0, .ref b), (1, .ref (ad 0)), (2, .ref (am 41)), (3, .int (0 : Int32))]) : W p l e room_1 s m #[Value.ref b] below meth c H locs 2000 200000 (lw_Z below #[Value.ref b] s) (F0 m 18 ls []) := by
  obtain ⟨hx, hb, hr, hml, hown, hts, hX, hbl, hlocks, hgv⟩ := id C0
  have hA : ∀ q : Nat, s.heap.size ≤ q → (fun q : Nat => s.heap.size ≤ q) q := fun _ h => h
  have hbA : ¬ (fun q : Nat => s.heap.size ≤ q) b := Nat.not_le.mpr hbl
  have ht : ∀ w ∈ zW, w.before #[Value.ref b] s = true := fun w hw => hts w (List.mem_filter.mp hw).1
  refine lv_iload_n hx hb dL_law_18 rfl (lv_at hl 3 rfl) ?_
  refine lv_aload_n hx hb dL_law_19 rfl (lv_at hl 0 rfl) ?_
  refine va_slen hx hb hX hbl hbA hS dL_law_20 ?_
  refine lv_bipush (v := (6 : Int32)) hx hb dL_law_21 (by decide) ?_
  refine lv_isub hx hb dL_law_23 ?_
  refine lv_icmp_gt (tgt := 1552) hx hb dL_law_24 (by decide) (fun cc => absurd cc (by decide)) (fun cc => ?_)
  refine lv_aload_n hx hb dL_law_27 rfl (lv_at hl 0 rfl) ?_
  refine lv_iload_n hx hb dL_law_28 rfl (lv_at hl 3 rfl) ?_
  refine va_sld hx hb hX hbl hbA hS (by unfold vp_in; decide) dL_law_29 ?_
  refine lv_bipush (v := (63 : Int32)) hx hb dL_law_30 (by decide) ?_
  refine lv_iand hx hb dL_law_32 ?_
  generalize xs (0 : Int32).toNatClampNeg &&& (63 : Int32) = v
  by_cases c0 : v = (0 : Int32)
  · refine lv_tableIn (tgt := 200) hx hb dL_law_33 (by rw [c0]; decide) (by rw [c0]; decide) (by rw [c0]; rfl) (by decide) ?_
    exact law_case_0 C0 hK hO hE GF PF H locs ls hP hD hS hl
  by_cases c1 : v = (1 : Int32)
  · refine lv_tableIn (tgt := 253) hx hb dL_law_33 (by rw [c1]; decide) (by rw [c1]; decide) (by rw [c1]; rfl) (by decide) ?_
    exact law_case_1 C0 hK hO hE GF PF H locs ls hP hD hS hl
  by_cases c2 : v = (2 : Int32)
  · refine lv_tableIn (tgt := 296) hx hb dL_law_33 (by rw [c2]; decide) (by rw [c2]; decide) (by rw [c2]; rfl) (by decide) ?_
    exact law_case_2 C0 hK hO hE GF PF H locs ls hP hD hS hl
  by_cases c3 : v = (3 : Int32)
  · refine lv_tableIn (tgt := 329) hx hb dL_law_33 (by rw [c3]; decide) (by rw [c3]; decide) (by rw [c3]; rfl) (by decide) ?_
    exact law_case_3 C0 hK hO hE GF PF H locs ls hP hD hS hl
  by_cases c4 : v = (4 : Int32)
  · refine lv_tableIn (tgt := 362) hx hb dL_law_33 (by rw [c4]; decide) (by rw [c4]; decide) (by rw [c4]; rfl) (by decide) ?_
    exact law_case_4 C0 hK hO hE GF PF H locs ls hP hD hS hl
  by_cases c5 : v = (5 : Int32)
  · refine lv_tableIn (tgt := 415) hx hb dL_law_33 (by rw [c5]; decide) (by rw [c5]; decide) (by rw [c5]; rfl) (by decide) ?_
    exact law_case_5 C0 hK hO hE GF PF H locs ls hP hD hS hl
  by_cases c6 : v = (6 : Int32)
  · refine lv_tableIn (tgt := 458) hx hb dL_law_33 (by rw [c6]; decide) (by rw [c6]; decide) (by rw [c6]; rfl) (by decide) ?_
    exact law_case_6 C0 hK hO hE GF PF H locs ls hP hD hS hl
  by_cases c7 : v = (7 : Int32)
  · refine lv_tableIn (tgt := 491) hx hb dL_law_33 (by rw [c7]; decide) (by rw [c7]; decide) (by rw [c7]; rfl) (by decide) ?_
    exact law_case_7 C0 hK hO hE GF PF H locs ls hP hD hS hl
  by_cases c8 : v = (8 : Int32)
  · refine lv_tableIn (tgt := 524) hx hb dL_law_33 (by rw [c8]; decide) (by rw [c8]; decide) (by rw [c8]; rfl) (by decide) ?_
    exact law_case_8 C0 hK hO hE GF PF H locs ls hP hD hS hl
  by_cases c9 : v = (9 : Int32)
  · refine lv_tableIn (tgt := 537) hx hb dL_law_33 (by rw [c9]; decide) (by rw [c9]; decide) (by rw [c9]; rfl) (by decide) ?_
    exact law_case_9 C0 hK hO hE GF PF H locs ls hP hD hS hl
  by_cases c10 : v = (10 : Int32)
  · refine lv_tableIn (tgt := 570) hx hb dL_law_33 (by rw [c10]; decide) (by rw [c10]; decide) (by rw [c10]; rfl) (by decide) ?_
    exact law_case_10 C0 hK hO hE GF PF H locs ls hP hD hS hl
  by_cases c11 : v = (11 : Int32)
  · refine lv_tableIn (tgt := 603) hx hb dL_law_33 (by rw [c11]; decide) (by rw [c11]; decide) (by rw [c11]; rfl) (by decide) ?_
    exact law_case_11 C0 hK hO hE GF PF H locs ls hP hD hS hl
  by_cases c12 : v = (12 : Int32)
  · refine lv_tableIn (tgt := 636) hx hb dL_law_33 (by rw [c12]; decide) (by rw [c12]; decide) (by rw [c12]; rfl) (by decide) ?_
    exact law_case_12 C0 hK hO hE GF PF H locs ls hP hD hS hl
  by_cases c13 : v = (13 : Int32)
  · refine lv_tableIn (tgt := 659) hx hb dL_law_33 (by rw [c13]; decide) (by rw [c13]; decide) (by rw [c13]; rfl) (by decide) ?_
    exact law_case_13 C0 hK hO hE GF PF H locs ls hP hD hS hl
  by_cases c14 : v = (14 : Int32)
  · refine lv_tableIn (tgt := 702) hx hb dL_law_33 (by rw [c14]; decide) (by rw [c14]; decide) (by rw [c14]; rfl) (by decide) ?_
    exact law_case_14 C0 hK hO hE GF PF H locs ls hP hD hS hl
  by_cases c15 : v = (15 : Int32)
  · refine lv_tableIn (tgt := 745) hx hb dL_law_33 (by rw [c15]; decide) (by rw [c15]; decide) (by rw [c15]; rfl) (by decide) ?_
    exact law_case_15 C0 hK hO hE GF PF H locs ls hP hD hS hl
  by_cases c16 : v = (16 : Int32)
  · refine lv_tableIn (tgt := 798) hx hb dL_law_33 (by rw [c16]; decide) (by rw [c16]; decide) (by rw [c16]; rfl) (by decide) ?_
    exact law_case_16 C0 hK hO hE GF PF H locs ls hP hD hS hl
  by_cases c17 : v = (17 : Int32)
  · refine lv_tableIn (tgt := 831) hx hb dL_law_33 (by rw [c17]; decide) (by rw [c17]; decide) (by rw [c17]; rfl) (by decide) ?_
    exact law_case_17 C0 hK hO hE GF PF H locs ls hP hD hS hl
  by_cases c18 : v = (18 : Int32)
  · refine lv_tableIn (tgt := 864) hx hb dL_law_33 (by rw [c18]; decide) (by rw [c18]; decide) (by rw [c18]; rfl) (by decide) ?_
    exact law_case_18 C0 hK hO hE GF PF H locs ls hP hD hS hl
  by_cases c19 : v = (19 : Int32)
  · refine lv_tableIn (tgt := 898) hx hb dL_law_33 (by rw [c19]; decide) (by rw [c19]; decide) (by rw [c19]; rfl) (by decide) ?_
    exact law_case_19 C0 hK hO hE GF PF H locs ls hP hD hS hl
  by_cases c20 : v = (20 : Int32)
  · refine lv_tableIn (tgt := 921) hx hb dL_law_33 (by rw [c20]; decide) (by rw [c20]; decide) (by rw [c20]; rfl) (by decide) ?_
    exact law_case_20 C0 hK hO hE GF PF H locs ls hP hD hS hl
  by_cases c21 : v = (21 : Int32)
  · refine lv_tableIn (tgt := 954) hx hb dL_law_33 (by rw [c21]; decide) (by rw [c21]; decide) (by rw [c21]; rfl) (by decide) ?_
    exact law_case_21 C0 hK hO hE GF PF H locs ls hP hD hS hl
  by_cases c22 : v = (22 : Int32)
  · refine lv_tableIn (tgt := 987) hx hb dL_law_33 (by rw [c22]; decide) (by rw [c22]; decide) (by rw [c22]; rfl) (by decide) ?_
    exact law_case_22 C0 hK hO hE GF PF H locs ls hP hD hS hl
  by_cases c23 : v = (23 : Int32)
  · refine lv_tableIn (tgt := 1000) hx hb dL_law_33 (by rw [c23]; decide) (by rw [c23]; decide) (by rw [c23]; rfl) (by decide) ?_
    exact law_case_23 C0 hK hO hE GF PF H locs ls hP hD hS hl
  by_cases c24 : v = (24 : Int32)
  · refine lv_tableIn (tgt := 1043) hx hb dL_law_33 (by rw [c24]; decide) (by rw [c24]; decide) (by rw [c24]; rfl) (by decide) ?_
    exact law_case_24 C0 hK hO hE GF PF H locs ls hP hD hS hl
  by_cases c25 : v = (25 : Int32)
  · refine lv_tableIn (tgt := 1066) hx hb dL_law_33 (by rw [c25]; decide) (by rw [c25]; decide) (by rw [c25]; rfl) (by decide) ?_
    exact law_case_25 C0 hK hO hE GF PF H locs ls hP hD hS hl
  by_cases c26 : v = (26 : Int32)
  · refine lv_tableIn (tgt := 1109) hx hb dL_law_33 (by rw [c26]; decide) (by rw [c26]; decide) (by rw [c26]; rfl) (by decide) ?_
    exact law_case_26 C0 hK hO hE GF PF H locs ls hP hD hS hl
  by_cases c27 : v = (27 : Int32)
  · refine lv_tableIn (tgt := 1152) hx hb dL_law_33 (by rw [c27]; decide) (by rw [c27]; decide) (by rw [c27]; rfl) (by decide) ?_
    exact law_case_27 C0 hK hO hE GF PF H locs ls hP hD hS hl
  by_cases c28 : v = (28 : Int32)
  · refine lv_tableIn (tgt := 1165) hx hb dL_law_33 (by rw [c28]; decide) (by rw [c28]; decide) (by rw [c28]; rfl) (by decide) ?_
    exact law_case_28 C0 hK hO hE GF PF H locs ls hP hD hS hl
  by_cases c29 : v = (29 : Int32)
  · refine lv_tableIn (tgt := 1178) hx hb dL_law_33 (by rw [c29]; decide) (by rw [c29]; decide) (by rw [c29]; rfl) (by decide) ?_
    exact law_case_29 C0 hK hO hE GF PF H locs ls hP hD hS hl
  by_cases c30 : v = (30 : Int32)
  · refine lv_tableIn (tgt := 1221) hx hb dL_law_33 (by rw [c30]; decide) (by rw [c30]; decide) (by rw [c30]; rfl) (by decide) ?_
    exact law_case_30 C0 hK hO hE GF PF H locs ls hP hD hS hl
  by_cases c31 : v = (31 : Int32)
  · refine lv_tableIn (tgt := 1244) hx hb dL_law_33 (by rw [c31]; decide) (by rw [c31]; decide) (by rw [c31]; rfl) (by decide) ?_
    exact law_case_31 C0 hK hO hE GF PF H locs ls hP hD hS hl
  by_cases c32 : v = (32 : Int32)
  · refine lv_tableIn (tgt := 1277) hx hb dL_law_33 (by rw [c32]; decide) (by rw [c32]; decide) (by rw [c32]; rfl) (by decide) ?_
    exact law_case_32 C0 hK hO hE GF PF H locs ls hP hD hS hl
  by_cases c33 : v = (33 : Int32)
  · refine lv_tableIn (tgt := 1320) hx hb dL_law_33 (by rw [c33]; decide) (by rw [c33]; decide) (by rw [c33]; rfl) (by decide) ?_
    exact law_case_33 C0 hK hO hE GF PF H locs ls hP hD hS hl
  by_cases c34 : v = (34 : Int32)
  · refine lv_tableIn (tgt := 1393) hx hb dL_law_33 (by rw [c34]; decide) (by rw [c34]; decide) (by rw [c34]; rfl) (by decide) ?_
    exact law_case_34 C0 hK hO hE GF PF H locs ls hP hD hS hl
  by_cases c35 : v = (35 : Int32)
  · refine lv_tableIn (tgt := 1427) hx hb dL_law_33 (by rw [c35]; decide) (by rw [c35]; decide) (by rw [c35]; rfl) (by decide) ?_
    exact law_case_35 C0 hK hO hE GF PF H locs ls hP hD hS hl
  by_cases c36 : v = (36 : Int32)
  · refine lv_tableIn (tgt := 1490) hx hb dL_law_33 (by rw [c36]; decide) (by rw [c36]; decide) (by rw [c36]; rfl) (by decide) ?_
    exact law_case_36 C0 hK hO hE GF PF H locs ls hP hD hS hl
  by_cases c37 : v = (37 : Int32)
  · refine lv_tableIn (tgt := 1523) hx hb dL_law_33 (by rw [c37]; decide) (by rw [c37]; decide) (by rw [c37]; rfl) (by decide) ?_
    exact law_case_37 C0 hK hO hE GF PF H locs ls hP hD hS hl
  refine lv_tableOut (tgt := 1546) hx hb dL_law_33 (zk_out (lo := 0) (hi := 37) [(0 : Int32), (1 : Int32), (2 : Int32), (3 : Int32), (4 : Int32), (5 : Int32), (6 : Int32), (7 : Int32), (8 : Int32), (9 : Int32), (10 : Int32), (11 : Int32), (12 : Int32), (13 : Int32), (14 : Int32), (15 : Int32), (16 : Int32), (17 : Int32), (18 : Int32), (19 : Int32), (20 : Int32), (21 : Int32), (22 : Int32), (23 : Int32), (24 : Int32), (25 : Int32), (26 : Int32), (27 : Int32), (28 : Int32), (29 : Int32), (30 : Int32), (31 : Int32), (32 : Int32), (33 : Int32), (34 : Int32), (35 : Int32), (36 : Int32), (37 : Int32)] (by decide +kernel) (List.forall_mem_cons.mpr ⟨c0, List.forall_mem_cons.mpr ⟨c1, List.forall_mem_cons.mpr ⟨c2, List.forall_mem_cons.mpr ⟨c3, List.forall_mem_cons.mpr ⟨c4, List.forall_mem_cons.mpr ⟨c5, List.forall_mem_cons.mpr ⟨c6, List.forall_mem_cons.mpr ⟨c7, List.forall_mem_cons.mpr ⟨c8, List.forall_mem_cons.mpr ⟨c9, List.forall_mem_cons.mpr ⟨c10, List.forall_mem_cons.mpr ⟨c11, List.forall_mem_cons.mpr ⟨c12, List.forall_mem_cons.mpr ⟨c13, List.forall_mem_cons.mpr ⟨c14, List.forall_mem_cons.mpr ⟨c15, List.forall_mem_cons.mpr ⟨c16, List.forall_mem_cons.mpr ⟨c17, List.forall_mem_cons.mpr ⟨c18, List.forall_mem_cons.mpr ⟨c19, List.forall_mem_cons.mpr ⟨c20, List.forall_mem_cons.mpr ⟨c21, List.forall_mem_cons.mpr ⟨c22, List.forall_mem_cons.mpr ⟨c23, List.forall_mem_cons.mpr ⟨c24, List.forall_mem_cons.mpr ⟨c25, List.forall_mem_cons.mpr ⟨c26, List.forall_mem_cons.mpr ⟨c27, List.forall_mem_cons.mpr ⟨c28, List.forall_mem_cons.mpr ⟨c29, List.forall_mem_cons.mpr ⟨c30, List.forall_mem_cons.mpr ⟨c31, List.forall_mem_cons.mpr ⟨c32, List.forall_mem_cons.mpr ⟨c33, List.forall_mem_cons.mpr ⟨c34, List.forall_mem_cons.mpr ⟨c35, List.forall_mem_cons.mpr ⟨c36, List.forall_mem_cons.mpr ⟨c37, fun _ h => absurd h List.not_mem_nil⟩⟩⟩⟩⟩⟩⟩⟩⟩⟩⟩⟩⟩⟩⟩⟩⟩⟩⟩⟩⟩⟩⟩⟩⟩⟩⟩⟩⟩⟩⟩⟩⟩⟩⟩⟩⟩⟩)) (by decide) ?_
  exact law_next C0 (by decide) (by decide) H locs ls hS (lv_sub hl [0, 3] rfl)
set_option maxHeartbeats 8000000 in
set_option maxRecDepth 100000 in
theorem law_new {p : Program} {l : Launch} {e : Env} {s : State} {m : MethodId} {below : List Frame} {meth : Method} {c : Code} {b L : Nat} {xs : Nat → Int32} {D : va_G} {cs : Nat → ClassId} {k : (Nat → Nat) × (Nat → Nat)} (hL : L ≤ 6) (C0 : lw_At p s m meth c b L xs) (hK : va_K D classes (zT cs) s) (hO : zO s) (hE : zE k (fun q : Nat => s.heap.size ≤ q) s) (ls : Array Slot) (hl : lv_has ls 4 [(0, .ref b)]) : W p l e room_1 s m #[Value.ref b] below meth c s.heap [] 0 0 (lw_Z below #[Value.ref b] s) (F0 m 0 ls []) := by
  obtain ⟨hx, hb, hr, hml, hown, hts, hX, hbl, hlocks, hgv⟩ := id C0
  have hA : ∀ q : Nat, s.heap.size ≤ q → (fun q : Nat => s.heap.size ≤ q) q := fun _ h => h
  have hbA : ¬ (fun q : Nat => s.heap.size ≤ q) b := Nat.not_le.mpr hbl
  have ht : ∀ w ∈ zW, w.before #[Value.ref b] s = true := fun w hw => hts w (List.mem_filter.mp hw).1
  have hS : va_S (fun q : Nat => s.heap.size ≤ q) s.heap s.heap [] := va_S.rf
  have hP : va_P D classes [] s.heap := fun k q h => by simp at h
  have hD : va_D (fun q : Nat => s.heap.size ≤ q) [] := ⟨fun i j p q h => by simp at h, fun k q h => by simp at h⟩
  refine va_new (ci := 11) (fs := [.null, .null, .null, .null, .null, .null, .null, .null, .null, .null, .null]) (C := RX11) (T := TX11) (N := 11) hx hb ht iX11 tyX11 tyX11_ok hown (ht _ kw_98) (ht _ kw_99) (ht _ kw_75) hK hP hD hS hA rfl (zkDX11) (Nat.le_of_ble_eq_true rfl) (Nat.le_of_ble_eq_true rfl) dL_law_0 (fun hR H hP hD hS => ?_)
  have hP : va_P D classes [(hR, .inr (11, [.null, .null, .null, .null, .null, .null, .null, .null, .null, .null, .null]))] H := hP
  have hD : va_D (fun q : Nat => s.heap.size ≤ q) [(hR, .inr (11, [.null, .null, .null, .null, .null, .null, .null, .null, .null, .null, .null]))] := hD
  refine lv_dup hx hb dL_law_3 rfl ?_
  refine zk_ivE (post := fun z => z.1 0 = hR ∧ (∀ t, t < 8 → z.2.2.2.1 (24 + t) = some (z.2.1 0)) ∧ (∀ j, j < 6 → z.2.2.2.2 j = some (z.2.1 (2 + 2 * j)))) (w1 := fun (z : (Nat → Nat) × (Nat → Nat) × Nat × (Nat → Option Nat) × (Nat → Option Nat)) => zF z.1 cs z.2.1 z.2.2.1 z.2.2.2.1 z.2.2.2.2) (As := []) (rest := [.ref hR]) hE hO (ci_root l D cs k hR H.size) ⟨hx, hb, hml, hown, ht⟩ (cwI 0 ht (zGN kw_102) rfl rfl rfl (ht _ kw_75) (ht _ kw_100) (ht _ kw_101) rfl (by decide +kernel) ⟨Nat.le_of_ble_eq_true rfl, Nat.le_of_ble_eq_true rfl⟩) hP hD hS hK hA [0] [] rfl rfl rfl rfl (by decide) rfl hl.1 (Nat.le_of_ble_eq_true rfl) dL_law_4 ⟨Nat.le_of_ble_eq_true rfl, Nat.le_of_ble_eq_true rfl⟩ (fun z H locs hq hP hD hS => ?_)
  obtain ⟨ad, ae, wb, g, pf⟩ := z
  obtain ⟨e0, GF, PF⟩ := hq
  dsimp only at e0 GF PF
  subst e0
  have hP : va_P D classes (zF ad cs ae wb g pf) H := hP
  have hD : va_D (fun q : Nat => s.heap.size ≤ q) (zF ad cs ae wb g pf) := hD
  refine lv_astore_n (lv' := [(1, .ref (ad 0)), (0, .ref b)]) hx hb dL_law_7 rfl hl (by decide) rfl (fun ls hl => ?_)
  refine va_new (ci := 12) (fs := [.int 0, .int 0, .null, .null, .null, .null, .int 0, .null, .null, .null, .null, .null, .int 0, .int 0, .int 0, .int 0, .null, .null, .null, .null, .null, .null, .null, .null, .null, .null, .null, .int 0, .int 0, .null, .null, .null, .null, .int 0, .int 0, .null, .null, .null, .null, .null, .null, .null, .null, .null, .null, .int 0, .int 0, .null, .null, .int 0, .int 0, .null, .null, .int 0, .int 0, .null, .null, .null, .null, .null]) (C := RX12) (T := TX12) (N := 60) hx hb ht iX12 tyX12 tyX12_ok hown (ht _ kw_1290) (ht _ kw_1291) (ht _ kw_95) hK hP hD hS hA rfl (zkDX12) (Nat.le_of_ble_eq_true rfl) (Nat.le_of_ble_eq_true rfl) dL_law_8 (fun hM H hP hD hS => ?_)
  have hP : va_P D classes (zF ad cs ae wb g pf ++ [(hM, .inr (12, [.int 0, .int 0, .null, .null, .null, .null, .int 0, .null, .null, .null, .null, .null, .int 0, .int 0, .int 0, .int 0, .null, .null, .null, .null, .null, .null, .null, .null, .null, .null, .null, .int 0, .int 0, .null, .null, .null, .null, .int 0, .int 0, .null, .null, .null, .null, .null, .null, .null, .null, .null, .null, .int 0, .int 0, .null, .null, .int 0, .int 0, .null, .null, .int 0, .int 0, .null, .null, .null, .null, .null]))]) H := hP
  have hD : va_D (fun q : Nat => s.heap.size ≤ q) (zF ad cs ae wb g pf ++ [(hM, .inr (12, [.int 0, .int 0, .null, .null, .null, .null, .int 0, .null, .null, .null, .null, .null, .int 0, .int 0, .int 0, .int 0, .null, .null, .null, .null, .null, .null, .null, .null, .null, .null, .null, .int 0, .int 0, .null, .null, .null, .null, .int 0, .int 0, .null, .null, .null, .null, .null, .null, .null, .null, .null, .null, .int 0, .int 0, .null, .null, .int 0, .int 0, .null, .null, .int 0, .int 0, .null, .null, .null, .null, .null]))]) := hD
  refine lv_dup hx hb dL_law_11 rfl ?_
  refine zk_iv (post := fun _ => True) (w1 := fun (u : Nat → Nat) => [(hM, .inr (12, [.int 0, .int 0, .ref (u 0), .ref (u 1), .ref (u 2), .ref (u 3), .int 0, .ref (u 4), .ref (u 5), .ref (u 6), .ref (u 7), .ref (u 8), .int 0, .int 0, .int 0, .int 0, .ref (u 9), .ref (u 10), .ref (u 11), .ref (u 12), .ref (u 13), .ref (u 14), .ref (u 15), .ref (u 16), .ref (u 17), .ref (u 18), .ref (u 19), .int 0, .int 0, .ref (u 20), .ref (u 21), .ref (u 22), .ref (u 23), .int 0, .int 0, .ref (u 24), .ref (u 25), .ref (u 26), .ref (u 27), .ref (u 28), .ref (u 29), .ref (u 30), .ref (u 31), .ref (u 32), .ref (u 33), .int 0, .int 0, .ref (u 34), .ref (u 35), .int 0, .int 0, .ref (u 36), .ref (u 37), .int 0, .int 0, .ref (u 38), .ref (u 39), .ref (u 40), .ref (u 41), .ref (u 42)])), ((u 0), .inl (cs 0, 40, .inl (fun _ => 0))), ((u 1), .inl (cs 0, 40, .inl (fun _ => 0))), ((u 2), .inl (cs 0, 40, .inl (fun _ => 0))), ((u 3), .inl (cs 0, 40, .inl (fun _ => 0))), ((u 4), .inl (cs 0, 32, .inl (fun _ => 0))), ((u 5), .inl (cs 0, 32, .inl (fun _ => 0))), ((u 6), .inl (cs 0, 32, .inl (fun _ => 0))), ((u 7), .inl (cs 0, 32, .inl (fun _ => 0))), ((u 8), .inl (cs 2, 120, .inl (fun _ => 0))), ((u 9), .inl (cs 0, 45, .inl (fun _ => 0))), ((u 10), .inl (cs 0, 45, .inl (fun _ => 0))), ((u 11), .inl (cs 0, 45, .inl (fun _ => 0))), ((u 12), .inl (cs 0, 45, .inl (fun _ => 0))), ((u 13), .inl (cs 0, 45, .inl (fun _ => 0))), ((u 14), .inl (cs 0, 45, .inl (fun _ => 0))), ((u 15), .inl (cs 0, 45, .inl (fun _ => 0))), ((u 16), .inl (cs 0, 45, .inl (fun _ => 0))), ((u 17), .inl (cs 0, 45, .inl (fun _ => 0))), ((u 18), .inl (cs 2, 1440, .inl (fun _ => 0))), ((u 19), .inl (cs 2, 1440, .inl (fun _ => 0))), ((u 20), .inl (cs 0, 40, .inl (fun _ => 0))), ((u 21), .inl (cs 0, 40, .inl (fun _ => 0))), ((u 22), .inl (cs 0, 40, .inl (fun _ => 0))), ((u 23), .inl (cs 0, 40, .inl (fun _ => 0))), ((u 24), .inl (cs 2, 4290, .inl (fun _ => 0))), ((u 25), .inl (cs 0, 4290, .inl (fun _ => 0))), ((u 26), .inl (cs 0, 33, .inl (fun _ => 0))), ((u 27), .inl (cs 3, 2013, .inl (fun _ => 0))), ((u 28), .inl (cs 3, 2013, .inl (fun _ => 0))), ((u 29), .inl (cs 0, 11, .inl (fun _ => 0))), ((u 30), .inl (cs 0, 130, .inl (fun _ => 0))), ((u 31), .inl (cs 4, 240, .inl (fun _ => 0))), ((u 32), .inl (cs 0, 20, .inl (fun _ => 0))), ((u 33), .inl (cs 0, 7, .inl (fun _ => 0))), ((u 34), .inl (cs 0, 5, .inl (fun _ => 0))), ((u 35), .inl (cs 0, 5, .inl (fun _ => 0))), ((u 36), .inl (cs 0, 5376, .inl (fun _ => 0))), ((u 37), .inl (cs 0, 20, .inl (fun _ => 0))), ((u 38), .inl (cs 0, 24, .inl (fun _ => 0))), ((u 39), .inl (cs 0, 6, .inl (upd (upd (upd (upd (upd (upd (fun _ => 0) ((0 : Int32)).toNatClampNeg (-1 : Int32)) ((1 : Int32)).toNatClampNeg (-1 : Int32)) ((2 : Int32)).toNatClampNeg (-1 : Int32)) ((3 : Int32)).toNatClampNeg (-1 : Int32)) ((4 : Int32)).toNatClampNeg (-1 : Int32)) ((5 : Int32)).toNatClampNeg (-1 : Int32)))), ((u 40), .inl (cs 0, 6, .inl (fun _ => 0))), ((u 41), .inl (cs 1, 360, .inr (.inl (fun _ => 0)))), ((u 42), .inl (cs 1, 60, .inr (.inl (fun _ => 0))))]) (As := []) (rest := [.ref hM]) (ci_X12_init l D cs hM H.size) ⟨hx, hb, hml, hown, ht⟩ (cwI 0 ht (zGN kw_1294) rfl rfl rfl (ht _ kw_95) (ht _ kw_1292) (ht _ kw_1293) rfl (by decide +kernel) ⟨Nat.le_of_ble_eq_true rfl, Nat.le_of_ble_eq_true rfl⟩) hP hD hS hK hA [55] [0, 1, 2, 3, 4, 5, 6, 7, 8, 9, 10, 11, 12, 13, 14, 15, 16, 17, 18, 19, 20, 21, 22, 23, 24, 25, 26, 27, 28, 29, 30, 31, 32, 33, 34, 35, 36, 37, 38, 39, 40, 41, 42, 43, 44, 45, 46, 47, 48, 49, 50, 51, 52, 53, 54] rfl rfl rfl rfl (by decide) rfl hl.1 (Nat.le_of_ble_eq_true rfl) dL_law_12 ⟨Nat.le_of_ble_eq_true rfl, Nat.le_of_ble_eq_true rfl⟩ (fun qm H locs hq hP hD hS => ?_)
  obtain ⟨am, ham⟩ : ∃ am : Nat → Nat, am = fun k => [0, 0, 0, 0, 0, 0, 0, 0, 0, 0, 0, 0, 0, 0, 0, 0, 0, 0, 0, 0, 0, 0, 0, 0, 0, 0, 0, 0, 0, 0, 0, 0, 0, 0, 0, 0, 0, 0, 0, 0, 0, hM, (qm 0), (qm 1), (qm 2), (qm 3), (qm 4), (qm 5), (qm 6), (qm 7), (qm 8), (qm 9), (qm 10), (qm 11), (qm 12), (qm 13), (qm 14), (qm 15), (qm 16), (qm 17), (qm 18), (qm 19), (qm 20), (qm 21), (qm 22), (qm 23), (qm 24), (qm 25), (qm 26), (qm 27), (qm 28), (qm 29), (qm 30), (qm 31), (qm 32), (qm 33), (qm 34), (qm 35), (qm 36), (qm 37), (qm 38), (qm 39), (qm 40), (qm 41), (qm 42)].getD k 0 := ⟨_, rfl⟩
  have hP : va_P D classes (zF ad cs ae wb g pf ++ zM am cs) H := by rw [ham]; exact hP.sub [0, 1, 2, 3, 4, 5, 6, 7, 8, 9, 10, 11, 12, 13, 14, 15, 16, 17, 18, 19, 20, 21, 22, 23, 24, 25, 26, 27, 28, 29, 30, 31, 32, 33, 34, 35, 36, 37, 38, 39, 40, 41, 42, 43, 44, 45, 46, 47, 48, 49, 50, 51, 52, 53, 54, 55, 56, 57, 58, 59, 60, 61, 62, 63, 64, 65, 66, 67, 68, 69, 70, 71, 72, 73, 74, 75, 76, 77, 78, 79, 80, 81, 82, 83, 84, 85, 86, 87, 88, 89, 90, 91, 92, 93, 94, 95, 96, 97, 98] rfl
  have hD : va_D (fun q : Nat => s.heap.size ≤ q) (zF ad cs ae wb g pf ++ zM am cs) := by rw [ham]; exact hD.sub [0, 1, 2, 3, 4, 5, 6, 7, 8, 9, 10, 11, 12, 13, 14, 15, 16, 17, 18, 19, 20, 21, 22, 23, 24, 25, 26, 27, 28, 29, 30, 31, 32, 33, 34, 35, 36, 37, 38, 39, 40, 41, 42, 43, 44, 45, 46, 47, 48, 49, 50, 51, 52, 53, 54, 55, 56, 57, 58, 59, 60, 61, 62, 63, 64, 65, 66, 67, 68, 69, 70, 71, 72, 73, 74, 75, 76, 77, 78, 79, 80, 81, 82, 83, 84, 85, 86, 87, 88, 89, 90, 91, 92, 93, 94, 95, 96, 97, 98] rfl rfl
  have eM : hM = am 41 := by rw [ham]; rfl
  rw [eM]
  refine lv_astore_n (lv' := [(2, .ref (am 41)), (1, .ref (ad 0)), (0, .ref b)]) hx hb dL_law_15 rfl hl (by decide) rfl (fun ls hl => ?_)
  refine lv_iconst (v := (0 : Int32)) hx hb dL_law_16 (by decide) ?_
  refine lv_istore_n (lv' := [(3, .int (0 : Int32)), (2, .ref (am 41)), (1, .ref (ad 0)), (0, .ref b)]) hx hb dL_law_17 rfl hl (by decide) rfl (fun ls hl => ?_)
  refine W.widen (k := 2000) (n := 200000) (Nat.le_of_ble_eq_true rfl) (Nat.le_of_ble_eq_true rfl) ?_
  by_cases h6 : L = 6
  · subst h6
    exact law_turn C0 hK hO hE GF PF H locs ls hP hD hS (lv_sub hl [3, 2, 1, 0] rfl)
  · refine law_end C0 hL (by decide) (by decide) H locs ls hS 0 ?_ (lv_sub hl [3, 0] rfl)
    rcases (show L = 0 ∨ L = 1 ∨ L = 2 ∨ L = 3 ∨ L = 4 ∨ L = 5 by omega) with rfl | rfl | rfl | rfl | rfl | rfl <;> decide

theorem kw_494 : Cond.laysStatic "java/lang/String" "COMPACT_STRINGS" "Z" ∈ zW := zwI (i := 494) (by decide +kernel) (by decide +kernel)
theorem kw_510 : Cond.laysStatic "jdk/internal/util/Preconditions" "SIOOBE_FORMATTER" "Ljava/util/function/BiFunction;" ∈ zW := zwI (i := 510) (by decide +kernel) (by decide +kernel)

theorem zk_arr {args : Array Value} {s : State} {ty : FieldType} (hprim : ∀ C, ty ≠ .object C) (h : (Cond.arrayClass ty).before args s = true) : ∃ cA : ClassId, ArrOfT s cA ty ∧ va_RA s cA ty := by
  obtain ⟨c, k, comp, h1, h2, h3⟩ := Cond.arrayClass_spec h
  refine ⟨c, fun n z => ⟨fun k h => (by cases h), k, h2, comp, h3⟩, ?_⟩
  cases ty <;> first | exact absurd rfl (hprim _) | exact h1
theorem zk_arq {args : Array Value} {s : State} {C : String} (h : (Cond.arrayOver (.object C)).before args s = true) : ∃ cA : ClassId, ArrOfT s cA (.object C) ∧ va_RA s cA (.object C) := by
  obtain ⟨comp, c, k, h1, h2, h3, h4, h5⟩ := Cond.arrayOver_spec h
  exact ⟨c, fun n z => ⟨fun k h => (by cases h), k, h3, comp, h4⟩, k, comp, h3, h4, h1, h5⟩
def zTm : Nat → Term := fun i => match i with
  | 0 => .string "AlreadyJudged" 393
  | 1 => .string "AlreadyJudged" 395
  | 2 => .string "AlreadyJudged" 397
  | 3 => .string "AlreadyJudged" 399
  | _ => .string "AlreadyJudged$LawReader" 83
theorem zk_5 {P : Nat → Prop} (h0 : P 0) (h1 : P 1) (h2 : P 2) (h3 : P 3) (h4 : P 4) : ∀ i, i < 5 → P i := by
  intro i hi
  rcases (show i = 0 ∨ i = 1 ∨ i = 2 ∨ i = 3 ∨ i = 4 by omega) with rfl | rfl | rfl | rfl | rfl <;> assumption
set_option maxHeartbeats 8000000 in
set_option maxRecDepth 100000 in
theorem law_E {s : State} {b : Nat} (hts : ∀ w ∈ lw_tbl, w.before #[Value.ref b] s = true) (hgv : (Jvm.Cond.and given_1 narrow_1).before #[Value.ref b] s = true) : ∃ k : (Nat → Nat) × (Nat → Nat), zE k (fun q : Nat => s.heap.size ≤ q) s := by
  have hs := flat_of_before _ hgv
  have hA : ∀ a : Nat, a < s.heap.size → ¬ (fun q : Nat => s.heap.size ≤ q) a := fun a h => Nat.not_le.mpr h
  obtain ⟨adK, adV, hS, hev⟩ := vk_Sof (args := #[Value.ref b]) (s := s) (N := 5) (tm := zTm) (len := zLen) (byt := zByt) (A := fun q : Nat => s.heap.size ≤ q)
    (zk_5 (by decide) (by decide) (by decide) (by decide) (by decide))
    (zk_5 (hs _ (by decide +kernel)) (hs _ (by decide +kernel)) (hs _ (by decide +kernel)) (hs _ (by decide +kernel)) (hs _ (by decide +kernel)))
    (zk_5 (hs _ (by decide +kernel)) (hs _ (by decide +kernel)) (hs _ (by decide +kernel)) (hs _ (by decide +kernel)) (hs _ (by decide +kernel)))
    (zk_5 (hs _ (by decide +kernel)) (hs _ (by decide +kernel)) (hs _ (by decide +kernel)) (hs _ (by decide +kernel)) (hs _ (by decide +kernel)))
    (zk_5 (hs _ (by decide +kernel)) (hs _ (by decide +kernel)) (hs _ (by decide +kernel)) (hs _ (by decide +kernel)) (hs _ (by decide +kernel)))
    (zk_5 (by intro j hj; have hj : j < 17 := hj; rcases (show j = 0 ∨ j = 1 ∨ j = 2 ∨ j = 3 ∨ j = 4 ∨ j = 5 ∨ j = 6 ∨ j = 7 ∨ j = 8 ∨ j = 9 ∨ j = 10 ∨ j = 11 ∨ j = 12 ∨ j = 13 ∨ j = 14 ∨ j = 15 ∨ j = 16 by omega) with rfl | rfl | rfl | rfl | rfl | rfl | rfl | rfl | rfl | rfl | rfl | rfl | rfl | rfl | rfl | rfl | rfl <;> exact hs _ (by decide +kernel)) (by intro j hj; have hj : j < 3 := hj; rcases (show j = 0 ∨ j = 1 ∨ j = 2 by omega) with rfl | rfl | rfl <;> exact hs _ (by decide +kernel)) (by intro j hj; have hj : j < 3 := hj; rcases (show j = 0 ∨ j = 1 ∨ j = 2 by omega) with rfl | rfl | rfl <;> exact hs _ (by decide +kernel)) (by intro j hj; have hj : j < 1 := hj; rcases (show j = 0 by omega) with rfl <;> exact hs _ (by decide +kernel)) (by intro j hj; have hj : j < 11 := hj; rcases (show j = 0 ∨ j = 1 ∨ j = 2 ∨ j = 3 ∨ j = 4 ∨ j = 5 ∨ j = 6 ∨ j = 7 ∨ j = 8 ∨ j = 9 ∨ j = 10 by omega) with rfl | rfl | rfl | rfl | rfl | rfl | rfl | rfl | rfl | rfl | rfl <;> exact hs _ (by decide +kernel)))
    (by
      intro i j hi hj hij
      revert j
      revert i
      refine zk_5 ?_ ?_ ?_ ?_ ?_ <;> (intro j hj; revert j; refine zk_5 ?_ ?_ ?_ ?_ ?_ <;> first | exact fun h => absurd rfl h | exact fun _ => Or.inl (hs _ (by decide +kernel)) | exact fun _ => Or.inr (hs _ (by decide +kernel)))) hA
  refine ⟨(adK, adV), hS, ?_, va_Zof (hts _ (List.mem_filter.mp kw_494).1) (hts _ (List.mem_filter.mp kw_85).1) (va_eqt (hs (.eq (.static "java/lang/String" "COMPACT_STRINGS" "Z") (.int 1)) (by decide +kernel))) hA, va_Zqof (hts _ (List.mem_filter.mp kw_510).1) (hts _ (List.mem_filter.mp kw_87).1) (hs (.isRef (.static "jdk/internal/util/Preconditions" "SIOOBE_FORMATTER" "Ljava/util/function/BiFunction;")) (by decide +kernel)) hA⟩
  intro i q hq
  rcases (show i = 0 ∨ i = 1 ∨ i = 2 ∨ i = 3 ∨ i = 4 ∨ 5 ≤ i by omega) with rfl | rfl | rfl | rfl | rfl | h
  · cases hq; exact vk_R.of (hts (Cond.stringRef "AlreadyJudged" 393 "a&k=1|a&k=6|a&k=3") (List.mem_of_getElem? (i := 477) (by decide +kernel))) (hev 0 (by decide))
  · cases hq; exact vk_R.of (hts (Cond.stringRef "AlreadyJudged" 395 "f&n") (List.mem_of_getElem? (i := 478) (by decide +kernel))) (hev 1 (by decide))
  · cases hq; exact vk_R.of (hts (Cond.stringRef "AlreadyJudged" 397 "n<3") (List.mem_of_getElem? (i := 479) (by decide +kernel))) (hev 2 (by decide))
  · cases hq; exact vk_R.of (hts (Cond.stringRef "AlreadyJudged" 399 "1") (List.mem_of_getElem? (i := 480) (by decide +kernel))) (hev 3 (by decide))
  · cases hq; exact vk_R.of (hts (Cond.stringRef "AlreadyJudged$LawReader" 83 "kwdlhascrfn") (List.mem_of_getElem? (i := 586) (by decide +kernel))) (hev 4 (by decide))
  · rw [List.getElem?_eq_none (by show 5 ≤ i; exact h)] at hq; cases hq
theorem law_O {s : State} {b : Nat} (hts : ∀ w ∈ lw_tbl, w.before #[Value.ref b] s = true) : zO s :=
  ⟨va_AO.of (hts (Cond.arrayOver (.object "AlreadyJudged$Suit")) (List.mem_of_getElem? (i := 113) (by decide +kernel))), va_AO.of (hts (Cond.arrayOver (.object "AlreadyJudged$Law")) (List.mem_of_getElem? (i := 115) (by decide +kernel))), va_AO.of (hts (Cond.arrayOver (.object "AlreadyJudged$Place")) (List.mem_of_getElem? (i := 473) (by decide +kernel))), List.forall_mem_cons.mpr ⟨va_Nw.of rfl (hts (Cond.methodLinkNest RX11 9 yX2_init "AlreadyJudged") (List.mem_of_getElem? (i := 108) (by decide +kernel))), List.forall_mem_cons.mpr ⟨va_Nw.of rfl (hts (Cond.methodLinkNest RX11 27 yX9_init "AlreadyJudged") (List.mem_of_getElem? (i := 231) (by decide +kernel))), List.forall_mem_cons.mpr ⟨va_Nw.of rfl (hts (Cond.methodLinkNest RX11 50 yX10_init "AlreadyJudged") (List.mem_of_getElem? (i := 293) (by decide +kernel))), List.forall_mem_cons.mpr ⟨va_Nw.of rfl (hts (Cond.methodLinkNest RX10 29 yX7_init "AlreadyJudged") (List.mem_of_getElem? (i := 299) (by decide +kernel))), List.forall_mem_cons.mpr ⟨va_Nw.of rfl (hts (Cond.methodLinkNest RX11 64 yX0_init "AlreadyJudged") (List.mem_of_getElem? (i := 449) (by decide +kernel))), List.forall_mem_cons.mpr ⟨va_Nw.of rfl (hts (Cond.methodLinkNest RX11 102 yX6_init "AlreadyJudged") (List.mem_of_getElem? (i := 676) (by decide +kernel))), List.forall_mem_cons.mpr ⟨va_Nw.of rfl (hts (Cond.methodLinkNest RX2 48 yX11_isDay "AlreadyJudged") (List.mem_of_getElem? (i := 737) (by decide +kernel))), List.forall_mem_cons.mpr ⟨va_Nw.of rfl (hts (Cond.methodLinkNest RX8 58 yX7_init "AlreadyJudged") (List.mem_of_getElem? (i := 876) (by decide +kernel))), fun _ h => absurd h List.not_mem_nil⟩⟩⟩⟩⟩⟩⟩⟩⟩
set_option maxHeartbeats 8000000 in
set_option maxRecDepth 100000 in
theorem law_K {s : State} {b : Nat} (hts : ∀ w ∈ lw_tbl, w.before #[Value.ref b] s = true) : ∃ (D : va_G) (cs : Nat → ClassId), va_K D classes (zT cs) s := by
  obtain ⟨c0, i0, h0⟩ := u_known (C := RX0) (T := TX0) (N := 5) (n := 5) hts (fun w hw => (List.mem_filter.mp (iX0 w hw)).1) (hts _ (List.mem_filter.mp kw_448).1)
  obtain ⟨c1, i1, h1⟩ := u_known (C := RX1) (T := TX1) (N := 7) (n := 7) hts (fun w hw => (List.mem_filter.mp (iX1 w hw)).1) (hts _ (List.mem_filter.mp kw_419).1)
  obtain ⟨c2, i2, h2⟩ := u_known (C := RX2) (T := TX2) (N := 13) (n := 13) hts (fun w hw => (List.mem_filter.mp (iX2 w hw)).1) (hts _ (List.mem_filter.mp kw_107).1)
  obtain ⟨c3, i3, h3⟩ := u_known (C := RX3) (T := TX3) (N := 11) (n := 11) hts (fun w hw => (List.mem_filter.mp (iX3 w hw)).1) (hts _ (List.mem_filter.mp kw_186).1)
  obtain ⟨c4, i4, h4⟩ := u_known (C := RX4) (T := TX4) (N := 1) (n := 1) hts (fun w hw => (List.mem_filter.mp (iX4 w hw)).1) (hts _ (List.mem_filter.mp kw_651).1)
  obtain ⟨c5, i5, h5⟩ := u_known (C := RX5) (T := TX5) (N := 5) (n := 5) hts (fun w hw => (List.mem_filter.mp (iX5 w hw)).1) (hts _ (List.mem_filter.mp kw_269).1)
  obtain ⟨c6, i6, h6⟩ := u_known (C := RX6) (T := TX6) (N := 4) (n := 4) hts (fun w hw => (List.mem_filter.mp (iX6 w hw)).1) (hts _ (List.mem_filter.mp kw_675).1)
  obtain ⟨c7, i7, h7⟩ := u_known (C := RX7) (T := TX7) (N := 15) (n := 15) hts (fun w hw => (List.mem_filter.mp (iX7 w hw)).1) (hts _ (List.mem_filter.mp kw_298).1)
  obtain ⟨c8, i8, h8⟩ := u_known (C := RX8) (T := TX8) (N := 5) (n := 5) hts (fun w hw => (List.mem_filter.mp (iX8 w hw)).1) (hts _ (List.mem_filter.mp kw_246).1)
  obtain ⟨c9, i9, h9⟩ := u_known (C := RX9) (T := TX9) (N := 2) (n := 2) hts (fun w hw => (List.mem_filter.mp (iX9 w hw)).1) (hts _ (List.mem_filter.mp kw_230).1)
  obtain ⟨c10, i10, h10⟩ := u_known (C := RX10) (T := TX10) (N := 9) (n := 9) hts (fun w hw => (List.mem_filter.mp (iX10 w hw)).1) (hts _ (List.mem_filter.mp kw_292).1)
  obtain ⟨c11, i11, h11⟩ := u_known (C := RX11) (T := TX11) (N := 11) (n := 11) hts (fun w hw => (List.mem_filter.mp (iX11 w hw)).1) (hts _ (List.mem_filter.mp kw_99).1)
  obtain ⟨c12, i12, h12⟩ := u_known (C := RX12) (T := TX12) (N := 60) (n := 60) hts (fun w hw => (List.mem_filter.mp (iX12 w hw)).1) (hts _ (List.mem_filter.mp kw_1291).1)
  obtain ⟨a0, A0⟩ := zk_arr (ty := .int) (by intro C h; cases h) (hts _ (List.mem_filter.mp kw_184).1)
  obtain ⟨a1, A1⟩ := zk_arr (ty := .long) (by intro C h; cases h) (hts _ (List.mem_filter.mp kw_228).1)
  obtain ⟨a2, A2⟩ := zk_arr (ty := .byte) (by intro C h; cases h) (hts _ (List.mem_filter.mp kw_674).1)
  obtain ⟨a3, A3⟩ := zk_arr (ty := .short) (by intro C h; cases h) (hts _ (List.mem_filter.mp kw_1476).1)
  obtain ⟨a4, A4⟩ := zk_arr (ty := .boolean) (by intro C h; cases h) (hts _ (List.mem_filter.mp kw_1477).1)
  obtain ⟨a5, A5⟩ := zk_arq (C := "AlreadyJudged$Suit") (hts (Cond.arrayOver (.object "AlreadyJudged$Suit")) (List.mem_of_getElem? (i := 113) (by decide +kernel)))
  obtain ⟨a6, A6⟩ := zk_arq (C := "AlreadyJudged$Law") (hts (Cond.arrayOver (.object "AlreadyJudged$Law")) (List.mem_of_getElem? (i := 115) (by decide +kernel)))
  obtain ⟨a7, A7⟩ := zk_arq (C := "AlreadyJudged$Place") (hts (Cond.arrayOver (.object "AlreadyJudged$Place")) (List.mem_of_getElem? (i := 473) (by decide +kernel)))
  refine ⟨(fun k => [c0, c1, c2, c3, c4, c5, c6, c7, c8, c9, c10, c11, c12].getD k c0, fun k => [i0, i1, i2, i3, i4, i5, i6, i7, i8, i9, i10, i11, i12].getD k i0), fun k => [a0, a1, a2, a3, a4, a5, a6, a7].getD k a0, ?_, ?_⟩
  · intro k q hq
    match k, hq with
    | 0, hq => cases hq; exact h0
    | 1, hq => cases hq; exact h1
    | 2, hq => cases hq; exact h2
    | 3, hq => cases hq; exact h3
    | 4, hq => cases hq; exact h4
    | 5, hq => cases hq; exact h5
    | 6, hq => cases hq; exact h6
    | 7, hq => cases hq; exact h7
    | 8, hq => cases hq; exact h8
    | 9, hq => cases hq; exact h9
    | 10, hq => cases hq; exact h10
    | 11, hq => cases hq; exact h11
    | 12, hq => cases hq; exact h12
    | k + 13, hq => simp [classes, vwCl] at hq
  · intro k q hq
    match k, hq with
    | 0, hq => cases hq; exact A0
    | 1, hq => cases hq; exact A1
    | 2, hq => cases hq; exact A2
    | 3, hq => cases hq; exact A3
    | 4, hq => cases hq; exact A4
    | 5, hq => cases hq; exact A5
    | 6, hq => cases hq; exact A6
    | 7, hq => cases hq; exact A7
    | k + 8, hq => simp [zT] at hq
set_option maxHeartbeats 8000000 in
theorem whole_start {p : Program} {e : Env} {s : State} {m : MethodId} {below : List Frame} {meth : Method} {c : Code} (l : Launch) (hflags : l.flags = flags0) {b L : Nat} {xs : Nat → Int32} (hL : L ≤ 6) (C0 : lw_At p s m meth c b L xs) : W p l e room_1 s m #[Value.ref b] below meth c s.heap [] 0 0 (lw_Z below #[Value.ref b] s) (entryFrame m ([Value.ref b] : List Value).toArray 4) := by
  obtain ⟨hx, hb, hr, hml, hown, hts, hX, hbl, hlocks, hgv⟩ := id C0
  obtain ⟨D, cs, hK⟩ := law_K hts
  obtain ⟨k, hE⟩ := law_E hts hgv
  have hl := lv_entry ([.ref b]) (n := 4) (Nat.le_of_ble_eq_true rfl)
  rw [lg_entry_eq]
  generalize (lg_sl ([.ref b]) ++ List.replicate (4 - (lg_sl ([.ref b])).length) Slot.unset).toArray = ls at hl ⊢
  exact law_new hL C0 hK (law_O hts) hE ls hl
