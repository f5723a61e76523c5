theorem zh_cL_law_0 : zck [187, 0, 7, 89, 183, 0, 9, 76, 187, 0, 10, 89, 183, 0, 12, 77, 3, 62, 29, 42, 190, 16] (zdu 0 cL_law.data.toList) = true := by decide +kernel
theorem dL_law_18 : decode cL_law 18 = .ok (.iload_n 3, 1) := zo_29 zh_cL_law_0 18 rfl
theorem dL_law_19 : decode cL_law 19 = .ok (.aload_n 0, 1) := zo_42 zh_cL_law_0 19 rfl
theorem zh_cL_law_1 : zck [190, 16, 6, 100, 163, 5, 246, 42, 29, 46, 16, 63, 126, 170, 0, 0, 0, 0, 5, 231, 0, 0] (zdu 20 cL_law.data.toList) = true := by decide +kernel
theorem dL_law_20 : decode cL_law 20 = .ok (.arraylength, 1) := zo_190 zh_cL_law_1 0 rfl
theorem dL_law_21 : decode cL_law 21 = .ok (.bipush 6, 2) := zo_p16 zh_cL_law_1 1 6 rfl rfl
theorem dL_law_23 : decode cL_law 23 = .ok (.isub, 1) := zo_100 zh_cL_law_1 3 rfl
theorem dL_law_24 : decode cL_law 24 = .ok (.if_icmp .gt 1526, 3) := zo_p163 zh_cL_law_1 4 1526 rfl rfl
theorem dL_law_27 : decode cL_law 27 = .ok (.aload_n 0, 1) := zo_42 zh_cL_law_1 7 rfl
theorem dL_law_28 : decode cL_law 28 = .ok (.iload_n 3, 1) := zo_29 zh_cL_law_1 8 rfl
theorem dL_law_29 : decode cL_law 29 = .ok (.iaload, 1) := zo_46 zh_cL_law_1 9 rfl
theorem dL_law_30 : decode cL_law 30 = .ok (.bipush 63, 2) := zo_p16 zh_cL_law_1 10 63 rfl rfl
theorem dL_law_32 : decode cL_law 32 = .ok (.iand, 1) := zo_126 zh_cL_law_1 12 rfl
theorem dL_law_33 : decode cL_law 33 = .ok (.tableswitch 1511 0 37 #[167, 220, 263, 296, 329, 382, 425, 458, 491, 504, 537, 570, 603, 626, 669, 712, 765, 798, 831, 864, 887, 920, 953, 966, 1009, 1032, 1075, 1118, 1131, 1144, 1187, 1210, 1243, 1286, 1359, 1392, 1455, 1488], 167) := by decide +kernel
set_option maxRecDepth 100000 in
theorem zh_cL_law_77 : zck [0, 5, 3, 172, 132, 3, 6, 167, 250, 7, 4, 172] (zdu 1540 cL_law.data.toList) = true := by decide +kernel
theorem dL_law_1544 : decode cL_law 1544 = .ok (.iinc 3 6, 3) := zo_p132 zh_cL_law_77 4 6 rfl rfl
theorem dL_law_1547 : decode cL_law 1547 = .ok (.goto (-1529), 3) := zo_n167 zh_cL_law_77 7 1528 rfl rfl
theorem dL_law_1550 : decode cL_law 1550 = .ok (.iconst 1, 1) := zo_4 zh_cL_law_77 10 rfl
theorem dL_law_1551 : decode cL_law 1551 = .ok (.ireturn, 1) := zo_172 zh_cL_law_77 11 rfl
set_option maxHeartbeats 4000000 in
theorem law_end {p : Program} {l : Launch} {e : Env} {s : State} {m : MethodId} {below : List Frame} {meth : Method} {c : Code} {b L : Nat} {xs : Nat → Int32} (C0 : lw_At p s m meth c b L xs) {cells slots : Nat} (hc : cells ≤ 600000) (hs : slots ≤ 7302250) (H : Heap) (locs : List Loc) (ls : Array Slot) (hS : va_S (fun q : Nat => s.heap.size ≤ q) s.heap H locs) : W p l e room_1 s m #[Value.ref b] below meth c H locs cells slots (lw_Z below #[Value.ref b] s) (F0 m 1550 ls []) := by
  obtain ⟨hx, hb, hr, hml, hown, hts, hX, hbl, hlocks, hgv⟩ := id C0
  refine lv_iconst (v := 1) hx hb dL_law_1550 (by decide) ?_
  refine va_forget (fun q hq => hS.2.2 q hq) ?_
  refine W.widen (k := 600000) (n := 7302250) hc hs ?_
  exact lw_ret hx hb hr hlocks dL_law_1551
theorem zl_len {L : Nat} (hL : L ≤ 3072) : (Int32.ofNat L - 6).toInt = (L : Int) - 6 := by
  have e : (Int32.ofNat L).toInt = (L : Int) := Int32.toInt_ofNat_of_lt (by omega)
  have e6 : (6 : Int32).toInt = 6 := by decide
  rw [Int32.toInt_sub, e, e6]
  exact zi_bm2 (by omega) (by omega)
set_option maxHeartbeats 8000000 in
set_option maxRecDepth 100000 in
theorem law_loop {p : Program} {l : Launch} {e : Env} {s : State} {m : MethodId} {below : List Frame} {meth : Method} {c : Code} {b L : Nat} {xs : Nat → Int32} {D : va_G} {cs : Nat → ClassId} {k : (Nat → Nat) × (Nat → Nat)} {ad am : Nat → Nat} (C0 : lw_At p s m meth c b L xs) (hK : va_K D classes (zT cs) s) (hO : zO s) (hE : zE k (fun q : Nat => s.heap.size ≤ q) s) (hL : L ≤ 3072) : ∀ (n t : Nat) (x3 : Int32) (z : ZT) (w : MT) (cells slots : Nat), x3.toInt = 6 * (t : Int) → t ≤ 600 → (L : Int) < 6 * (t : Int) + 6 * (n : Int) → cells ≤ 2000 + 2 * t → slots ≤ 200000 + 122 * t → IX ad cs z → IM w → RL z w → ∀ (H : Heap) (locs : List Loc) (ls : Array Slot), va_P D classes (WM am cs w ++ WX ad cs z) H → va_D (fun q : Nat => s.heap.size ≤ q) (WM am cs w ++ WX ad cs z) → va_S (fun q : Nat => s.heap.size ≤ q) s.heap H locs → lv_has ls 4 [(0, .ref b), (1, .ref (ad 0)), (2, .ref (am 41)), (3, .int x3)] → W p l e room_1 s m #[Value.ref b] below meth c H locs cells slots (lw_Z below #[Value.ref b] s) (F0 m 18 ls []) := by
  obtain ⟨hx, hb, hr, hml, hown, hts, hX, hbl, hlocks, hgv⟩ := id C0
  have hA : ∀ q : Nat, s.heap.size ≤ q → (fun q : Nat => s.heap.size ≤ q) q := fun _ h => h
  have hbA : ¬ (fun q : Nat => s.heap.size ≤ q) b := Nat.not_le.mpr hbl
  have ht : ∀ w ∈ zW, w.before #[Value.ref b] s = true := fun w hw => hts w (List.mem_filter.mp hw).1
  intro n
  induction n with
  | zero =>
    intro t x3 z w cells slots hx3 ht6 hn hc hs hI hJ hRL H locs ls hP hD hS hl
    refine lv_iload_n hx hb dL_law_18 rfl (lv_at hl 3 rfl) ?_
    refine lv_aload_n hx hb dL_law_19 rfl (lv_at hl 0 rfl) ?_
    refine va_slen hx hb hX hbl hbA hS dL_law_20 ?_
    refine lv_bipush (v := (6 : Int32)) hx hb dL_law_21 (by decide) ?_
    refine lv_isub hx hb dL_law_23 ?_
    refine lv_icmp_gt (tgt := 1550) hx hb dL_law_24 (by decide) (fun cc => ?_) (fun cc => absurd (Int32.lt_iff_toInt_lt.mpr (by rw [zl_len hL]; omega)) cc)
    exact law_end C0 (by omega) (by omega) H locs ls hS
  | succ n ih =>
    intro t x3 z w cells slots hx3 ht6 hn hc hs hI hJ hRL H locs ls hP hD hS hl
    refine lv_iload_n hx hb dL_law_18 rfl (lv_at hl 3 rfl) ?_
    refine lv_aload_n hx hb dL_law_19 rfl (lv_at hl 0 rfl) ?_
    refine va_slen hx hb hX hbl hbA hS dL_law_20 ?_
    refine lv_bipush (v := (6 : Int32)) hx hb dL_law_21 (by decide) ?_
    refine lv_isub hx hb dL_law_23 ?_
    refine lv_icmp_gt (tgt := 1550) hx hb dL_law_24 (by decide) (fun cc => law_end C0 (by omega) (by omega) H locs ls hS) (fun cc => ?_)
    have h3 : 0 ≤ x3.toInt ∧ x3.toInt + 6 ≤ (L : Int) := by
      have h4 : ¬ (Int32.ofNat L - 6).toInt < x3.toInt := fun q => cc (Int32.lt_iff_toInt_lt.mpr q)
      rw [zl_len hL] at h4
      omega
    have kk : ∀ (z2 : ZT) (w2 : MT) (H : Heap) (locs : List Loc) (ls : Array Slot) (cells2 slots2 : Nat), IX ad cs z2 → IM w2 → RL z2 w2 → cells2 ≤ cells + 2 → slots2 ≤ slots + 122 → va_P D classes (WM am cs w2 ++ WX ad cs z2) H → va_D (fun q : Nat => s.heap.size ≤ q) (WM am cs w2 ++ WX ad cs z2) → va_S (fun q : Nat => s.heap.size ≤ q) s.heap H locs → lv_has ls 4 [(0, .ref b), (1, .ref (ad 0)), (2, .ref (am 41)), (3, .int x3)] → W p l e room_1 s m #[Value.ref b] below meth c H locs cells2 slots2 (lw_Z below #[Value.ref b] s) (F0 m 1544 ls []) := by
      intro z2 w2 H locs ls cells2 slots2 hI2 hJ2 hR2 hc2 hs2 hP hD hS hl
      refine lv_iinc (v := x3 + 6) (lv' := [(3, .int (x3 + 6)), (0, .ref b), (1, .ref (ad 0)), (2, .ref (am 41))]) hx hb dL_law_1544 hl (k := 3) rfl rfl (by decide) rfl (fun ls hl => ?_)
      refine lv_goto (tgt := 18) hx hb dL_law_1547 (by decide) ?_
      have e6 : (6 : Int32).toInt = 6 := by decide
      exact ih (t + 1) (x3 + 6) z2 w2 cells2 slots2 (by rw [Int32.toInt_add, e6, hx3, zi_bm2 (by omega) (by omega)]; omega) (by omega) (by omega) (by omega) (by omega) hI2 hJ2 hR2 H locs ls hP hD hS (lv_sub hl [1, 2, 3, 0] rfl)
    refine lv_aload_n hx hb dL_law_27 rfl (lv_at hl 0 rfl) ?_
    refine lv_iload_n hx hb dL_law_28 rfl (lv_at hl 3 rfl) ?_
    refine va_sld hx hb hX hbl hbA hS (zl_in0 h3) dL_law_29 ?_
    refine lv_bipush (v := (63 : Int32)) hx hb dL_law_30 (by decide) ?_
    refine lv_iand hx hb dL_law_32 ?_
    generalize xs x3.toNatClampNeg &&& (63 : Int32) = v
    by_cases c0 : v = (0 : Int32)
    · refine lv_tableIn (tgt := 200) hx hb dL_law_33 (by rw [c0]; decide) (by rw [c0]; decide) (by rw [c0]; rfl) (by decide) ?_
      exact law_case_0 C0 hK hO hE hL x3 h3 z w hI hJ hRL cells slots (by omega) (by omega) H locs ls hP hD hS hl kk
    by_cases c1 : v = (1 : Int32)
    · refine lv_tableIn (tgt := 253) hx hb dL_law_33 (by rw [c1]; decide) (by rw [c1]; decide) (by rw [c1]; rfl) (by decide) ?_
      exact law_case_1 C0 hK hO hE hL x3 h3 z w hI hJ hRL cells slots (by omega) (by omega) H locs ls hP hD hS hl kk
    by_cases c2 : v = (2 : Int32)
    · refine lv_tableIn (tgt := 296) hx hb dL_law_33 (by rw [c2]; decide) (by rw [c2]; decide) (by rw [c2]; rfl) (by decide) ?_
      exact law_case_2 C0 hK hO hE hL x3 h3 z w hI hJ hRL cells slots (by omega) (by omega) H locs ls hP hD hS hl kk
    by_cases c3 : v = (3 : Int32)
    · refine lv_tableIn (tgt := 329) hx hb dL_law_33 (by rw [c3]; decide) (by rw [c3]; decide) (by rw [c3]; rfl) (by decide) ?_
      exact law_case_3 C0 hK hO hE hL x3 h3 z w hI hJ hRL cells slots (by omega) (by omega) H locs ls hP hD hS hl kk
    by_cases c4 : v = (4 : Int32)
    · refine lv_tableIn (tgt := 362) hx hb dL_law_33 (by rw [c4]; decide) (by rw [c4]; decide) (by rw [c4]; rfl) (by decide) ?_
      exact law_case_4 C0 hK hO hE hL x3 h3 z w hI hJ hRL cells slots (by omega) (by omega) H locs ls hP hD hS hl kk
    by_cases c5 : v = (5 : Int32)
    · refine lv_tableIn (tgt := 415) hx hb dL_law_33 (by rw [c5]; decide) (by rw [c5]; decide) (by rw [c5]; rfl) (by decide) ?_
      exact law_case_5 C0 hK hO hE hL x3 h3 z w hI hJ hRL cells slots (by omega) (by omega) H locs ls hP hD hS hl kk
    by_cases c6 : v = (6 : Int32)
    · refine lv_tableIn (tgt := 458) hx hb dL_law_33 (by rw [c6]; decide) (by rw [c6]; decide) (by rw [c6]; rfl) (by decide) ?_
      exact law_case_6 C0 hK hO hE hL x3 h3 z w hI hJ hRL cells slots (by omega) (by omega) H locs ls hP hD hS hl kk
    by_cases c7 : v = (7 : Int32)
    · refine lv_tableIn (tgt := 491) hx hb dL_law_33 (by rw [c7]; decide) (by rw [c7]; decide) (by rw [c7]; rfl) (by decide) ?_
      exact law_case_7 C0 hK hO hE hL x3 h3 z w hI hJ hRL cells slots (by omega) (by omega) H locs ls hP hD hS hl kk
    by_cases c8 : v = (8 : Int32)
    · refine lv_tableIn (tgt := 524) hx hb dL_law_33 (by rw [c8]; decide) (by rw [c8]; decide) (by rw [c8]; rfl) (by decide) ?_
      exact law_case_8 C0 hK hO hE hL x3 h3 z w hI hJ hRL cells slots (by omega) (by omega) H locs ls hP hD hS hl kk
    by_cases c9 : v = (9 : Int32)
    · refine lv_tableIn (tgt := 537) hx hb dL_law_33 (by rw [c9]; decide) (by rw [c9]; decide) (by rw [c9]; rfl) (by decide) ?_
      exact law_case_9 C0 hK hO hE hL x3 h3 z w hI hJ hRL cells slots (by omega) (by omega) H locs ls hP hD hS hl kk
    by_cases c10 : v = (10 : Int32)
    · refine lv_tableIn (tgt := 570) hx hb dL_law_33 (by rw [c10]; decide) (by rw [c10]; decide) (by rw [c10]; rfl) (by decide) ?_
      exact law_case_10 C0 hK hO hE hL x3 h3 z w hI hJ hRL cells slots (by omega) (by omega) H locs ls hP hD hS hl kk
    by_cases c11 : v = (11 : Int32)
    · refine lv_tableIn (tgt := 603) hx hb dL_law_33 (by rw [c11]; decide) (by rw [c11]; decide) (by rw [c11]; rfl) (by decide) ?_
      exact law_case_11 C0 hK hO hE hL x3 h3 z w hI hJ hRL cells slots (by omega) (by omega) H locs ls hP hD hS hl kk
    by_cases c12 : v = (12 : Int32)
    · refine lv_tableIn (tgt := 636) hx hb dL_law_33 (by rw [c12]; decide) (by rw [c12]; decide) (by rw [c12]; rfl) (by decide) ?_
      exact law_case_12 C0 hK hO hE hL x3 h3 z w hI hJ hRL cells slots (by omega) (by omega) H locs ls hP hD hS hl kk
    by_cases c13 : v = (13 : Int32)
    · refine lv_tableIn (tgt := 659) hx hb dL_law_33 (by rw [c13]; decide) (by rw [c13]; decide) (by rw [c13]; rfl) (by decide) ?_
      exact law_case_13 C0 hK hO hE hL x3 h3 z w hI hJ hRL cells slots (by omega) (by omega) H locs ls hP hD hS hl kk
    by_cases c14 : v = (14 : Int32)
    · refine lv_tableIn (tgt := 702) hx hb dL_law_33 (by rw [c14]; decide) (by rw [c14]; decide) (by rw [c14]; rfl) (by decide) ?_
      exact law_case_14 C0 hK hO hE hL x3 h3 z w hI hJ hRL cells slots (by omega) (by omega) H locs ls hP hD hS hl kk
    by_cases c15 : v = (15 : Int32)
    · refine lv_tableIn (tgt := 745) hx hb dL_law_33 (by rw [c15]; decide) (by rw [c15]; decide) (by rw [c15]; rfl) (by decide) ?_
      exact law_case_15 C0 hK hO hE hL x3 h3 z w hI hJ hRL cells slots (by omega) (by omega) H locs ls hP hD hS hl kk
    by_cases c16 : v = (16 : Int32)
    · refine lv_tableIn (tgt := 798) hx hb dL_law_33 (by rw [c16]; decide) (by rw [c16]; decide) (by rw [c16]; rfl) (by decide) ?_
      exact law_case_16 C0 hK hO hE hL x3 h3 z w hI hJ hRL cells slots (by omega) (by omega) H locs ls hP hD hS hl kk
    by_cases c17 : v = (17 : Int32)
    · refine lv_tableIn (tgt := 831) hx hb dL_law_33 (by rw [c17]; decide) (by rw [c17]; decide) (by rw [c17]; rfl) (by decide) ?_
      exact law_case_17 C0 hK hO hE hL x3 h3 z w hI hJ hRL cells slots (by omega) (by omega) H locs ls hP hD hS hl kk
    by_cases c18 : v = (18 : Int32)
    · refine lv_tableIn (tgt := 864) hx hb dL_law_33 (by rw [c18]; decide) (by rw [c18]; decide) (by rw [c18]; rfl) (by decide) ?_
      exact law_case_18 C0 hK hO hE hL x3 h3 z w hI hJ hRL cells slots (by omega) (by omega) H locs ls hP hD hS hl kk
    by_cases c19 : v = (19 : Int32)
    · refine lv_tableIn (tgt := 897) hx hb dL_law_33 (by rw [c19]; decide) (by rw [c19]; decide) (by rw [c19]; rfl) (by decide) ?_
      exact law_case_19 C0 hK hO hE hL x3 h3 z w hI hJ hRL cells slots (by omega) (by omega) H locs ls hP hD hS hl kk
    by_cases c20 : v = (20 : Int32)
    · refine lv_tableIn (tgt := 920) hx hb dL_law_33 (by rw [c20]; decide) (by rw [c20]; decide) (by rw [c20]; rfl) (by decide) ?_
      exact law_case_20 C0 hK hO hE hL x3 h3 z w hI hJ hRL cells slots (by omega) (by omega) H locs ls hP hD hS hl kk
    by_cases c21 : v = (21 : Int32)
    · refine lv_tableIn (tgt := 953) hx hb dL_law_33 (by rw [c21]; decide) (by rw [c21]; decide) (by rw [c21]; rfl) (by decide) ?_
      exact law_case_21 C0 hK hO hE hL x3 h3 z w hI hJ hRL cells slots (by omega) (by omega) H locs ls hP hD hS hl kk
    by_cases c22 : v = (22 : Int32)
    · refine lv_tableIn (tgt := 986) hx hb dL_law_33 (by rw [c22]; decide) (by rw [c22]; decide) (by rw [c22]; rfl) (by decide) ?_
      exact law_case_22 C0 hK hO hE hL x3 h3 z w hI hJ hRL cells slots (by omega) (by omega) H locs ls hP hD hS hl kk
    by_cases c23 : v = (23 : Int32)
    · refine lv_tableIn (tgt := 999) hx hb dL_law_33 (by rw [c23]; decide) (by rw [c23]; decide) (by rw [c23]; rfl) (by decide) ?_
      exact law_case_23 C0 hK hO hE hL x3 h3 z w hI hJ hRL cells slots (by omega) (by omega) H locs ls hP hD hS hl kk
    by_cases c24 : v = (24 : Int32)
    · refine lv_tableIn (tgt := 1042) hx hb dL_law_33 (by rw [c24]; decide) (by rw [c24]; decide) (by rw [c24]; rfl) (by decide) ?_
      exact law_case_24 C0 hK hO hE hL x3 h3 z w hI hJ hRL cells slots (by omega) (by omega) H locs ls hP hD hS hl kk
    by_cases c25 : v = (25 : Int32)
    · refine lv_tableIn (tgt := 1065) hx hb dL_law_33 (by rw [c25]; decide) (by rw [c25]; decide) (by rw [c25]; rfl) (by decide) ?_
      exact law_case_25 C0 hK hO hE hL x3 h3 z w hI hJ hRL cells slots (by omega) (by omega) H locs ls hP hD hS hl kk
    by_cases c26 : v = (26 : Int32)
    · refine lv_tableIn (tgt := 1108) hx hb dL_law_33 (by rw [c26]; decide) (by rw [c26]; decide) (by rw [c26]; rfl) (by decide) ?_
      exact law_case_26 C0 hK hO hE hL x3 h3 z w hI hJ hRL cells slots (by omega) (by omega) H locs ls hP hD hS hl kk
    by_cases c27 : v = (27 : Int32)
    · refine lv_tableIn (tgt := 1151) hx hb dL_law_33 (by rw [c27]; decide) (by rw [c27]; decide) (by rw [c27]; rfl) (by decide) ?_
      exact law_case_27 C0 hK hO hE hL x3 h3 z w hI hJ hRL cells slots (by omega) (by omega) H locs ls hP hD hS hl kk
    by_cases c28 : v = (28 : Int32)
    · refine lv_tableIn (tgt := 1164) hx hb dL_law_33 (by rw [c28]; decide) (by rw [c28]; decide) (by rw [c28]; rfl) (by decide) ?_
      exact law_case_28 C0 hK hO hE hL x3 h3 z w hI hJ hRL cells slots (by omega) (by omega) H locs ls hP hD hS hl kk
    by_cases c29 : v = (29 : Int32)
    · refine lv_tableIn (tgt := 1177) hx hb dL_law_33 (by rw [c29]; decide) (by rw [c29]; decide) (by rw [c29]; rfl) (by decide) ?_
      exact law_case_29 C0 hK hO hE hL x3 h3 z w hI hJ hRL cells slots (by omega) (by omega) H locs ls hP hD hS hl kk
    by_cases c30 : v = (30 : Int32)
    · refine lv_tableIn (tgt := 1220) hx hb dL_law_33 (by rw [c30]; decide) (by rw [c30]; decide) (by rw [c30]; rfl) (by decide) ?_
      exact law_case_30 C0 hK hO hE hL x3 h3 z w hI hJ hRL cells slots (by omega) (by omega) H locs ls hP hD hS hl kk
    by_cases c31 : v = (31 : Int32)
    · refine lv_tableIn (tgt := 1243) hx hb dL_law_33 (by rw [c31]; decide) (by rw [c31]; decide) (by rw [c31]; rfl) (by decide) ?_
      exact law_case_31 C0 hK hO hE hL x3 h3 z w hI hJ hRL cells slots (by omega) (by omega) H locs ls hP hD hS hl kk
    by_cases c32 : v = (32 : Int32)
    · refine lv_tableIn (tgt := 1276) hx hb dL_law_33 (by rw [c32]; decide) (by rw [c32]; decide) (by rw [c32]; rfl) (by decide) ?_
      exact law_case_32 C0 hK hO hE hL x3 h3 z w hI hJ hRL cells slots (by omega) (by omega) H locs ls hP hD hS hl kk
    by_cases c33 : v = (33 : Int32)
    · refine lv_tableIn (tgt := 1319) hx hb dL_law_33 (by rw [c33]; decide) (by rw [c33]; decide) (by rw [c33]; rfl) (by decide) ?_
      exact law_case_33 C0 hK hO hE hL x3 h3 z w hI hJ hRL cells slots (by omega) (by omega) H locs ls hP hD hS hl kk
    by_cases c34 : v = (34 : Int32)
    · refine lv_tableIn (tgt := 1392) hx hb dL_law_33 (by rw [c34]; decide) (by rw [c34]; decide) (by rw [c34]; rfl) (by decide) ?_
      exact law_case_34 C0 hK hO hE hL x3 h3 z w hI hJ hRL cells slots (by omega) (by omega) H locs ls hP hD hS hl kk
    by_cases c35 : v = (35 : Int32)
    · refine lv_tableIn (tgt := 1425) hx hb dL_law_33 (by rw [c35]; decide) (by rw [c35]; decide) (by rw [c35]; rfl) (by decide) ?_
      exact law_case_35 C0 hK hO hE hL x3 h3 z w hI hJ hRL cells slots (by omega) (by omega) H locs ls hP hD hS hl kk
    by_cases c36 : v = (36 : Int32)
    · refine lv_tableIn (tgt := 1488) hx hb dL_law_33 (by rw [c36]; decide) (by rw [c36]; decide) (by rw [c36]; rfl) (by decide) ?_
      exact law_case_36 C0 hK hO hE hL x3 h3 z w hI hJ hRL cells slots (by omega) (by omega) H locs ls hP hD hS hl kk
    by_cases c37 : v = (37 : Int32)
    · refine lv_tableIn (tgt := 1521) hx hb dL_law_33 (by rw [c37]; decide) (by rw [c37]; decide) (by rw [c37]; rfl) (by decide) ?_
      exact law_case_37 C0 hK hO hE hL x3 h3 z w hI hJ hRL cells slots (by omega) (by omega) H locs ls hP hD hS hl kk
    refine lv_tableOut (tgt := 1544) hx hb dL_law_33 (zk_out (lo := 0) (hi := 37) [(0 : Int32), (1 : Int32), (2 : Int32), (3 : Int32), (4 : Int32), (5 : Int32), (6 : Int32), (7 : Int32), (8 : Int32), (9 : Int32), (10 : Int32), (11 : Int32), (12 : Int32), (13 : Int32), (14 : Int32), (15 : Int32), (16 : Int32), (17 : Int32), (18 : Int32), (19 : Int32), (20 : Int32), (21 : Int32), (22 : Int32), (23 : Int32), (24 : Int32), (25 : Int32), (26 : Int32), (27 : Int32), (28 : Int32), (29 : Int32), (30 : Int32), (31 : Int32), (32 : Int32), (33 : Int32), (34 : Int32), (35 : Int32), (36 : Int32), (37 : Int32)] (by decide +kernel) (List.forall_mem_cons.mpr ⟨c0, List.forall_mem_cons.mpr ⟨c1, List.forall_mem_cons.mpr ⟨c2, List.forall_mem_cons.mpr ⟨c3, List.forall_mem_cons.mpr ⟨c4, List.forall_mem_cons.mpr ⟨c5, List.forall_mem_cons.mpr ⟨c6, List.forall_mem_cons.mpr ⟨c7, List.forall_mem_cons.mpr ⟨c8, List.forall_mem_cons.mpr ⟨c9, List.forall_mem_cons.mpr ⟨c10, List.forall_mem_cons.mpr ⟨c11, List.forall_mem_cons.mpr ⟨c12, List.forall_mem_cons.mpr ⟨c13, List.forall_mem_cons.mpr ⟨c14, List.forall_mem_cons.mpr ⟨c15, List.forall_mem_cons.mpr ⟨c16, List.forall_mem_cons.mpr ⟨c17, List.forall_mem_cons.mpr ⟨c18, List.forall_mem_cons.mpr ⟨c19, List.forall_mem_cons.mpr ⟨c20, List.forall_mem_cons.mpr ⟨c21, List.forall_mem_cons.mpr ⟨c22, List.forall_mem_cons.mpr ⟨c23, List.forall_mem_cons.mpr ⟨c24, List.forall_mem_cons.mpr ⟨c25, List.forall_mem_cons.mpr ⟨c26, List.forall_mem_cons.mpr ⟨c27, List.forall_mem_cons.mpr ⟨c28, List.forall_mem_cons.mpr ⟨c29, List.forall_mem_cons.mpr ⟨c30, List.forall_mem_cons.mpr ⟨c31, List.forall_mem_cons.mpr ⟨c32, List.forall_mem_cons.mpr ⟨c33, List.forall_mem_cons.mpr ⟨c34, List.forall_mem_cons.mpr ⟨c35, List.forall_mem_cons.mpr ⟨c36, List.forall_mem_cons.mpr ⟨c37, fun _ h => absurd h List.not_mem_nil⟩⟩⟩⟩⟩⟩⟩⟩⟩⟩⟩⟩⟩⟩⟩⟩⟩⟩⟩⟩⟩⟩⟩⟩⟩⟩⟩⟩⟩⟩⟩⟩⟩⟩⟩⟩⟩⟩)) (by decide) ?_
    exact kk z w H locs ls cells slots hI hJ hRL (by omega) (by omega) hP hD hS hl
