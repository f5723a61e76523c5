


set_option maxHeartbeats 4000000 in
set_option maxRecDepth 20000 in
theorem s_X8_read  (x1 : Int32) (tape_size : Int32) (tape_bytes : Nat → Int32) (sr_spare : Value) (sr_at : Int32) (sr_numberAt : Int32) (sr_fault : Int32) (su_who : Int32) (su_against : Int32) (su_kind : Int32) (su_won : Int32) (su_day : Int32) (su_land : Int32) (su_undoneFrom : Int32) (su_askedCount : Int32) (su_askedBits : Int32) (su_first : Int32) (su_foundSo : Int32) (su_foundNot : Int32) (su_fought : Int32) (su_needed : Int32) (su_asked : Nat → Int32) (k0 : 0 ≤ tape_size.toInt ∧ tape_size.toInt ≤ 120) (k1 : AR (0) (255) tape_bytes) (k2 : 0 ≤ sr_at.toInt ∧ sr_at.toInt ≤ 120) (k3 : 0 ≤ sr_numberAt.toInt ∧ sr_numberAt.toInt ≤ 120) (k4 : -1 ≤ sr_fault.toInt ∧ sr_fault.toInt ≤ 120) (k5 : 0 ≤ su_kind.toInt ∧ su_kind.toInt ≤ 6) (k6 : 0 ≤ su_askedCount.toInt ∧ su_askedCount.toInt ≤ 32) (k7 : AR (0) (31) su_asked) (k8 : 0 ≤ x1.toInt ∧ x1.toInt ≤ 32) : zp (f_X8_read x1 tape_size tape_bytes sr_spare sr_at sr_numberAt sr_fault su_who su_against su_kind su_won su_day su_land su_undoneFrom su_askedCount su_askedBits su_first su_foundSo su_foundNot su_fought su_needed su_asked) (fun R => (R.2.2.2.1.toInt < 0 → 0 ≤ R.2.2.2.2.1.toInt ∧ R.2.2.2.2.1.toInt ≤ 19 ∧ 0 ≤ R.2.2.2.2.2.1.toInt ∧ R.2.2.2.2.2.1.toInt ≤ 19 ∧ 0 ≤ R.2.2.2.2.2.2.2.2.2.1.toInt ∧ R.2.2.2.2.2.2.2.2.2.1.toInt ≤ 7) ∧ (0 ≤ R.2.1.toInt ∧ R.2.1.toInt ≤ 120) ∧ (0 ≤ R.2.2.1.toInt ∧ R.2.2.1.toInt ≤ 120) ∧ (-1 ≤ R.2.2.2.1.toInt ∧ R.2.2.2.1.toInt ≤ 120) ∧ (0 ≤ R.2.2.2.2.2.2.1.toInt ∧ R.2.2.2.2.2.2.1.toInt ≤ 6) ∧ (0 ≤ R.2.2.2.2.2.2.2.2.2.2.1.toInt ∧ R.2.2.2.2.2.2.2.2.2.2.1.toInt ≤ 32) ∧ (AR (0) (31) R.2.2.2.2.2.2.2.2.2.2.2.2.2.2.2.2.2)) := by
  have rg_x1 := zi_rng x1
  skip
  unfold f_X8_read
  unfold B_X8_read_0
  refine zp_b5 (s_X8_readSides tape_size tape_bytes sr_spare sr_at sr_numberAt sr_fault su_who su_against su_kind su_won su_day su_land su_undoneFrom su_askedCount su_askedBits su_first su_foundSo su_foundNot su_fought su_needed k0 k1 k2 k3 k4 k5 k6) (fun u_1_1 u_2_2 u_3_3 u_4_4 u_5_5 h6 => ?_)
  obtain ⟨p7, p8, p9, p10, p11⟩ := h6
  (try dsimp only at p7)
  (try dsimp only at p8)
  (try dsimp only at p9)
  (try dsimp only at p10)
  (try dsimp only at p11)
  refine zp_b6 (s_X8_readClaims x1 tape_size tape_bytes sr_spare u_1_1 u_2_2 u_3_3 u_4_4 u_5_5 su_kind su_won su_day su_land su_undoneFrom su_askedCount su_askedBits su_first su_foundSo su_foundNot su_fought su_needed su_asked k0 k1 p9 p10 p11 k5 k6 k7 (by (first | with_reducible assumption | omega | assumption | ((try dsimp only); (try simp only [zi_cl, Int32.lt_iff_toInt_lt, Int32.le_iff_toInt_le, ← Int32.toInt_inj, Int32.toInt_add, Int32.toInt_sub, Int32.toInt_mul, true_and, and_true, false_and, and_false, or_false, false_or, or_true, true_or, not_true_eq_false, not_false_eq_true, implies_true, forall_const, zl_0, zl_1]) <;> first | omega | (simp (disch := omega) only [zi_bm2, zi_bm]; omega) | omega)))) (fun u_7_12 u_8_13 u_9_14 u_10_15 u_11_16 u_12_17 h18 => ?_)
  obtain ⟨p19, p20, p21, p22, p23, p24⟩ := h18
  (try dsimp only at p19)
  (try dsimp only at p20)
  (try dsimp only at p21)
  (try dsimp only at p22)
  (try dsimp only at p23)
  have p24 : AR (0) (31) u_12_17 := p24
  refine zp_b7 (s_X8_readPoints tape_size tape_bytes sr_spare u_7_12 u_8_13 u_9_14 u_4_4 u_5_5 su_kind su_won su_day su_land su_undoneFrom u_10_15 u_11_16 su_first su_foundSo su_foundNot su_fought su_needed k0 k1 p20 p21 p22 k5 p23) (fun u_14_25 u_15_26 u_16_27 u_17_28 u_18_29 u_19_30 u_20_31 h32 => ?_)
  obtain ⟨p33, p34, p35, p36⟩ := h32
  (try dsimp only at p33)
  (try dsimp only at p34)
  (try dsimp only at p35)
  (try dsimp only at p36)
  refine zp_b6 (s_X8_readEnding tape_size tape_bytes sr_spare u_14_25 u_15_26 u_16_27 u_4_4 u_5_5 su_kind su_won su_day su_land su_undoneFrom u_10_15 u_11_16 su_first u_17_28 u_18_29 u_19_30 u_20_31 k0 k1 p34 p35 p36 k5 p23) (fun u_22_37 u_23_38 u_24_39 u_25_40 u_26_41 u_27_42 h43 => ?_)
  obtain ⟨p44, p45, p46, p47, p48⟩ := h43
  (try dsimp only at p44)
  (try dsimp only at p45)
  (try dsimp only at p46)
  (try dsimp only at p47)
  (try dsimp only at p48)
  refine zp_b5 (s_X8_readTime tape_size tape_bytes sr_spare u_22_37 u_23_38 u_24_39 u_4_4 u_5_5 u_25_40 u_26_41 su_day su_land su_undoneFrom u_10_15 u_11_16 u_27_42 u_17_28 u_18_29 u_19_30 u_20_31 k0 k1 p45 p46 p47 p48 p23) (fun u_29_49 u_30_50 u_31_51 u_32_52 u_33_53 h54 => ?_)
  obtain ⟨p55, p56, p57, p58, p59⟩ := h54
  (try dsimp only at p55)
  (try dsimp only at p56)
  (try dsimp only at p57)
  (try dsimp only at p58)
  (try dsimp only at p59)
  refine zp_ite (fun c60 => ?_) (fun c60 => ?_)
  · (first | replace c60 := zc_l c60 rfl rfl | ((try dsimp only at c60); (try simp only [zi_cl, Int32.lt_iff_toInt_lt, Int32.le_iff_toInt_le, ← Int32.toInt_inj, Int32.toInt_add, Int32.toInt_sub, Int32.toInt_mul, true_and, and_true, false_and, and_false, or_false, false_or, or_true, true_or, not_true_eq_false, not_false_eq_true, implies_true, forall_const, zl_0, zl_1] at c60); (try simp (disch := omega) only [zi_bm2, zi_bm] at c60)))
    unfold B_X8_read_61
    refine zp_b1 (s_X8_judge (0 : Int32) u_29_49 sr_spare u_29_49 u_30_50 u_31_51 p57 p58 p59 (by (first | with_reducible assumption | omega | assumption | ((try dsimp only); (try simp only [zi_cl, Int32.lt_iff_toInt_lt, Int32.le_iff_toInt_le, ← Int32.toInt_inj, Int32.toInt_add, Int32.toInt_sub, Int32.toInt_mul, true_and, and_true, false_and, and_false, or_false, false_or, or_true, true_or, not_true_eq_false, not_false_eq_true, implies_true, forall_const, zl_0, zl_1]) <;> first | omega | (simp (disch := omega) only [zi_bm2, zi_bm]; omega) | omega)))) (fun u_36_61 h62 => ?_)
    obtain ⟨p63, p64, p65, p66⟩ := h62
    (try dsimp only at p63); (try simp only [zi_cl, Int32.lt_iff_toInt_lt, Int32.le_iff_toInt_le, ← Int32.toInt_inj, Int32.toInt_add, Int32.toInt_sub, Int32.toInt_mul, true_and, and_true, false_and, and_false, or_false, false_or, or_true, true_or, not_true_eq_false, not_false_eq_true, implies_true, forall_const, zl_0, zl_1] at p63); (try simp (disch := omega) only [zi_bm2, zi_bm] at p63)
    (try dsimp only at p64)
    (try dsimp only at p65)
    (try dsimp only at p66)
    refine zp_ite (fun c67 => ?_) (fun c67 => ?_)
    · (first | replace c67 := zc_k c67 zl_0 rfl | ((try dsimp only at c67); (try simp only [zi_cl, Int32.lt_iff_toInt_lt, Int32.le_iff_toInt_le, ← Int32.toInt_inj, Int32.toInt_add, Int32.toInt_sub, Int32.toInt_mul, true_and, and_true, false_and, and_false, or_false, false_or, or_true, true_or, not_true_eq_false, not_false_eq_true, implies_true, forall_const, zl_0, zl_1] at c67); (try simp (disch := omega) only [zi_bm2, zi_bm] at c67)))
      refine zp_ite (fun c68 => ?_) (fun c68 => ?_)
      · (first | replace c68 := zc_k c68 zl_0 rfl | ((try dsimp only at c68); (try simp only [zi_cl, Int32.lt_iff_toInt_lt, Int32.le_iff_toInt_le, ← Int32.toInt_inj, Int32.toInt_add, Int32.toInt_sub, Int32.toInt_mul, true_and, and_true, false_and, and_false, or_false, false_or, or_true, true_or, not_true_eq_false, not_false_eq_true, implies_true, forall_const, zl_0, zl_1] at c68); (try simp (disch := omega) only [zi_bm2, zi_bm] at c68)))
        exact zp_i ⟨(by (first | with_reducible assumption | omega | assumption | ((try dsimp only); (try simp only [zi_cl, Int32.lt_iff_toInt_lt, Int32.le_iff_toInt_le, ← Int32.toInt_inj, Int32.toInt_add, Int32.toInt_sub, Int32.toInt_mul, true_and, and_true, false_and, and_false, or_false, false_or, or_true, true_or, not_true_eq_false, not_false_eq_true, implies_true, forall_const, zl_0, zl_1]) <;> first | omega | (simp (disch := omega) only [zi_bm2, zi_bm]; omega) | omega))), p57, p58, p66, p48, p23, p24⟩
      · (first | replace c68 := zc_nk c68 zl_0 rfl | ((try dsimp only at c68); (try simp only [zi_cl, Int32.lt_iff_toInt_lt, Int32.le_iff_toInt_le, ← Int32.toInt_inj, Int32.toInt_add, Int32.toInt_sub, Int32.toInt_mul, true_and, and_true, false_and, and_false, or_false, false_or, or_true, true_or, not_true_eq_false, not_false_eq_true, implies_true, forall_const, zl_0, zl_1] at c68); (try simp (disch := omega) only [zi_bm2, zi_bm] at c68)))
        exfalso; omega
    · (first | replace c67 := zc_nk c67 zl_0 rfl | ((try dsimp only at c67); (try simp only [zi_cl, Int32.lt_iff_toInt_lt, Int32.le_iff_toInt_le, ← Int32.toInt_inj, Int32.toInt_add, Int32.toInt_sub, Int32.toInt_mul, true_and, and_true, false_and, and_false, or_false, false_or, or_true, true_or, not_true_eq_false, not_false_eq_true, implies_true, forall_const, zl_0, zl_1] at c67); (try simp (disch := omega) only [zi_bm2, zi_bm] at c67)))
      refine zp_g (by first | ((try simp only [zi_cl, Int32.lt_iff_toInt_lt, Int32.le_iff_toInt_le, ← Int32.toInt_inj, Int32.toInt_add, Int32.toInt_sub, Int32.toInt_mul, true_and, and_true, false_and, and_false, or_false, false_or, or_true, true_or, not_true_eq_false, not_false_eq_true, zl_0, zl_1]) <;> first | omega | (simp (disch := omega) only [zi_bm2, zi_bm]; omega) | assumption | omega) | (first | with_reducible assumption | omega | assumption | ((try dsimp only); (try simp only [zi_cl, Int32.lt_iff_toInt_lt, Int32.le_iff_toInt_le, ← Int32.toInt_inj, Int32.toInt_add, Int32.toInt_sub, Int32.toInt_mul, true_and, and_true, false_and, and_false, or_false, false_or, or_true, true_or, not_true_eq_false, not_false_eq_true, implies_true, forall_const, zl_0, zl_1]) <;> first | omega | (simp (disch := omega) only [zi_bm2, zi_bm]; omega) | omega))) ?_
      exact zp_i ⟨(by (first | with_reducible assumption | omega | assumption | ((try dsimp only); (try simp only [zi_cl, Int32.lt_iff_toInt_lt, Int32.le_iff_toInt_le, ← Int32.toInt_inj, Int32.toInt_add, Int32.toInt_sub, Int32.toInt_mul, true_and, and_true, false_and, and_false, or_false, false_or, or_true, true_or, not_true_eq_false, not_false_eq_true, implies_true, forall_const, zl_0, zl_1]) <;> first | omega | (simp (disch := omega) only [zi_bm2, zi_bm]; omega) | omega))), p57, p58, p66, p48, p23, p24⟩
  · (first | replace c60 := zc_nl c60 rfl rfl | ((try dsimp only at c60); (try simp only [zi_cl, Int32.lt_iff_toInt_lt, Int32.le_iff_toInt_le, ← Int32.toInt_inj, Int32.toInt_add, Int32.toInt_sub, Int32.toInt_mul, true_and, and_true, false_and, and_false, or_false, false_or, or_true, true_or, not_true_eq_false, not_false_eq_true, implies_true, forall_const, zl_0, zl_1] at c60); (try simp (disch := omega) only [zi_bm2, zi_bm] at c60)))
    unfold B_X8_read_61
    refine zp_b1 (s_X8_judge (1 : Int32) u_29_49 sr_spare u_29_49 u_30_50 u_31_51 p57 p58 p59 (by (first | with_reducible assumption | omega | assumption | ((try dsimp only); (try simp only [zi_cl, Int32.lt_iff_toInt_lt, Int32.le_iff_toInt_le, ← Int32.toInt_inj, Int32.toInt_add, Int32.toInt_sub, Int32.toInt_mul, true_and, and_true, false_and, and_false, or_false, false_or, or_true, true_or, not_true_eq_false, not_false_eq_true, implies_true, forall_const, zl_0, zl_1]) <;> first | omega | (simp (disch := omega) only [zi_bm2, zi_bm]; omega) | omega)))) (fun u_36_69 h70 => ?_)
    obtain ⟨p71, p72, p73, p74⟩ := h70
    (try dsimp only at p71); (try simp only [zi_cl, Int32.lt_iff_toInt_lt, Int32.le_iff_toInt_le, ← Int32.toInt_inj, Int32.toInt_add, Int32.toInt_sub, Int32.toInt_mul, true_and, and_true, false_and, and_false, or_false, false_or, or_true, true_or, not_true_eq_false, not_false_eq_true, implies_true, forall_const, zl_0, zl_1] at p71); (try simp (disch := omega) only [zi_bm2, zi_bm] at p71)
    (try dsimp only at p72)
    (try dsimp only at p73)
    (try dsimp only at p74)
    refine zp_ite (fun c75 => ?_) (fun c75 => ?_)
    · (first | replace c75 := zc_k c75 zl_0 rfl | ((try dsimp only at c75); (try simp only [zi_cl, Int32.lt_iff_toInt_lt, Int32.le_iff_toInt_le, ← Int32.toInt_inj, Int32.toInt_add, Int32.toInt_sub, Int32.toInt_mul, true_and, and_true, false_and, and_false, or_false, false_or, or_true, true_or, not_true_eq_false, not_false_eq_true, implies_true, forall_const, zl_0, zl_1] at c75); (try simp (disch := omega) only [zi_bm2, zi_bm] at c75)))
      refine zp_ite (fun c76 => ?_) (fun c76 => ?_)
      · (first | replace c76 := zc_k c76 zl_0 rfl | ((try dsimp only at c76); (try simp only [zi_cl, Int32.lt_iff_toInt_lt, Int32.le_iff_toInt_le, ← Int32.toInt_inj, Int32.toInt_add, Int32.toInt_sub, Int32.toInt_mul, true_and, and_true, false_and, and_false, or_false, false_or, or_true, true_or, not_true_eq_false, not_false_eq_true, implies_true, forall_const, zl_0, zl_1] at c76); (try simp (disch := omega) only [zi_bm2, zi_bm] at c76)))
        exact zp_i ⟨(by (first | with_reducible assumption | omega | assumption | ((try dsimp only); (try simp only [zi_cl, Int32.lt_iff_toInt_lt, Int32.le_iff_toInt_le, ← Int32.toInt_inj, Int32.toInt_add, Int32.toInt_sub, Int32.toInt_mul, true_and, and_true, false_and, and_false, or_false, false_or, or_true, true_or, not_true_eq_false, not_false_eq_true, implies_true, forall_const, zl_0, zl_1]) <;> first | omega | (simp (disch := omega) only [zi_bm2, zi_bm]; omega) | omega))), p57, p58, p74, p48, p23, p24⟩
      · (first | replace c76 := zc_nk c76 zl_0 rfl | ((try dsimp only at c76); (try simp only [zi_cl, Int32.lt_iff_toInt_lt, Int32.le_iff_toInt_le, ← Int32.toInt_inj, Int32.toInt_add, Int32.toInt_sub, Int32.toInt_mul, true_and, and_true, false_and, and_false, or_false, false_or, or_true, true_or, not_true_eq_false, not_false_eq_true, implies_true, forall_const, zl_0, zl_1] at c76); (try simp (disch := omega) only [zi_bm2, zi_bm] at c76)))
        exfalso; omega
    · (first | replace c75 := zc_nk c75 zl_0 rfl | ((try dsimp only at c75); (try simp only [zi_cl, Int32.lt_iff_toInt_lt, Int32.le_iff_toInt_le, ← Int32.toInt_inj, Int32.toInt_add, Int32.toInt_sub, Int32.toInt_mul, true_and, and_true, false_and, and_false, or_false, false_or, or_true, true_or, not_true_eq_false, not_false_eq_true, implies_true, forall_const, zl_0, zl_1] at c75); (try simp (disch := omega) only [zi_bm2, zi_bm] at c75)))
      refine zp_g (by first | ((try simp only [zi_cl, Int32.lt_iff_toInt_lt, Int32.le_iff_toInt_le, ← Int32.toInt_inj, Int32.toInt_add, Int32.toInt_sub, Int32.toInt_mul, true_and, and_true, false_and, and_false, or_false, false_or, or_true, true_or, not_true_eq_false, not_false_eq_true, zl_0, zl_1]) <;> first | omega | (simp (disch := omega) only [zi_bm2, zi_bm]; omega) | assumption | omega) | (first | with_reducible assumption | omega | assumption | ((try dsimp only); (try simp only [zi_cl, Int32.lt_iff_toInt_lt, Int32.le_iff_toInt_le, ← Int32.toInt_inj, Int32.toInt_add, Int32.toInt_sub, Int32.toInt_mul, true_and, and_true, false_and, and_false, or_false, false_or, or_true, true_or, not_true_eq_false, not_false_eq_true, implies_true, forall_const, zl_0, zl_1]) <;> first | omega | (simp (disch := omega) only [zi_bm2, zi_bm]; omega) | omega))) ?_
      exact zp_i ⟨(by (first | with_reducible assumption | omega | assumption | ((try dsimp only); (try simp only [zi_cl, Int32.lt_iff_toInt_lt, Int32.le_iff_toInt_le, ← Int32.toInt_inj, Int32.toInt_add, Int32.toInt_sub, Int32.toInt_mul, true_and, and_true, false_and, and_false, or_false, false_or, or_true, true_or, not_true_eq_false, not_false_eq_true, implies_true, forall_const, zl_0, zl_1]) <;> first | omega | (simp (disch := omega) only [zi_bm2, zi_bm]; omega) | omega))), p57, p58, p74, p48, p23, p24⟩
