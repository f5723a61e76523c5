
set_option maxHeartbeats 4000000 in
set_option maxRecDepth 20000 in
theorem fq_end {ts : Int32} {at_ : Int32} {f : Int32} {tb : Nat → Int32} {su_who : Int32} {su_against : Int32} {su_kind : Int32} {su_won : Int32} {su_day : Int32} {su_land : Int32} {su_undoneFrom : Int32} {su_askedCount : Int32} {su_askedBits : Int32} {su_first : Int32} {su_foundSo : Int32} {su_foundNot : Int32} {su_fought : Int32} {su_needed : Int32} {sp : Value} {na : Int32} {R : Int32 × Int32 × Int32 × Int32 × Int32 × Int32} (hf : 0 ≤ f.toInt) (h : f_X8_readEnding ts tb sp at_ na f su_who su_against su_kind su_won su_day su_land su_undoneFrom su_askedCount su_askedBits su_first su_foundSo su_foundNot su_fought su_needed = some R) : R.2.2.1 = f := by
  unfold f_X8_readEnding B_X8_readEnding_0 at h
  replace h := zk_o2 h
  obtain ⟨cu_1, cu_2, ch1, h⟩ := h
  obtain ⟨cq2, cq3⟩ := cb_expectP hf ch1
  replace cq2 := cq2.symm
  subst cq2
  replace cq3 := cq3.symm
  subst cq3
  replace h := zk_o2 h
  obtain ⟨cr_4, cu_5, ch4, h⟩ := h
  obtain ⟨cq5, cq6⟩ := cb_acceptP hf ch4
  replace cq5 := cq5.symm
  subst cq5
  replace cq6 := cq6.symm
  subst cq6
  replace h := zk_t (by decide) h
  replace h := zk_o2 h
  obtain ⟨cr_8, cu_9, ch7, h⟩ := h
  obtain ⟨cq8, cq9⟩ := cb_acceptP hf ch7
  replace cq8 := cq8.symm
  subst cq8
  replace cq9 := cq9.symm
  subst cq9
  replace h := zk_t (by decide) h
  replace h := zk_o2 h
  obtain ⟨cr_12, cu_13, ch10, h⟩ := h
  obtain ⟨cq11, cq12⟩ := cb_acceptP hf ch10
  replace cq11 := cq11.symm
  subst cq11
  replace cq12 := cq12.symm
  subst cq12
  replace h := zk_t (by decide) h
  replace h := zk_o2 h
  obtain ⟨cr_16, cu_17, ch13, h⟩ := h
  obtain ⟨cq14, cq15⟩ := cb_acceptP hf ch13
  replace cq14 := cq14.symm
  subst cq14
  replace cq15 := cq15.symm
  subst cq15
  replace h := zk_t (by decide) h
  unfold B_X8_readEnding_106 at h
  replace h := zk_t (by decide) h
  replace h := zk_o2 h
  obtain ⟨cu_30, cu_31, ch16, h⟩ := h
  obtain ⟨cq17, cq18⟩ := cb_expectP hf ch16
  replace cq17 := cq17.symm
  subst cq17
  replace cq18 := cq18.symm
  subst cq18
  unfold B_X8_readEnding_123 at h
  replace h := zk_o2 h
  obtain ⟨cr_33, cu_34, ch19, h⟩ := h
  obtain ⟨cq20, cq21⟩ := cb_acceptP hf ch19
  replace cq20 := cq20.symm
  subst cq20
  replace cq21 := cq21.symm
  subst cq21
  replace h := zk_t (by decide) h
  unfold B_X8_readEnding_138 at h
  replace h := zk_t (by decide) h
  replace h := zk_o2 h
  obtain ⟨cu_38, cu_39, ch22, h⟩ := h
  obtain ⟨cq23, cq24⟩ := cb_expectP hf ch22
  replace cq23 := cq23.symm
  subst cq23
  replace cq24 := cq24.symm
  subst cq24
  rw [← Option.some.inj h]
set_option maxHeartbeats 4000000 in
set_option maxRecDepth 20000 in
theorem fq_time {ts : Int32} {at_ : Int32} {f : Int32} {tb : Nat → Int32} {su_who : Int32} {su_against : Int32} {su_kind : Int32} {su_won : Int32} {su_day : Int32} {su_land : Int32} {su_undoneFrom : Int32} {su_askedCount : Int32} {su_askedBits : Int32} {su_first : Int32} {su_foundSo : Int32} {su_foundNot : Int32} {su_fought : Int32} {su_needed : Int32} {sp : Value} {na : Int32} {R : Int32 × Int32 × Int32 × Int32 × Int32} (hf : 0 ≤ f.toInt) (h : f_X8_readTime ts tb sp at_ na f su_who su_against su_kind su_won su_day su_land su_undoneFrom su_askedCount su_askedBits su_first su_foundSo su_foundNot su_fought su_needed = some R) : R.2.2.1 = f := by
  unfold f_X8_readTime B_X8_readTime_0 at h
  replace h := zk_o2 h
  obtain ⟨cu_1, cu_2, ch1, h⟩ := h
  obtain ⟨cq2, cq3⟩ := cb_expectP hf ch1
  replace cq2 := cq2.symm
  subst cq2
  replace cq3 := cq3.symm
  subst cq3
  replace h := zk_o4 h
  obtain ⟨cr_4, cu_5, cu_6, cu_7, ch4, h⟩ := h
  obtain ⟨cq5, cq6, cq7, cq8⟩ := cb_numberP4 hf ch4
  replace cq5 := cq5.symm
  subst cq5
  replace cq6 := cq6.symm
  subst cq6
  replace cq7 := cq7.symm
  subst cq7
  replace cq8 := cq8.symm
  subst cq8
  replace h := zk_o2 h
  obtain ⟨cu_9, cu_10, ch9, h⟩ := h
  obtain ⟨cq10, cq11⟩ := cb_expectP hf ch9
  replace cq10 := cq10.symm
  subst cq10
  replace cq11 := cq11.symm
  subst cq11
  replace h := zk_o4 h
  obtain ⟨cr_12, cu_13, cu_14, cu_15, ch12, h⟩ := h
  obtain ⟨cq13, cq14, cq15, cq16⟩ := cb_numberP1 hf ch12
  replace cq13 := cq13.symm
  subst cq13
  replace cq14 := cq14.symm
  subst cq14
  replace cq15 := cq15.symm
  subst cq15
  replace cq16 := cq16.symm
  subst cq16
  replace h := zk_f (by decide) h
  unfold B_X8_readTime_45 at h
  replace h := zk_o1 h
  obtain ⟨cu_18, ch17, h⟩ := h
  obtain cq18 := cb_judgeP hf ch17
  replace cq18 := cq18.symm
  subst cq18
  rw [← Option.some.inj h]
set_option maxHeartbeats 4000000 in
set_option maxRecDepth 20000 in
theorem fq_claims {ts : Int32} {at_ : Int32} {f : Int32} {tb : Nat → Int32} {su_who : Int32} {su_against : Int32} {su_kind : Int32} {su_won : Int32} {su_day : Int32} {su_land : Int32} {su_undoneFrom : Int32} {su_askedCount : Int32} {su_askedBits : Int32} {su_first : Int32} {su_foundSo : Int32} {su_foundNot : Int32} {su_fought : Int32} {su_needed : Int32} {su_asked : Nat → Int32} {sp : Value} {na : Int32} {N : Nat} {x2 : Int32} {R : Int32 × Int32 × Int32 × Int32 × Int32 × (Nat → Int32)} (hf : 0 ≤ f.toInt) (h : f_X8_readClaims N x2 ts tb sp at_ na f su_who su_against su_kind su_won su_day su_land su_undoneFrom su_askedCount su_askedBits su_first su_foundSo su_foundNot su_fought su_needed su_asked = some R) : R.2.2.1 = f := by
  unfold f_X8_readClaims B_X8_readClaims_0 at h
  cases N with
  | zero => cases h
  | succ N =>
  replace h : B_X8_readClaims_2 (G_X8_readClaims ts tb sp su_who su_against su_kind su_won su_day su_land su_undoneFrom su_first su_foundSo su_foundNot su_fought su_needed N) ts tb sp su_who su_against su_kind su_won su_day su_land su_undoneFrom su_first su_foundSo su_foundNot su_fought su_needed x2 0 at_ na f su_askedCount su_askedBits su_asked = some R := h
  unfold B_X8_readClaims_2 at h
  replace h := zk_f (by decide) h
  replace h := zk_t (by rw [i32_le, z32_0]; omega) h
  rw [← Option.some.inj h]
set_option maxHeartbeats 4000000 in
set_option maxRecDepth 20000 in
theorem fq_points {ts : Int32} {at_ : Int32} {f : Int32} {tb : Nat → Int32} {su_who : Int32} {su_against : Int32} {su_kind : Int32} {su_won : Int32} {su_day : Int32} {su_land : Int32} {su_undoneFrom : Int32} {su_askedCount : Int32} {su_askedBits : Int32} {su_first : Int32} {su_foundSo : Int32} {su_foundNot : Int32} {su_fought : Int32} {su_needed : Int32} {sp : Value} {na : Int32} {N : Nat} {R : Int32 × Int32 × Int32 × Int32 × Int32 × Int32 × Int32} (hf : 0 ≤ f.toInt) (h : f_X8_readPoints N ts tb sp at_ na f su_who su_against su_kind su_won su_day su_land su_undoneFrom su_askedCount su_askedBits su_first su_foundSo su_foundNot su_fought su_needed = some R) : R.2.2.1 = f := by
  unfold f_X8_readPoints B_X8_readPoints_0 at h
  cases N with
  | zero => cases h
  | succ N =>
  replace h : B_X8_readPoints_2 (G_X8_readPoints ts tb sp su_who su_against su_kind su_won su_day su_land su_undoneFrom su_askedCount su_askedBits su_first N) ts tb sp su_who su_against su_kind su_won su_day su_land su_undoneFrom su_askedCount su_askedBits su_first 0 at_ na f su_foundSo su_foundNot su_fought su_needed = some R := h
  unfold B_X8_readPoints_2 at h
  replace h := zk_f (by decide) h
  replace h := zk_o2 h
  obtain ⟨cr_2, cu_3, ch1, h⟩ := h
  obtain ⟨cq2, cq3⟩ := cb_acceptP hf ch1
  replace cq2 := cq2.symm
  subst cq2
  replace cq3 := cq3.symm
  subst cq3
  replace h := zk_t (by decide) h
  rw [← Option.some.inj h]
theorem PB_0 {ts : Int32} (hT : TS ts) : PB ts 0 := ⟨by decide, by rw [z32_0]; exact hT.1⟩
theorem m1_neg : (-1 : Int32).toInt < 0 := by decide
set_option maxHeartbeats 4000000 in
set_option maxRecDepth 20000 in
theorem sim_read {mod_code : Int32} {court_shoeCount : Int32} {mod_claims : Int32} {ts : Int32} {court_suitCount : Int32} {mod_doneMany : Int32} {mod_undoneMany : Int32} {mod_open : Int32} {mod_laid : Int32} {mod_isBoth : Int32} {mod_wished : Int32} {mod_bestMany : Int32} {mod_bestRow : Int32} {mod_ringDigits : Int32} {mod_traces : Int32} {tm : Nat → Int32} {mod_askedMany : Nat → Int32} {mod_asked : Nat → Int32} {mod_pointIs : Nat → Int32} {mod_endKind : Nat → Int32} {mod_isWon : Nat → Int32} {mod_firstMany : Nat → Int32} {mod_suedBy : Nat → Int32} {mod_suedOn : Nat → Int32} {mod_suitDay : Nat → Int32} {mod_suitLand : Nat → Int32} {tb : Nat → Int32} {su_who : Int32} {su_against : Int32} {su_kind : Int32} {su_won : Int32} {su_day : Int32} {su_land : Int32} {su_undoneFrom : Int32} {su_first : Int32} {su_asked : Nat → Int32} {sp : Value} {na : Int32} {v0 : Value} {x1 n9 a9 f3 w1 g1 k1 v1 d1 l1 n1 b1 s1 so1 no1 fo1 ne1 : Int32} {as1 : Nat → Int32} {M : Nat} {R : Int32 × Int32 × (Nat → Int32) × (Nat → Int32) × (Nat → Int32) × (Nat → Int32) × (Nat → Int32) × (Nat → Int32) × (Nat → Int32) × (Nat → Int32) × (Nat → Int32) × (Nat → Int32)} (hT : TS ts) (hR : TR ts tb tm) (hx : 0 ≤ x1.toInt ∧ x1.toInt ≤ 44) (hcc : 0 ≤ mod_claims.toInt ∧ mod_claims.toInt ≤ 32) (hI0 : CI x1 0 mod_askedMany mod_asked su_asked 0) (hP0 : PI x1 0 0 0 0 mod_pointIs) (h : f_X8_read mod_claims ts tb sp 0 na (-1) su_who su_against su_kind su_won su_day su_land su_undoneFrom 0 0 su_first 0 0 0 0 su_asked = some (v0, a9, n9, f3, w1, g1, k1, v1, d1, l1, n1, b1, s1, so1, no1, fo1, ne1, as1)) (k : f_X12_readSuit M x1 mod_code court_shoeCount mod_claims ts 0 (-1) court_suitCount mod_doneMany mod_undoneMany mod_open mod_laid mod_isBoth mod_wished mod_bestMany mod_bestRow mod_ringDigits mod_traces tm mod_suedBy mod_suedOn mod_endKind mod_isWon mod_suitDay mod_suitLand mod_askedMany mod_firstMany mod_asked mod_pointIs = some R) : R.2.1 = f3 ∧ RFR x1.toInt.toNat (mod_suedBy, mod_suedOn, mod_endKind, mod_isWon, mod_suitDay, mod_suitLand, mod_askedMany, mod_firstMany, mod_asked, mod_pointIs) R.2.2 ∧ (f3.toInt < 0 → f3 = -1 ∧ (0 ≤ w1.toInt ∧ w1.toInt ≤ 19 ∧ 0 ≤ g1.toInt ∧ g1.toInt ≤ 19) ∧ (0 ≤ k1.toInt ∧ k1.toInt ≤ 6) ∧ (0 ≤ v1.toInt ∧ v1.toInt ≤ 1) ∧ (0 ≤ d1.toInt ∧ d1.toInt ≤ 9999 ∧ 0 ≤ l1.toInt ∧ l1.toInt ≤ 7) ∧ ∃ am ma pi fm : Nat → Int32, CI x1 n1 am ma as1 b1 ∧ FR x1 mod_askedMany mod_asked am ma ∧ PI x1 so1 no1 fo1 ne1 pi ∧ FP x1 mod_pointIs pi ∧ ((k1 = 6 → fm = upd (upd mod_firstMany x1.toNatClampNeg n1) x1.toNatClampNeg s1) ∧ (k1 ≠ 6 → fm = upd mod_firstMany x1.toNatClampNeg n1)) ∧ R.2.2 = (upd mod_suedBy x1.toNatClampNeg w1, upd mod_suedOn x1.toNatClampNeg g1, upd mod_endKind x1.toNatClampNeg k1, upd mod_isWon x1.toNatClampNeg v1, upd mod_suitDay x1.toNatClampNeg d1, upd mod_suitLand x1.toNatClampNeg l1, am, fm, ma, pi)) := by
  unfold f_X8_read B_X8_read_0 at h
  replace h := zk_o5 h
  obtain ⟨u_1, u_2, u_3, u_4, u_5, a1, h⟩ := h
  replace h := zk_o6 h
  obtain ⟨u_7, u_8, u_9, u_10, u_11, u_12, a2, h⟩ := h
  replace h := zk_o7 h
  obtain ⟨u_14, u_15, u_16, u_17, u_18, u_19, u_20, a3, h⟩ := h
  replace h := zk_o6 h
  obtain ⟨u_22, u_23, u_24, u_25, u_26, u_27, a4, h⟩ := h
  replace h := zk_o5 h
  obtain ⟨u_29, u_30, u_31, u_32, u_33, a5, h⟩ := h
  have hj : (u_29 < ts → f_X8_judge (0 : Int32) u_29 sp u_29 u_30 u_31 = some f3) ∧ (¬ u_29 < ts → f_X8_judge (1 : Int32) u_29 sp u_29 u_30 u_31 = some f3) ∧ (u_4 = w1 ∧ u_5 = g1 ∧ u_25 = k1 ∧ u_26 = v1 ∧ u_32 = d1 ∧ u_33 = l1 ∧ u_10 = n1 ∧ u_11 = b1 ∧ u_27 = s1 ∧ u_17 = so1 ∧ u_18 = no1 ∧ u_19 = fo1 ∧ u_20 = ne1 ∧ u_12 = as1) := by
    by_cases c : u_29 < ts
    · replace h := zk_t c h
      unfold B_X8_read_61 at h
      replace h := zk_o1 h
      obtain ⟨u, e1, h⟩ := h
      by_cases c2 : 0 ≤ u
      · replace h := zk_t c2 (zk_t c2 h)
        simp only [Option.some.injEq, Prod.mk.injEq] at h
        obtain ⟨_, _, _, rfl, rfl, rfl, rfl, rfl, rfl, rfl, rfl, rfl, rfl, rfl, rfl, rfl, rfl, rfl⟩ := h
        exact ⟨fun _ => e1, fun z => absurd c z, rfl, rfl, rfl, rfl, rfl, rfl, rfl, rfl, rfl, rfl, rfl, rfl, rfl, rfl⟩
      · replace h := zk_f c2 (zk_f c2 h)
        simp only [Option.some.injEq, Prod.mk.injEq] at h
        obtain ⟨_, _, _, rfl, rfl, rfl, rfl, rfl, rfl, rfl, rfl, rfl, rfl, rfl, rfl, rfl, rfl, rfl⟩ := h
        exact ⟨fun _ => e1, fun z => absurd c z, rfl, rfl, rfl, rfl, rfl, rfl, rfl, rfl, rfl, rfl, rfl, rfl, rfl, rfl⟩
    · replace h := zk_f c h
      unfold B_X8_read_61 at h
      replace h := zk_o1 h
      obtain ⟨u, e1, h⟩ := h
      by_cases c2 : 0 ≤ u
      · replace h := zk_t c2 (zk_t c2 h)
        simp only [Option.some.injEq, Prod.mk.injEq] at h
        obtain ⟨_, _, _, rfl, rfl, rfl, rfl, rfl, rfl, rfl, rfl, rfl, rfl, rfl, rfl, rfl, rfl, rfl⟩ := h
        exact ⟨fun z => absurd z c, fun _ => e1, rfl, rfl, rfl, rfl, rfl, rfl, rfl, rfl, rfl, rfl, rfl, rfl, rfl, rfl⟩
      · replace h := zk_f c2 (zk_f c2 h)
        simp only [Option.some.injEq, Prod.mk.injEq] at h
        obtain ⟨_, _, _, rfl, rfl, rfl, rfl, rfl, rfl, rfl, rfl, rfl, rfl, rfl, rfl, rfl, rfl, rfl⟩ := h
        exact ⟨fun z => absurd z c, fun _ => e1, rfl, rfl, rfl, rfl, rfl, rfl, rfl, rfl, rfl, rfl, rfl, rfl, rfl, rfl⟩
  obtain ⟨j1, j2, rfl, rfl, rfl, rfl, rfl, rfl, rfl, rfl, rfl, rfl, rfl, rfl, rfl, rfl⟩ := hj
  have hj := And.intro j1 j2
  have hp0 := PB_0 hT
  unfold f_X12_readSuit at k
  rcases s1_sides hT hR m1_neg hp0 a1 k with ⟨q1, q2, q2r⟩ | ⟨q1, q2, q3, k⟩
  · have e2 := fq_claims q1 a2
    dsimp only at e2
    have q1b : 0 ≤ (u_9).toInt := by rw [e2]; exact q1
    have e3 := fq_points q1b a3
    dsimp only at e3
    have q1c : 0 ≤ (u_16).toInt := by rw [e3]; exact q1b
    have e4 := fq_end q1c a4
    dsimp only at e4
    have q1d : 0 ≤ (u_24).toInt := by rw [e4]; exact q1c
    have e5 := fq_time q1d a5
    dsimp only at e5
    have q1e : 0 ≤ (u_31).toInt := by rw [e5]; exact q1d
    have e6 := cb_judgeP_of q1e hj
    refine ⟨by rw [q2, e6, e5, e4, e3, e2], q2r, fun z => ?_⟩
    rw [e6] at z
    omega
  · unfold M68c at k
    replace k := zk_o4 k
    obtain ⟨v1_, v2_, v3_, v4_, b1_, k⟩ := k
    unfold f_X8_readClaims B_X8_readClaims_0 at a2
    unfold f_X12_readClaims at b1_
    rw [q1] at a2
    rcases s2_loop hT hR m1_neg hx hcc _ _ _ _ _ _ _ _ _ _ _ q2 hI0 a2 b1_ with ⟨r1, r2, r6⟩ | ⟨r1, r2, r3, r4, r5, r6⟩
    · dsimp only at r1 r2
      have e3 := fq_points r1 a3
      dsimp only at e3
      have q1c : 0 ≤ (u_16).toInt := by rw [e3]; exact r1
      have e4 := fq_end q1c a4
      dsimp only at e4
      have q1d : 0 ≤ (u_24).toInt := by rw [e4]; exact q1c
      have e5 := fq_time q1d a5
      dsimp only at e5
      have q1e : 0 ≤ (u_31).toInt := by rw [e5]; exact q1d
      have e6 := cb_judgeP_of q1e hj
      obtain ⟨e7, e7b⟩ := fm_83 (by rw [r2]; exact r1) k
      refine ⟨by rw [e7, r2, e6, e5, e4, e3], by rw [e7b]; exact ⟨fun j hj => upd_n hj, fun j hj => upd_n hj, fun _ _ => rfl, fun _ _ => rfl, fun _ _ => rfl, fun _ _ => rfl, r6.1, fun _ _ => rfl, r6.2, fun _ _ => rfl⟩, fun z => ?_⟩
      rw [e6] at z
      omega
    · dsimp only at r1 r2 r3 r4 r5 r6
      rw [r2, r3] at k
      unfold f_X8_readPoints B_X8_readPoints_0 at a3
      rw [r1] at a3
      rcases s3_loop hT hR m1_neg hx _ _ _ _ _ _ _ _ _ _ _ _ _ r4 CG_0 hP0 a3 k with ⟨t1, t2, t2r⟩ | ⟨t1, t2, pi2, t3, t4, g, k⟩
      · dsimp only at t1 t2
        have e4 := fq_end t1 a4
        dsimp only at e4
        have q1d : 0 ≤ (u_24).toInt := by rw [e4]; exact t1
        have e5 := fq_time q1d a5
        dsimp only at e5
        have q1e : 0 ≤ (u_31).toInt := by rw [e5]; exact q1d
        have e6 := cb_judgeP_of q1e hj
        refine ⟨by rw [t2, e6, e5, e4], RFR_rt t2r ⟨fun j hj => upd_n hj, fun j hj => upd_n hj, fun _ _ => rfl, fun _ _ => rfl, fun _ _ => rfl, fun _ _ => rfl, r6.1, fun _ _ => rfl, r6.2, fun _ _ => rfl⟩, fun z => ?_⟩
        rw [e6] at z
        omega
      · dsimp only at t1 t2 t3 t4
        rw [t1] at a4
        rcases s4_end hT hR m1_neg t2 r5.2.1 r5.1 a4 k with ⟨y1, y2, y2r⟩ | ⟨y1, y2, y3, y4, fm, y5, k⟩
        · have e5 := fq_time y1 a5
          dsimp only at e5
          have q1e : 0 ≤ (u_31).toInt := by rw [e5]; exact y1
          have e6 := cb_judgeP_of q1e hj
          refine ⟨by rw [y2, e6, e5], RFR_rt y2r ⟨fun j hj => upd_n hj, fun j hj => upd_n hj, fun _ _ => rfl, fun _ _ => rfl, fun _ _ => rfl, fun _ _ => rfl, r6.1, fun _ _ => rfl, r6.2, t4⟩, fun z => ?_⟩
          rw [e6] at z
          omega
        · rw [y1] at a5
          obtain ⟨x1_, xr_, x2_⟩ := s4_time hT hR m1_neg y2 a5 hj k
          have hfm : ∀ j, j ≠ x1.toInt.toNat → fm j = mod_firstMany j := by
            intro j hj2
            by_cases c6 : u_25 = 6
            · rw [y5.1 c6]; exact (upd_n hj2).trans (upd_n hj2)
            · rw [y5.2 c6]; exact upd_n hj2
          refine ⟨x1_, RFR_rt xr_ ⟨fun j hj => upd_n hj, fun j hj => upd_n hj, fun j hj => upd_n hj, fun j hj => upd_n hj, fun _ _ => rfl, fun _ _ => rfl, r6.1, hfm, r6.2, t4⟩, fun z => ?_⟩
          obtain ⟨z1, z2, z3⟩ := x2_ z
          exact ⟨z1, q3, y3, y4, z2, _, _, pi2, fm, r5, r6, t3, t4, y5, z3⟩
theorem z32N_1 : (-1 : Int32).toInt = -1 := by decide
theorem z32N_2 : (-2 : Int32).toInt = -2 := by decide
theorem z32N_3 : (-3 : Int32).toInt = -3 := by decide
theorem z32N_4 : (-4 : Int32).toInt = -4 := by decide
theorem z32N_5 : (-5 : Int32).toInt = -5 := by decide
theorem z32N_6 : (-6 : Int32).toInt = -6 := by decide
theorem z32N_7 : (-7 : Int32).toInt = -7 := by decide
theorem z32N_8 : (-8 : Int32).toInt = -8 := by decide
theorem z32N_9 : (-9 : Int32).toInt = -9 := by decide
theorem z32N_10 : (-10 : Int32).toInt = -10 := by decide
theorem z32N_11 : (-11 : Int32).toInt = -11 := by decide
theorem z32N_12 : (-12 : Int32).toInt = -12 := by decide
theorem z32N_13 : (-13 : Int32).toInt = -13 := by decide
theorem z32N_14 : (-14 : Int32).toInt = -14 := by decide
theorem z32N_15 : (-15 : Int32).toInt = -15 := by decide
theorem z32N_16 : (-16 : Int32).toInt = -16 := by decide
theorem z32N_17 : (-17 : Int32).toInt = -17 := by decide
theorem z32N_18 : (-18 : Int32).toInt = -18 := by decide
theorem z32N_19 : (-19 : Int32).toInt = -19 := by decide
theorem z32N_20 : (-20 : Int32).toInt = -20 := by decide
theorem z32N_21 : (-21 : Int32).toInt = -21 := by decide
theorem z32N_22 : (-22 : Int32).toInt = -22 := by decide
theorem z32N_23 : (-23 : Int32).toInt = -23 := by decide
theorem z32N_24 : (-24 : Int32).toInt = -24 := by decide
theorem z32N_25 : (-25 : Int32).toInt = -25 := by decide
theorem z32N_26 : (-26 : Int32).toInt = -26 := by decide
theorem z32N_27 : (-27 : Int32).toInt = -27 := by decide
theorem z32N_28 : (-28 : Int32).toInt = -28 := by decide
theorem z32N_29 : (-29 : Int32).toInt = -29 := by decide
theorem z32N_30 : (-30 : Int32).toInt = -30 := by decide
theorem z32N_31 : (-31 : Int32).toInt = -31 := by decide
theorem z32N_32 : (-32 : Int32).toInt = -32 := by decide
theorem z32N_33 : (-33 : Int32).toInt = -33 := by decide
theorem z32N_34 : (-34 : Int32).toInt = -34 := by decide
theorem z32N_35 : (-35 : Int32).toInt = -35 := by decide
theorem z32N_36 : (-36 : Int32).toInt = -36 := by decide
theorem z32N_37 : (-37 : Int32).toInt = -37 := by decide
theorem z32N_38 : (-38 : Int32).toInt = -38 := by decide
theorem z32N_39 : (-39 : Int32).toInt = -39 := by decide
theorem z32N_40 : (-40 : Int32).toInt = -40 := by decide
theorem z32N_41 : (-41 : Int32).toInt = -41 := by decide
theorem z32N_42 : (-42 : Int32).toInt = -42 := by decide
theorem z32N_43 : (-43 : Int32).toInt = -43 := by decide
theorem z32N_44 : (-44 : Int32).toInt = -44 := by decide
theorem z32N_45 : (-45 : Int32).toInt = -45 := by decide
theorem z32N_46 : (-46 : Int32).toInt = -46 := by decide
theorem z32N_47 : (-47 : Int32).toInt = -47 := by decide
theorem z32N_48 : (-48 : Int32).toInt = -48 := by decide
theorem z32N_49 : (-49 : Int32).toInt = -49 := by decide
theorem z32N_50 : (-50 : Int32).toInt = -50 := by decide
theorem z32N_51 : (-51 : Int32).toInt = -51 := by decide
theorem z32N_52 : (-52 : Int32).toInt = -52 := by decide
theorem z32N_53 : (-53 : Int32).toInt = -53 := by decide
theorem z32N_54 : (-54 : Int32).toInt = -54 := by decide
theorem z32N_55 : (-55 : Int32).toInt = -55 := by decide
theorem z32N_56 : (-56 : Int32).toInt = -56 := by decide
theorem z32N_57 : (-57 : Int32).toInt = -57 := by decide
theorem z32N_58 : (-58 : Int32).toInt = -58 := by decide
theorem z32N_59 : (-59 : Int32).toInt = -59 := by decide
theorem z32N_60 : (-60 : Int32).toInt = -60 := by decide
theorem z32N_61 : (-61 : Int32).toInt = -61 := by decide
theorem z32N_62 : (-62 : Int32).toInt = -62 := by decide
theorem z32N_63 : (-63 : Int32).toInt = -63 := by decide
theorem z32N_64 : (-64 : Int32).toInt = -64 := by decide
theorem z32N_65 : (-65 : Int32).toInt = -65 := by decide
theorem z32N_66 : (-66 : Int32).toInt = -66 := by decide
theorem z32N_67 : (-67 : Int32).toInt = -67 := by decide
theorem z32N_68 : (-68 : Int32).toInt = -68 := by decide
theorem z32N_69 : (-69 : Int32).toInt = -69 := by decide
theorem z32N_70 : (-70 : Int32).toInt = -70 := by decide
theorem z32N_71 : (-71 : Int32).toInt = -71 := by decide
theorem z32N_72 : (-72 : Int32).toInt = -72 := by decide
theorem z32N_73 : (-73 : Int32).toInt = -73 := by decide
theorem z32N_74 : (-74 : Int32).toInt = -74 := by decide
theorem z32N_75 : (-75 : Int32).toInt = -75 := by decide
theorem z32N_76 : (-76 : Int32).toInt = -76 := by decide
theorem z32N_77 : (-77 : Int32).toInt = -77 := by decide
theorem z32N_78 : (-78 : Int32).toInt = -78 := by decide
theorem z32N_79 : (-79 : Int32).toInt = -79 := by decide
theorem z32N_80 : (-80 : Int32).toInt = -80 := by decide
theorem z32N_81 : (-81 : Int32).toInt = -81 := by decide
theorem z32N_82 : (-82 : Int32).toInt = -82 := by decide
theorem z32N_83 : (-83 : Int32).toInt = -83 := by decide
theorem z32N_84 : (-84 : Int32).toInt = -84 := by decide
theorem z32N_85 : (-85 : Int32).toInt = -85 := by decide
theorem z32N_86 : (-86 : Int32).toInt = -86 := by decide
theorem z32N_87 : (-87 : Int32).toInt = -87 := by decide
theorem z32N_88 : (-88 : Int32).toInt = -88 := by decide
theorem z32N_89 : (-89 : Int32).toInt = -89 := by decide
theorem z32N_90 : (-90 : Int32).toInt = -90 := by decide
theorem z32N_91 : (-91 : Int32).toInt = -91 := by decide
theorem z32N_92 : (-92 : Int32).toInt = -92 := by decide
theorem z32N_93 : (-93 : Int32).toInt = -93 := by decide
theorem z32N_94 : (-94 : Int32).toInt = -94 := by decide
theorem z32N_95 : (-95 : Int32).toInt = -95 := by decide
theorem z32N_96 : (-96 : Int32).toInt = -96 := by decide
theorem z32N_97 : (-97 : Int32).toInt = -97 := by decide
theorem z32N_98 : (-98 : Int32).toInt = -98 := by decide
theorem z32N_99 : (-99 : Int32).toInt = -99 := by decide
theorem z32N_100 : (-100 : Int32).toInt = -100 := by decide
theorem z32N_101 : (-101 : Int32).toInt = -101 := by decide
theorem z32N_102 : (-102 : Int32).toInt = -102 := by decide
theorem z32N_103 : (-103 : Int32).toInt = -103 := by decide
theorem z32N_104 : (-104 : Int32).toInt = -104 := by decide
theorem z32N_105 : (-105 : Int32).toInt = -105 := by decide
theorem z32N_106 : (-106 : Int32).toInt = -106 := by decide
theorem z32N_107 : (-107 : Int32).toInt = -107 := by decide
theorem z32N_108 : (-108 : Int32).toInt = -108 := by decide
theorem z32N_109 : (-109 : Int32).toInt = -109 := by decide
theorem z32N_110 : (-110 : Int32).toInt = -110 := by decide
theorem z32N_111 : (-111 : Int32).toInt = -111 := by decide
theorem z32N_112 : (-112 : Int32).toInt = -112 := by decide
theorem z32N_113 : (-113 : Int32).toInt = -113 := by decide
theorem z32N_114 : (-114 : Int32).toInt = -114 := by decide
theorem z32N_115 : (-115 : Int32).toInt = -115 := by decide
theorem z32N_116 : (-116 : Int32).toInt = -116 := by decide
theorem z32N_117 : (-117 : Int32).toInt = -117 := by decide
theorem z32N_118 : (-118 : Int32).toInt = -118 := by decide
theorem z32N_119 : (-119 : Int32).toInt = -119 := by decide
theorem z32N_120 : (-120 : Int32).toInt = -120 := by decide
theorem z32N_121 : (-121 : Int32).toInt = -121 := by decide
theorem z32N_122 : (-122 : Int32).toInt = -122 := by decide
theorem z32N_123 : (-123 : Int32).toInt = -123 := by decide
theorem z32N_124 : (-124 : Int32).toInt = -124 := by decide
theorem z32N_125 : (-125 : Int32).toInt = -125 := by decide
theorem z32N_126 : (-126 : Int32).toInt = -126 := by decide
theorem z32N_127 : (-127 : Int32).toInt = -127 := by decide
theorem z32N_128 : (-128 : Int32).toInt = -128 := by decide
theorem z32N_129 : (-129 : Int32).toInt = -129 := by decide
theorem pe_b2 {A B C : Type} (a : A) (b : B) (k : A → B → Option C) : zk_b2 (some (a, b)) k = k a b := rfl
theorem TR_up {ts ts2 : Int32} {tb tm : Nat → Int32} (h : TR ts tb tm) (hts : 0 ≤ ts.toInt ∧ ts2.toInt = ts.toInt + 1) {v w : Int32} (hb : (0 ≤ v.toInt ∧ v.toInt ≤ 127 ∧ w = v) ∨ (128 ≤ v.toInt ∧ w.toInt < 0 ∧ -128 ≤ w.toInt)) : TR ts2 (upd tb ts.toNatClampNeg v) (upd tm ts.toNatClampNeg w) := by
  intro k hk
  have e : ts.toNatClampNeg = ts.toInt.toNat := rfl
  unfold upd
  by_cases c : k = ts.toNatClampNeg
  · rw [if_pos c, if_pos c]
    exact hb
  · rw [if_neg c, if_neg c]
    exact h k (by omega)
theorem i32_a {a b : Int32} (h : -100000 ≤ a.toInt ∧ a.toInt ≤ 100000) (h2 : -100000 ≤ b.toInt ∧ b.toInt ≤ 100000) : (a + b).toInt = a.toInt + b.toInt := by
  rw [Int32.toInt_add]
  exact zi_bm2 (by omega) (by omega)
theorem i32_d {a b : Int32} (h : -100000 ≤ a.toInt ∧ a.toInt ≤ 100000) (h2 : -100000 ≤ b.toInt ∧ b.toInt ≤ 100000) : (a - b).toInt = a.toInt - b.toInt := by
  rw [Int32.toInt_sub]
  exact zi_bm2 (by omega) (by omega)
theorem i32_m1 {a : Int32} (h : -100000 ≤ a.toInt ∧ a.toInt ≤ 100000) : (a - 1).toInt = a.toInt - 1 := by
  rw [i32_d h (by decide), z32_1]
theorem tcn {a : Int32} : a.toNatClampNeg = a.toInt.toNat := rfl
theorem TR_00 {ts : Int32} {tb tm : Nat → Int32} (h : ts = 0) : TR ts tb tm := by
  subst h
  intro k hk
  exact absurd hk (by rw [z32_0]; exact Nat.not_lt_zero k)
theorem nar_b (t : Int32) : (vp_nar .byte (t.toInt8.toInt32)).toInt = t.toInt.bmod 256 := by
  show (t.toInt8.toInt32.toInt8.toInt32).toInt = _
  rw [Int8.toInt_toInt32, Int32.toInt_toInt8, Int8.toInt_toInt32, Int32.toInt_toInt8]
  exact Int.bmod_bmod
theorem fd_k {b : BitVec 32} {k : Nat} (hk : k = 0 ∨ k = 8 ∨ k = 16 ∨ k = 24) : ((b >>> k) &&& 255#32).toInt = (b.toNat / 2 ^ k % 256 : Nat) ∧ (b.sshiftRight k).toInt.bmod 256 = ((b.toNat / 2 ^ k % 256 : Nat) : Int).bmod 256 := by
  have h1 : ((b >>> k) &&& 255#32).toNat = b.toNat / 2 ^ k % 256 := by
    rw [BitVec.toNat_and, BitVec.toNat_ushiftRight, Nat.shiftRight_eq_div_pow]
    exact Nat.and_two_pow_sub_one_eq_mod _ 8
  have hb := b.isLt
  constructor
  · rw [BitVec.toInt_eq_toNat_cond, h1]
    rw [if_pos (by omega)]
  · rw [BitVec.toInt_sshiftRight, Int.shiftRight_eq_div_pow, BitVec.toInt_eq_toNat_cond]
    rcases hk with rfl | rfl | rfl | rfl
    · simp only [Int.bmod_def]
      split <;> omega
    · simp only [Int.bmod_def]
      split <;> omega
    · simp only [Int.bmod_def]
      split <;> omega
    · simp only [Int.bmod_def]
      split <;> omega
theorem fd_byte {x2 x3 : Int32} (h : 0 ≤ x3.toInt ∧ x3.toInt ≤ 3) : (0 ≤ (((x2.toUInt32 >>> ((8 * x3).toUInt32 &&& Int32.toUInt32 31)).toInt32) &&& 255).toInt ∧ (((x2.toUInt32 >>> ((8 * x3).toUInt32 &&& Int32.toUInt32 31)).toInt32) &&& 255).toInt ≤ 127 ∧ vp_nar .byte ((x2 >>> ((8 * x3) &&& 31)).toInt8.toInt32) = (((x2.toUInt32 >>> ((8 * x3).toUInt32 &&& Int32.toUInt32 31)).toInt32) &&& 255)) ∨ (128 ≤ (((x2.toUInt32 >>> ((8 * x3).toUInt32 &&& Int32.toUInt32 31)).toInt32) &&& 255).toInt ∧ (vp_nar .byte ((x2 >>> ((8 * x3) &&& 31)).toInt8.toInt32)).toInt < 0 ∧ -128 ≤ (vp_nar .byte ((x2 >>> ((8 * x3) &&& 31)).toInt8.toInt32)).toInt) := by
  have key : ∃ k, (k = 0 ∨ k = 8 ∨ k = 16 ∨ k = 24) ∧ (((x2.toUInt32 >>> ((8 * x3).toUInt32 &&& Int32.toUInt32 31)).toInt32) &&& 255).toInt = ((x2.toBitVec >>> k) &&& 255#32).toInt ∧ (x2 >>> ((8 * x3) &&& 31)).toInt = (x2.toBitVec.sshiftRight k).toInt := by
    have e : x3 = 0 ∨ x3 = 1 ∨ x3 = 2 ∨ x3 = 3 := by
      simp only [i32_e, z32_0, z32_1, z32L_2, z32L_3]
      omega
    rcases e with rfl | rfl | rfl | rfl
    · exact ⟨0, Or.inl rfl, rfl, rfl⟩
    · exact ⟨8, Or.inr (Or.inl rfl), rfl, rfl⟩
    · exact ⟨16, Or.inr (Or.inr (Or.inl rfl)), rfl, rfl⟩
    · exact ⟨24, Or.inr (Or.inr (Or.inr rfl)), rfl, rfl⟩
  obtain ⟨k, hk, e1, e2⟩ := key
  obtain ⟨f1, f2⟩ := fd_k (b := x2.toBitVec) hk
  have e3 := nar_b (x2 >>> ((8 * x3) &&& 31))
  rw [e2, f2] at e3
  rw [f1] at e1
  rw [i32_e, e1, e3]
  simp only [Int.bmod_def]
  by_cases c : x2.toBitVec.toNat / 2 ^ k % 256 < 128
  · refine Or.inl ⟨by omega, by omega, ?_⟩
    rw [if_pos (by omega)]
    omega
  · refine Or.inr ⟨by omega, ?_⟩
    rw [if_neg (by omega)]
    omega
set_option maxHeartbeats 4000000 in
set_option maxRecDepth 20000 in
theorem fd_loop {mod_code : Int32} {court_shoeCount : Int32} {mod_claims : Int32} {at_ : Int32} {f : Int32} {court_suitCount : Int32} {mod_doneMany : Int32} {mod_undoneMany : Int32} {mod_open : Int32} {mod_laid : Int32} {mod_isBoth : Int32} {mod_wished : Int32} {mod_bestMany : Int32} {mod_bestRow : Int32} {mod_ringDigits : Int32} {mod_traces : Int32} {x1 x2 : Int32} (hx : x1.toInt ≤ 4) : ∀ (N M : Nat) (x3 ts : Int32) (tb tm : Nat → Int32) (R : Int32 × Int32 × (Nat → Int32)) (Q : Int32 × Int32 × (Nat → Int32)), 0 ≤ x3.toInt → x3.toInt ≤ x1.toInt → 0 ≤ ts.toInt → ts.toInt + (x1.toInt - x3.toInt) ≤ 120 → TR ts tb tm → G_X11_feed N x1 x2 x3 ts tb = some R → G_X12_feed mod_code court_shoeCount mod_claims at_ f court_suitCount mod_doneMany mod_undoneMany mod_open mod_laid mod_isBoth mod_wished mod_bestMany mod_bestRow mod_ringDigits mod_traces M x1 x2 x3 ts tm = some Q → R.1 = Q.1 ∧ R.2.1 = Q.2.1 ∧ TR R.2.1 R.2.2 Q.2.2 := by
  intro N
  induction N with
  | zero =>
    intro M x3 ts tb tm R Q _ _ _ _ _ h
    cases h
  | succ N ih =>
    intro M x3 ts tb tm R Q h0 h1 h2 h3 hR h k
    cases M with
    | zero => cases k
    | succ M =>
      replace h : B_X11_feed_31 (G_X11_feed N) x1 x2 x3 ts tb = some R := h
      replace k : B_X12_feed_27 (G_X12_feed mod_code court_shoeCount mod_claims at_ f court_suitCount mod_doneMany mod_undoneMany mod_open mod_laid mod_isBoth mod_wished mod_bestMany mod_bestRow mod_ringDigits mod_traces M) mod_code court_shoeCount mod_claims at_ f court_suitCount mod_doneMany mod_undoneMany mod_open mod_laid mod_isBoth mod_wished mod_bestMany mod_bestRow mod_ringDigits mod_traces x1 x2 x3 ts tm = some Q := k
      unfold B_X11_feed_31 at h
      unfold B_X12_feed_27 at k
      by_cases c : x1 ≤ x3
      · replace h := Option.some.inj (zk_t c h)
        replace k := Option.some.inj (zk_t c k)
        subst h
        subst k
        exact ⟨rfl, rfl, hR⟩
      · replace h := zk_f c h
        replace k := zk_f c k
        rw [i32_le] at c
        replace h := zk_o2 h
        obtain ⟨u1, u2, a1, h⟩ := h
        unfold f_X9_add B_X9_add_0 at a1
        have a1 := zk_f (show ¬ (120 : Int32) ≤ ts by rw [i32_le, z32L_120]; omega) a1
        obtain ⟨_, a1⟩ := zk_gd a1
        obtain ⟨f1, e1, a1⟩ := zk_lt a1
        obtain ⟨f2, e2, a1⟩ := zk_lt a1
        subst e1
        subst e2
        have a1 := Option.some.inj a1
        have a2 := (congrArg Prod.fst a1).symm
        have a3 := (congrArg Prod.snd a1).symm
        dsimp only at a2 a3
        subst a2
        subst a3
        replace h := zk_lt h
        obtain ⟨v1, e1, h⟩ := h
        subst e1
        replace k := zk_lt k
        obtain ⟨w1, e1, k⟩ := k
        replace k := zk_gd k
        obtain ⟨_, k⟩ := k
        replace k := zk_lt k
        obtain ⟨w2, e2, k⟩ := k
        replace k := zk_lt k
        obtain ⟨w3, e3, k⟩ := k
        replace k := zk_lt k
        obtain ⟨w4, e4, k⟩ := k
        subst e1
        subst e2
        subst e3
        subst e4
        have s3 := i32_s (a := x3) (by omega)
        have s4 := i32_s (a := ts) (by omega)
        exact ih M _ _ _ _ R Q (by omega) (by omega) (by omega) (by omega) (TR_up hR ⟨h2, s4⟩ (fd_byte ⟨h0, by omega⟩)) h k
set_option maxHeartbeats 4000000 in
set_option maxRecDepth 20000 in
theorem pw_feed {mod_code : Int32} {court_shoeCount : Int32} {mod_claims : Int32} {ts : Int32} {at_ : Int32} {f : Int32} {court_suitCount : Int32} {mod_doneMany : Int32} {mod_undoneMany : Int32} {mod_open : Int32} {mod_laid : Int32} {mod_isBoth : Int32} {mod_wished : Int32} {mod_bestMany : Int32} {mod_bestRow : Int32} {mod_ringDigits : Int32} {mod_traces : Int32} {tm : Nat → Int32} {tb : Nat → Int32} {n m : Nat} {x1 x2 : Int32} (hT : TS ts) (hR : TR ts tb tm) {R : Int32 × Int32 × (Nat → Int32)} {Q : Int32 × Int32 × (Nat → Int32)} (h : f_X11_feed n x1 x2 ts tb = some R) (k : f_X12_feed m x1 x2 mod_code court_shoeCount mod_claims ts at_ f court_suitCount mod_doneMany mod_undoneMany mod_open mod_laid mod_isBoth mod_wished mod_bestMany mod_bestRow mod_ringDigits mod_traces tm = some Q) : R.1 = Q.1 ∧ R.2.1 = Q.2.1 ∧ TR R.2.1 R.2.2 Q.2.2 := by
  unfold f_X11_feed at h
  unfold f_X12_feed at k
  unfold B_X11_feed_0 at h
  by_cases cc1 : x1 < (1 : Int32)
  · replace h := zk_t cc1 h
    have cc1n := cc1
    (try simp only [i32_lt, i32_le, i32_e, z32_0, z32_1] at cc1n)
    first
    | (exfalso; omega)
    | unfold B_X12_feed_0 at k
      replace k := zk_o2 k
      obtain ⟨mv1, mv2, mh3, k⟩ := k
      unfold f_X12_in at mh3
      unfold B_X12_in_0 at mh3
      have mh3 := zk_t cc1 mh3
      simp only [Option.some.injEq, Prod.mk.injEq] at mh3
      obtain ⟨rfl, _⟩ := mh3
      replace k := zk_t rfl k
      replace h := Option.some.inj h
      replace k := Option.some.inj k
      subst h
      subst k
      try dsimp only
      exact ⟨rfl, rfl, hR⟩
  · replace h := zk_f cc1 h
    have cc1n := cc1
    (try simp only [i32_lt, i32_le, i32_e, z32_0, z32_1] at cc1n)
    first
    | (exfalso; omega)
    | by_cases cc2 : x1 ≤ (4 : Int32)
      · replace h := zk_t cc2 h
        have cc2n := cc2
        (try simp only [i32_lt, i32_le, i32_e, z32_0, z32_1, z32L_4] at cc2n)
        first
        | (exfalso; omega)
        | by_cases cc3 : (ts + x1) ≤ (120 : Int32)
          · replace h := zk_t cc3 h
            have cc3n := cc3
            (try simp only [i32_lt, i32_le, i32_e, z32_0, z32_1, z32L_120] at cc3n)
            first
            | (exfalso; omega)
            | have hs := i32_a (a := ts) (b := x1) (by have := hT.1; have := hT.2; omega) (by omega)
              have hT2 := hT.2
              unfold B_X12_feed_0 at k
              replace k := zk_o2 k
              obtain ⟨mv4, mv5, mh6, k⟩ := k
              unfold f_X12_in at mh6
              unfold B_X12_in_0 at mh6
              have mh6 := zk_f cc1 mh6
              have mh6 := zk_f (by (try simp only [i32_lt, i32_le, i32_e, z32_0, z32_1, z32L_4]); omega) mh6
              simp only [Option.some.injEq, Prod.mk.injEq] at mh6
              obtain ⟨rfl, _⟩ := mh6
              replace k := zk_f (by decide) k
              replace k := zk_t cc3 k
              exact fd_loop (by omega) _ _ _ _ _ _ R Q (by decide) (by rw [z32_0]; omega) hT.1 (by rw [z32_0]; omega) hR h k
          · replace h := zk_f cc3 h
            have cc3n := cc3
            (try simp only [i32_lt, i32_le, i32_e, z32_0, z32_1, z32L_120] at cc3n)
            first
            | (exfalso; omega)
            | unfold B_X12_feed_0 at k
              replace k := zk_o2 k
              obtain ⟨mv7, mv8, mh9, k⟩ := k
              unfold f_X12_in at mh9
              unfold B_X12_in_0 at mh9
              have mh9 := zk_f cc1 mh9
              have mh9 := zk_f (by (try simp only [i32_lt, i32_le, i32_e, z32_0, z32_1, z32L_4]); omega) mh9
              simp only [Option.some.injEq, Prod.mk.injEq] at mh9
              obtain ⟨rfl, _⟩ := mh9
              replace k := zk_f (by decide) k
              replace k := zk_f cc3 k
              replace h := Option.some.inj h
              replace k := Option.some.inj k
              subst h
              subst k
              try dsimp only
              exact ⟨rfl, rfl, hR⟩
      · replace h := zk_f cc2 h
        have cc2n := cc2
        (try simp only [i32_lt, i32_le, i32_e, z32_0, z32_1, z32L_4] at cc2n)
        first
        | (exfalso; omega)
        | unfold B_X12_feed_0 at k
          replace k := zk_o2 k
          obtain ⟨mv10, mv11, mh12, k⟩ := k
          unfold f_X12_in at mh12
          unfold B_X12_in_0 at mh12
          have mh12 := zk_f cc1 mh12
          have mh12 := zk_t (by (try simp only [i32_lt, i32_le, i32_e, z32_0, z32_1, z32L_4]); omega) mh12
          simp only [Option.some.injEq, Prod.mk.injEq] at mh12
          obtain ⟨rfl, _⟩ := mh12
          replace k := zk_t rfl k
          replace h := Option.some.inj h
          replace k := Option.some.inj k
          subst h
          subst k
          try dsimp only
          exact ⟨rfl, rfl, hR⟩
theorem lw_mod (x1 : Int32) : 0 ≤ x1.toInt → 0 ≤ (x1 - x1 / 10 * 10).toInt ∧ (x1 - x1 / 10 * 10).toInt ≤ 9 := by
  intro h
  have e := zs_dv10 x1 h
  have e10 : (10 : Int32).toInt = 10 := by decide
  have hlt := Int32.toInt_lt x1
  rw [Int32.toInt_sub, Int32.toInt_mul, e, e10]
  rw [zi_bm2 (e := x1.toInt / 10 * 10) (by omega) (by omega)]
  rw [zi_bm2 (by omega) (by omega)]
  omega
set_option maxHeartbeats 4000000 in
set_option maxRecDepth 20000 in
theorem lt219 {mod_code : Int32} {court_shoeCount : Int32} {mod_claims : Int32} {court_suitCount : Int32} {mod_doneMany : Int32} {mod_undoneMany : Int32} {mod_isBoth : Int32} {mod_wished : Int32} {mod_bestMany : Int32} {mod_bestRow : Int32} {mod_ringDigits : Int32} {mod_traces : Int32} {tm : Nat → Int32}  : ∀ (n : Nat) (x2 : Int32) (x3 : Int32) (ts : Int32) (at_ : Int32) (f : Int32) (mod_open : Int32) (mod_laid : Int32) (mod_act : Nat → Int32) (mod_with : Nat → Int32) (mod_lineMany : Nat → Int32) (mod_testEnd : Nat → Int32) (mod_lineEnd : Nat → Int32) (R : Int32 × Int32 × Int32 × Int32 × Int32 × Int32 × (Nat → Int32) × (Nat → Int32) × (Nat → Int32) × (Nat → Int32) × (Nat → Int32)), (G_X12_law mod_code court_shoeCount mod_claims court_suitCount mod_doneMany mod_undoneMany mod_isBoth mod_wished mod_bestMany mod_bestRow mod_ringDigits mod_traces tm n).2.2 x2 x3 ts at_ f mod_open mod_laid mod_act mod_with mod_lineMany mod_testEnd mod_lineEnd = some R → R.2.1 = ts := by
  intro n
  induction n with
  | zero =>
    intro x2 x3 ts at_ f mod_open mod_laid mod_act mod_with mod_lineMany mod_testEnd mod_lineEnd R h
    cases h
  | succ n ih =>
    intro x2 x3 ts at_ f mod_open mod_laid mod_act mod_with mod_lineMany mod_testEnd mod_lineEnd R h
    replace h : B_X12_law_219 ((G_X12_law mod_code court_shoeCount mod_claims court_suitCount mod_doneMany mod_undoneMany mod_isBoth mod_wished mod_bestMany mod_bestRow mod_ringDigits mod_traces tm n).1) ((G_X12_law mod_code court_shoeCount mod_claims court_suitCount mod_doneMany mod_undoneMany mod_isBoth mod_wished mod_bestMany mod_bestRow mod_ringDigits mod_traces tm n).2.1) ((G_X12_law mod_code court_shoeCount mod_claims court_suitCount mod_doneMany mod_undoneMany mod_isBoth mod_wished mod_bestMany mod_bestRow mod_ringDigits mod_traces tm n).2.2) mod_code court_shoeCount mod_claims court_suitCount mod_doneMany mod_undoneMany mod_isBoth mod_wished mod_bestMany mod_bestRow mod_ringDigits mod_traces tm x2 x3 ts at_ f mod_open mod_laid mod_act mod_with mod_lineMany mod_testEnd mod_lineEnd = some R := h
    unfold B_X12_law_219 at h
    replace h := zk_gd h
    obtain ⟨_, h⟩ := h
    by_cases cc1 : (mod_lineMany x2.toNatClampNeg) ≤ x3
    · replace h := zk_t cc1 h
      have cc1n := cc1
      (try simp only [i32_lt, i32_le, i32_e, z32_0, z32_1] at cc1n)
      exact (congrArg (fun z => z.2.1) (Option.some.inj h)).symm
    · replace h := zk_f cc1 h
      have cc1n := cc1
      (try simp only [i32_lt, i32_le, i32_e, z32_0, z32_1] at cc1n)
      replace h := zk_gd h
      obtain ⟨_, h⟩ := h
      replace h := zk_lt h
      obtain ⟨cv2, ce3, h⟩ := h
      subst ce3
      replace h := zk_gd h
      obtain ⟨_, h⟩ := h
      replace h := zk_lt h
      obtain ⟨cv4, ce5, h⟩ := h
      subst ce5
      replace h := zk_gd h
      obtain ⟨_, h⟩ := h
      replace h := zk_lt h
      obtain ⟨cv6, ce7, h⟩ := h
      subst ce7
      replace h := zk_gd h
      obtain ⟨_, h⟩ := h
      replace h := zk_lt h
      obtain ⟨cv8, ce9, h⟩ := h
      subst ce9
      replace h := zk_lt h
      obtain ⟨cv10, ce11, h⟩ := h
      subst ce11
      exact ih _ _ _ _ _ _ _ _ _ _ _ _ R h
set_option maxHeartbeats 4000000 in
set_option maxRecDepth 20000 in
theorem lt146 {mod_code : Int32} {court_shoeCount : Int32} {mod_claims : Int32} {court_suitCount : Int32} {mod_doneMany : Int32} {mod_undoneMany : Int32} {mod_isBoth : Int32} {mod_wished : Int32} {mod_bestMany : Int32} {mod_bestRow : Int32} {mod_ringDigits : Int32} {mod_traces : Int32} {tm : Nat → Int32}  : ∀ (n : Nat) (x2 : Int32) (x3 : Int32) (ts : Int32) (at_ : Int32) (f : Int32) (mod_open : Int32) (mod_laid : Int32) (mod_act : Nat → Int32) (mod_with : Nat → Int32) (mod_lineMany : Nat → Int32) (mod_testEnd : Nat → Int32) (mod_lineEnd : Nat → Int32) (R : Int32 × Int32 × Int32 × Int32 × Int32 × Int32 × (Nat → Int32) × (Nat → Int32) × (Nat → Int32) × (Nat → Int32) × (Nat → Int32)), (G_X12_law mod_code court_shoeCount mod_claims court_suitCount mod_doneMany mod_undoneMany mod_isBoth mod_wished mod_bestMany mod_bestRow mod_ringDigits mod_traces tm n).2.1 x2 x3 ts at_ f mod_open mod_laid mod_act mod_with mod_lineMany mod_testEnd mod_lineEnd = some R → R.2.1 = ts := by
  intro n
  induction n with
  | zero =>
    intro x2 x3 ts at_ f mod_open mod_laid mod_act mod_with mod_lineMany mod_testEnd mod_lineEnd R h
    cases h
  | succ n ih =>
    intro x2 x3 ts at_ f mod_open mod_laid mod_act mod_with mod_lineMany mod_testEnd mod_lineEnd R h
    replace h : B_X12_law_146 ((G_X12_law mod_code court_shoeCount mod_claims court_suitCount mod_doneMany mod_undoneMany mod_isBoth mod_wished mod_bestMany mod_bestRow mod_ringDigits mod_traces tm n).1) ((G_X12_law mod_code court_shoeCount mod_claims court_suitCount mod_doneMany mod_undoneMany mod_isBoth mod_wished mod_bestMany mod_bestRow mod_ringDigits mod_traces tm n).2.1) ((G_X12_law mod_code court_shoeCount mod_claims court_suitCount mod_doneMany mod_undoneMany mod_isBoth mod_wished mod_bestMany mod_bestRow mod_ringDigits mod_traces tm n).2.2) mod_code court_shoeCount mod_claims court_suitCount mod_doneMany mod_undoneMany mod_isBoth mod_wished mod_bestMany mod_bestRow mod_ringDigits mod_traces tm x2 x3 ts at_ f mod_open mod_laid mod_act mod_with mod_lineMany mod_testEnd mod_lineEnd = some R := h
    unfold B_X12_law_146 at h
    by_cases cc1 : mod_laid ≤ x3
    · replace h := zk_t cc1 h
      have cc1n := cc1
      (try simp only [i32_lt, i32_le, i32_e, z32_0, z32_1] at cc1n)
      replace h := zk_lt h
      obtain ⟨cv2, ce3, h⟩ := h
      subst ce3
      replace h := zk_gd h
      obtain ⟨_, h⟩ := h
      replace h := zk_lt h
      obtain ⟨cv4, ce5, h⟩ := h
      subst ce5
      exact lt219 n _ _ _ _ _ _ _ _ _ _ _ _ R h
    · replace h := zk_f cc1 h
      have cc1n := cc1
      (try simp only [i32_lt, i32_le, i32_e, z32_0, z32_1] at cc1n)
      replace h := zk_gd h
      obtain ⟨_, h⟩ := h
      replace h := zk_lt h
      obtain ⟨cv6, ce7, h⟩ := h
      subst ce7
      replace h := zk_gd h
      obtain ⟨_, h⟩ := h
      replace h := zk_lt h
      obtain ⟨cv8, ce9, h⟩ := h
      subst ce9
      replace h := zk_gd h
      obtain ⟨_, h⟩ := h
      replace h := zk_lt h
      obtain ⟨cv10, ce11, h⟩ := h
      subst ce11
      replace h := zk_gd h
      obtain ⟨_, h⟩ := h
      replace h := zk_lt h
      obtain ⟨cv12, ce13, h⟩ := h
      subst ce13
      replace h := zk_lt h
      obtain ⟨cv14, ce15, h⟩ := h
      subst ce15
      exact ih _ _ _ _ _ _ _ _ _ _ _ _ R h
