
def lb (hc : Int32) (v : Int64) : Int64 := if hc = 0 then v.toInt32.toInt8.toInt32.toInt64 else if hc = 1 then v.toInt32.toInt16.toInt32.toInt64 else if hc = 2 then v.toInt32.toInt64 else if hc = 3 then v else if hc = 4 then (if lg_cmp v 0 = 0 then 0 else 1) else v
def lm (so : Int32) (v : Int64) : Int64 := if so = 0 then v.toInt32.toInt8.toInt32.toInt64 else if so = 1 then v.toInt32.toInt16.toInt32.toInt64 else if so = 2 then v.toInt32.toInt64 else if so = 3 then v else (if lg_cmp v 0 = 0 then 0 else 1)
theorem lb_lm {hc so : Int32} {v : Int64} (h : 0 ≤ hc.toInt ∧ hc.toInt ≤ 4) (e : so.toInt = hc.toInt) : lm so v = lb hc v := by
  have e2 : so = hc := Int32.toInt_inj.mp e
  subst e2
  unfold lm lb
  by_cases c0 : so = 0
  · rw [if_pos c0, if_pos c0]
  by_cases c1 : so = 1
  · rw [if_neg c0, if_neg c0, if_pos c1, if_pos c1]
  by_cases c2 : so = 2
  · rw [if_neg c0, if_neg c0, if_neg c1, if_neg c1, if_pos c2, if_pos c2]
  by_cases c3 : so = 3
  · rw [if_neg c0, if_neg c0, if_neg c1, if_neg c1, if_neg c2, if_neg c2, if_pos c3, if_pos c3]
  have c4 : so = 4 := by
    rw [i32_e] at c0 c1 c2 c3 ⊢
    rw [z32_0] at c0
    rw [z32_1] at c1
    rw [z32L_2] at c2
    rw [z32L_3] at c3
    rw [z32L_4]
    omega
  rw [if_neg c0, if_neg c0, if_neg c1, if_neg c1, if_neg c2, if_neg c2, if_neg c3, if_neg c3, if_pos c4]
set_option maxHeartbeats 4000000 in
set_option maxRecDepth 20000 in
theorem lb_e {pl_suit : Int32} {pl_holds : Int32} {pl_size : Int32} {x1 r : Int64} {u : Unit} (h : f_X6_lowestBits x1 pl_holds pl_suit pl_size = some (r, u)) : r = lb pl_holds x1 := by
  unfold f_X6_lowestBits B_X6_lowestBits_0 at h
  unfold lb
  by_cases c0 : pl_holds = 0
  · rw [if_pos c0]
    exact (congrArg Prod.fst (Option.some.inj (zk_t c0 h))).symm
  replace h := zk_f c0 h
  rw [if_neg c0]
  by_cases c1 : pl_holds = 1
  · rw [if_pos c1]
    exact (congrArg Prod.fst (Option.some.inj (zk_t c1 h))).symm
  replace h := zk_f c1 h
  rw [if_neg c1]
  by_cases c2 : pl_holds = 2
  · rw [if_pos c2]
    exact (congrArg Prod.fst (Option.some.inj (zk_t c2 h))).symm
  replace h := zk_f c2 h
  rw [if_neg c2]
  by_cases c3 : pl_holds = 3
  · rw [if_pos c3]
    exact (congrArg Prod.fst (Option.some.inj (zk_t c3 h))).symm
  replace h := zk_f c3 h
  rw [if_neg c3]
  by_cases c4 : pl_holds = 4
  · replace h := zk_t c4 h
    rw [if_pos c4]
    by_cases c5 : lg_cmp x1 0 = 0
    · rw [if_pos c5]
      exact (congrArg Prod.fst (Option.some.inj (zk_t c5 h))).symm
    · rw [if_neg c5]
      exact (congrArg Prod.fst (Option.some.inj (zk_f c5 h))).symm
  · rw [if_neg c4]
    exact (congrArg Prod.fst (Option.some.inj (zk_f c4 h))).symm
set_option maxHeartbeats 4000000 in
set_option maxRecDepth 20000 in
theorem p8_put {pl_suit : Int32} {pl_holds : Int32} {pl_size : Int32} {pl_elements : Nat → Int64} {root_places : Nat → Option Nat} {h_pl : Nat} {x1 x2 : Int32} {x3 : Int64} {R : Int32 × (Nat → Int64)} (hsz : 0 ≤ pl_size.toInt ∧ pl_size.toInt ≤ 60) (h : f_X11_put h_pl x1 x2 x3 root_places pl_holds pl_suit pl_size pl_elements = some R) : ((x1.toInt < 0 ∨ 6 ≤ x1.toInt) ∧ R = (-1, pl_elements)) ∨ ((0 ≤ x1.toInt ∧ x1.toInt ≤ 5) ∧ pl_holds.toInt = -1 ∧ R = (-11, pl_elements)) ∨ ((0 ≤ x1.toInt ∧ x1.toInt ≤ 5) ∧ pl_holds.toInt = 5 ∧ R = (-12, pl_elements)) ∨ ((0 ≤ x1.toInt ∧ x1.toInt ≤ 5) ∧ pl_holds.toInt ≠ -1 ∧ pl_holds.toInt ≠ 5 ∧ (x2.toInt < 0 ∨ pl_size.toInt ≤ x2.toInt) ∧ R = (-13, pl_elements)) ∨ ((0 ≤ x1.toInt ∧ x1.toInt ≤ 5) ∧ pl_holds.toInt ≠ -1 ∧ pl_holds.toInt ≠ 5 ∧ (0 ≤ x2.toInt ∧ x2.toInt < pl_size.toInt) ∧ R = (1, vp_updL pl_elements x2.toNatClampNeg (lb pl_holds x3))) := by
  unfold f_X11_put B_X11_put_0 at h
  replace h := zk_o2 h
  obtain ⟨r1, u1, a1, h⟩ := h
  unfold f_X11_placeAt B_X11_placeAt_0 at a1
  by_cases c1 : x1 < 0
  · have e := congrArg Prod.fst (Option.some.inj (zk_t c1 a1))
    dsimp only at e
    subst e
    replace h := Option.some.inj (zk_f (by decide) h)
    rw [i32_lt, z32_0] at c1
    exact Or.inl ⟨Or.inl c1, h.symm⟩
  have a1 := zk_f c1 a1
  by_cases c2 : (6 : Int32) ≤ x1
  · have e := congrArg Prod.fst (Option.some.inj (zk_t c2 a1))
    dsimp only at e
    subst e
    replace h := Option.some.inj (zk_f (by decide) h)
    rw [i32_le, z32L_6] at c2
    exact Or.inl ⟨Or.inr c2, h.symm⟩
  have a1 := zk_f c2 a1
  rw [i32_lt, z32_0] at c1
  rw [i32_le, z32L_6] at c2
  have hr : 0 ≤ x1.toInt ∧ x1.toInt ≤ 5 := by omega
  obtain ⟨_, a1⟩ := zk_gd a1
  obtain ⟨_, a1⟩ := zk_gd a1
  have e := congrArg Prod.fst (Option.some.inj a1)
  dsimp only at e
  subst e
  replace h := zk_t rfl h
  replace h := zk_o2 h
  obtain ⟨r5, u5, a2, h⟩ := h
  unfold f_X6_refusalOf B_X6_refusalOf_0 at a2
  by_cases c3 : pl_holds = (-1 : Int32)
  · have e := congrArg Prod.fst (Option.some.inj (zk_t c3 a2))
    dsimp only at e
    subst e
    replace h := Option.some.inj (zk_f (by decide) h)
    rw [i32_e, z32N_1] at c3
    exact Or.inr (Or.inl ⟨hr, c3, h.symm⟩)
  have a2 := zk_f c3 a2
  by_cases c4 : pl_holds = (5 : Int32)
  · have e := congrArg Prod.fst (Option.some.inj (zk_t c4 a2))
    dsimp only at e
    subst e
    replace h := Option.some.inj (zk_f (by decide) h)
    rw [i32_e, z32L_5] at c4
    exact Or.inr (Or.inr (Or.inl ⟨hr, c4, h.symm⟩))
  have a2 := zk_f c4 a2
  rw [i32_e, z32N_1] at c3
  rw [i32_e, z32L_5] at c4
  obtain ⟨r3, u3, a3, a2⟩ := zk_o2 a2
  have hg : ((x2.toInt < 0 ∨ pl_size.toInt ≤ x2.toInt) ∧ r3 = 0) ∨ ((0 ≤ x2.toInt ∧ x2.toInt < pl_size.toInt) ∧ r3 = 1) := by
    unfold f_X6_hasRange B_X6_hasRange_0 at a3
    by_cases d1 : x2 < 0
    · have e := (congrArg Prod.fst (Option.some.inj (zk_t d1 a3))).symm
      rw [i32_lt, z32_0] at d1
      exact Or.inl ⟨Or.inl d1, e⟩
    have a3 := zk_f d1 a3
    rw [i32_lt, z32_0] at d1
    have a3 := zk_f (show ¬ (1 : Int32) < 0 by decide) a3
    by_cases d2 : pl_size < x2
    · have e := (congrArg Prod.fst (Option.some.inj (zk_t d2 a3))).symm
      rw [i32_lt] at d2
      exact Or.inl ⟨Or.inr (by omega), e⟩
    have a3 := zk_f d2 a3
    rw [i32_lt] at d2
    have es : (pl_size - x2).toInt = pl_size.toInt - x2.toInt := i32_d (by omega) (by omega)
    by_cases d3 : (pl_size - x2) < (1 : Int32)
    · have e := (congrArg Prod.fst (Option.some.inj (zk_t d3 a3))).symm
      rw [i32_lt, es, z32_1] at d3
      exact Or.inl ⟨Or.inr (by omega), e⟩
    · have e := (congrArg Prod.fst (Option.some.inj (zk_f d3 a3))).symm
      rw [i32_lt, es, z32_1] at d3
      exact Or.inr ⟨by omega, e⟩
  rcases hg with ⟨g1, g2⟩ | ⟨g1, g2⟩
  · have e := congrArg Prod.fst (Option.some.inj (zk_t g2 a2))
    dsimp only at e
    subst e
    replace h := Option.some.inj (zk_f (by decide) h)
    exact Or.inr (Or.inr (Or.inr (Or.inl ⟨hr, c3, c4, g1, h.symm⟩)))
  · have e := congrArg Prod.fst (Option.some.inj (zk_f (by rw [g2]; decide) a2))
    dsimp only at e
    subst e
    replace h := zk_t (by decide) h
    replace h := zk_o2 h
    obtain ⟨r9, u9, a4, h⟩ := h
    have e9 := lb_e a4
    replace h := zk_gd h
    obtain ⟨_, h⟩ := h
    replace h := zk_lt h
    obtain ⟨w, ew, h⟩ := h
    replace h := Option.some.inj h
    rw [ew, e9] at h
    exact Or.inr (Or.inr (Or.inr (Or.inr ⟨hr, c3, c4, g1, h.symm⟩)))
set_option maxHeartbeats 4000000 in
set_option maxRecDepth 20000 in
theorem p12_put {mod_code : Int32} {court_shoeCount : Int32} {mod_claims : Int32} {ts : Int32} {at_ : Int32} {f : Int32} {court_suitCount : Int32} {mod_doneMany : Int32} {mod_undoneMany : Int32} {mod_open : Int32} {mod_laid : Int32} {mod_isBoth : Int32} {mod_wished : Int32} {mod_bestMany : Int32} {mod_bestRow : Int32} {mod_ringDigits : Int32} {mod_traces : Int32} {mod_holds : Nat → Int32} {mod_size : Nat → Int32} {mod_elements : Nat → Int64} {x1 x2 : Int32} {x3 : Int64} {Q : Int32 × (Nat → Int64)} (hsz : (0 ≤ x1.toInt ∧ x1.toInt ≤ 5) → 0 ≤ (mod_size x1.toNatClampNeg).toInt ∧ (mod_size x1.toNatClampNeg).toInt ≤ 60) (h : f_X12_put x1 x2 x3 mod_code court_shoeCount mod_claims ts at_ f court_suitCount mod_doneMany mod_undoneMany mod_open mod_laid mod_isBoth mod_wished mod_bestMany mod_bestRow mod_ringDigits mod_traces mod_holds mod_size mod_elements = some Q) : ((x1.toInt < 0 ∨ 6 ≤ x1.toInt) ∧ Q = (-1, mod_elements)) ∨ ((0 ≤ x1.toInt ∧ x1.toInt ≤ 5) ∧ (mod_holds x1.toNatClampNeg).toInt = -1 ∧ Q = (-11, mod_elements)) ∨ ((0 ≤ x1.toInt ∧ x1.toInt ≤ 5) ∧ 0 ≤ (mod_holds x1.toNatClampNeg).toInt ∧ Q = (-12, mod_elements)) ∨ ((0 ≤ x1.toInt ∧ x1.toInt ≤ 5) ∧ (mod_holds x1.toNatClampNeg).toInt ≠ -1 ∧ (mod_holds x1.toNatClampNeg).toInt < 0 ∧ (x2.toInt < 0 ∨ (mod_size x1.toNatClampNeg).toInt ≤ x2.toInt) ∧ Q = (-13, mod_elements)) ∨ ((0 ≤ x1.toInt ∧ x1.toInt ≤ 5) ∧ (mod_holds x1.toNatClampNeg).toInt ≠ -1 ∧ (mod_holds x1.toNatClampNeg).toInt < 0 ∧ (0 ≤ x2.toInt ∧ x2.toInt < (mod_size x1.toNatClampNeg).toInt) ∧ Q = (1, vp_updL mod_elements (((60 : Int32) * x1) + x2).toNatClampNeg (lm ((-2 : Int32) - (mod_holds x1.toNatClampNeg)) x3))) := by
  unfold f_X12_put B_X12_put_0 at h
  replace h := zk_o2 h
  obtain ⟨r1, u1, a1, h⟩ := h
  unfold f_X12_whyNoPlace B_X12_whyNoPlace_0 at a1
  obtain ⟨r2, u2, a2, a1⟩ := zk_o2 a1
  unfold f_X12_isShelf B_X12_isShelf_0 at a2
  rw [pe_in, pe_b2] at a2
  obtain ⟨_, a2⟩ := zk_gd a2
  have e2 := congrArg Prod.fst (Option.some.inj a2)
  dsimp only at e2
  by_cases c1 : x1 < 0 ∨ (5 : Int32) < x1
  · rw [if_pos c1] at e2
    have a1 := congrArg Prod.fst (Option.some.inj (zk_t e2.symm a1))
    dsimp only at a1
    subst a1
    replace h := Option.some.inj (zk_f (by decide) h)
    rw [i32_lt, i32_lt, z32_0, z32L_5] at c1
    exact Or.inl ⟨by omega, h.symm⟩
  rw [if_neg c1] at e2
  rw [i32_lt, i32_lt, z32_0, z32L_5] at c1
  have hr : 0 ≤ x1.toInt ∧ x1.toInt ≤ 5 := by omega
  have hs := hsz hr
  have a1 := zk_f (by rw [← e2]; decide) a1
  obtain ⟨_, a1⟩ := zk_gd a1
  by_cases c3 : mod_holds x1.toNatClampNeg = (-1 : Int32)
  · have e := congrArg Prod.fst (Option.some.inj (zk_t c3 a1))
    dsimp only at e
    subst e
    replace h := Option.some.inj (zk_f (by decide) h)
    rw [i32_e, z32N_1] at c3
    exact Or.inr (Or.inl ⟨hr, c3, h.symm⟩)
  have a1 := zk_f c3 a1
  rw [i32_e, z32N_1] at c3
  obtain ⟨_, a1⟩ := zk_gd a1
  by_cases c4 : mod_holds x1.toNatClampNeg < 0
  · have a1 := zk_t c4 a1
    rw [i32_lt, z32_0] at c4
    obtain ⟨_, a1⟩ := zk_gd a1
    obtain ⟨r3, u3, a3, a1⟩ := zk_o2 a1
    rw [pe_in] at a3
    have e3 := congrArg Prod.fst (Option.some.inj a3)
    dsimp only at e3
    have es := i32_m1 (a := mod_size x1.toNatClampNeg) (by omega)
    by_cases c5 : x2 < 0 ∨ mod_size x1.toNatClampNeg - 1 < x2
    · rw [if_pos c5] at e3
      have e := congrArg Prod.fst (Option.some.inj (zk_t e3.symm a1))
      dsimp only at e
      subst e
      replace h := Option.some.inj (zk_f (by decide) h)
      rw [i32_lt, i32_lt, z32_0, es] at c5
      exact Or.inr (Or.inr (Or.inr (Or.inl ⟨hr, c3, c4, by omega, h.symm⟩)))
    · rw [if_neg c5] at e3
      have e := congrArg Prod.fst (Option.some.inj (zk_f (by rw [← e3]; decide) a1))
      dsimp only at e
      subst e
      replace h := zk_t (by decide) h
      rw [i32_lt, i32_lt, z32_0, es] at c5
      replace h := zk_gd h
      obtain ⟨_, h⟩ := h
      replace h := zk_lt h
      obtain ⟨v, ev, h⟩ := h
      refine Or.inr (Or.inr (Or.inr (Or.inr ⟨hr, c3, c4, by omega, ?_⟩)))
      have fin : ∀ w : Int64, B_X12_put_95 mod_code court_shoeCount mod_claims ts at_ f court_suitCount mod_doneMany mod_undoneMany mod_open mod_laid mod_isBoth mod_wished mod_bestMany mod_bestRow mod_ringDigits mod_traces mod_holds mod_size w (((60 : Int32) * x1) + x2) mod_elements = some Q → Q = (1, vp_updL mod_elements (((60 : Int32) * x1) + x2).toNatClampNeg w) := fun w q => by
        unfold B_X12_put_95 at q
        obtain ⟨_, q⟩ := zk_gd q
        obtain ⟨y, ey, q⟩ := zk_lt q
        rw [← Option.some.inj q, ey]
      rw [← ev]
      unfold lm
      by_cases d0 : v = 0
      · rw [if_pos d0]
        exact fin _ (zk_t d0 h)
      replace h := zk_f d0 h
      rw [if_neg d0]
      by_cases d1 : v = 1
      · rw [if_pos d1]
        exact fin _ (zk_t d1 h)
      replace h := zk_f d1 h
      rw [if_neg d1]
      by_cases d2 : v = 2
      · rw [if_pos d2]
        exact fin _ (zk_t d2 h)
      replace h := zk_f d2 h
      rw [if_neg d2]
      by_cases d3 : v = 3
      · rw [if_pos d3]
        exact fin _ (zk_t d3 h)
      replace h := zk_f d3 h
      rw [if_neg d3]
      by_cases d4 : lg_cmp x3 0 = 0
      · rw [if_pos d4]
        exact fin _ (zk_t d4 h)
      · rw [if_neg d4]
        exact fin _ (zk_f d4 h)
  · have a1 := congrArg Prod.fst (Option.some.inj (zk_f c4 a1))
    dsimp only at a1
    subst a1
    replace h := Option.some.inj (zk_f (by decide) h)
    rw [i32_lt, z32_0] at c4
    exact Or.inr (Or.inr (Or.inl ⟨hr, by omega, h.symm⟩))
set_option maxHeartbeats 4000000 in
set_option maxRecDepth 20000 in
theorem pw_put {mod_code : Int32} {court_shoeCount : Int32} {mod_claims : Int32} {ts : Int32} {at_ : Int32} {f : Int32} {court_suitCount : Int32} {mod_doneMany : Int32} {mod_undoneMany : Int32} {mod_open : Int32} {mod_laid : Int32} {mod_isBoth : Int32} {mod_wished : Int32} {mod_bestMany : Int32} {mod_bestRow : Int32} {mod_ringDigits : Int32} {mod_traces : Int32} {mod_holds : Nat → Int32} {mod_size : Nat → Int32} {mod_elements : Nat → Int64} {pl_suit : Int32} {pl_holds : Int32} {pl_size : Int32} {pl_elements : Nat → Int64} {root_places : Nat → Option Nat} {x1 x2 : Int32} {x3 : Int64} {j h_pl : Nat} (hj : (¬ x1 < 0 ∧ ¬ 6 ≤ x1) → x1.toNatClampNeg = j) (hP : PLR court_suitCount j pl_holds pl_suit pl_size pl_elements mod_holds mod_size mod_elements) {R : Int32 × (Nat → Int64)} {Q : Int32 × (Nat → Int64)} (h : f_X11_put h_pl x1 x2 x3 root_places pl_holds pl_suit pl_size pl_elements = some R) (k : f_X12_put x1 x2 x3 mod_code court_shoeCount mod_claims ts at_ f court_suitCount mod_doneMany mod_undoneMany mod_open mod_laid mod_isBoth mod_wished mod_bestMany mod_bestRow mod_ringDigits mod_traces mod_holds mod_size mod_elements = some Q) : R.1 = Q.1 ∧ PLR court_suitCount j pl_holds pl_suit pl_size R.2 mod_holds mod_size Q.2 ∧ ∀ i, (i < 60 * j ∨ 60 * j + 60 ≤ i) → Q.2 i = mod_elements i := by
  have hm : (0 ≤ x1.toInt ∧ x1.toInt ≤ 5) → x1.toNatClampNeg = j := fun q => hj ⟨by rw [i32_lt, z32_0]; omega, by rw [i32_le, z32L_6]; omega⟩
  obtain ⟨⟨hs1, hs2, hs3⟩, he, hd⟩ := id hP
  have hz : pl_holds.toInt = -1 → pl_holds.toInt ≠ 5 := fun q => by omega
  rcases p8_put ⟨hs2, hs3⟩ h with ⟨a1, a2⟩ | ⟨a1, a2, a3⟩ | ⟨a1, a2, a3⟩ | ⟨a1, a2, a3, a4, a5⟩ | ⟨a1, a2, a3, a4, a5⟩ <;> rcases p12_put (fun q => by rw [hm q, hs1]; exact ⟨hs2, hs3⟩) k with ⟨b1, b2⟩ | ⟨b1, b2, b3⟩ | ⟨b1, b2, b3⟩ | ⟨b1, b2, b3, b4, b5⟩ | ⟨b1, b2, b3, b4, b5⟩
  · rw [a2, b2]
    exact ⟨rfl, hP, fun i hi => rfl⟩
  all_goals (have hmm := hm (by omega))
  all_goals (try rw [hmm] at b2)
  all_goals (try rw [hmm] at b3)
  all_goals (try rw [hmm] at b4)
  all_goals (try rw [hs1] at b4)
  all_goals first
  | (exfalso; omega)
  | (rw [a3, b3]; exact ⟨rfl, hP, fun i hi => rfl⟩)
  | (rw [a5, b5]; exact ⟨rfl, hP, fun i hi => rfl⟩)
  | skip
  have hv : lm ((-2 : Int32) - mod_holds x1.toNatClampNeg) x3 = lb pl_holds x3 := lb_lm (by omega) (by rw [hmm, i32_d (a := -2) (b := mod_holds j) (by decide) (by omega), z32N_2]; omega)
  have ex : x2.toNatClampNeg = x2.toInt.toNat := rfl
  rw [a5, b5, hv]
  refine ⟨rfl, PLR_put hP (by omega) (by rw [ix60 a1 (by omega), hmm]) rfl, fun i hi => updL_n (by rw [ix60 a1 (by omega), hmm]; omega)⟩
theorem i32_dd {a b : Int32} (h : 0 ≤ a.toInt ∧ a.toInt ≤ 100) (h2 : 0 ≤ b.toInt) : (a - b).toInt = a.toInt - b.toInt := by
  have := Int32.toInt_lt b
  rw [Int32.toInt_sub]
  exact zi_bm2 (by omega) (by omega)
theorem PLR_row {n hc su sz hc2 sz2 v : Int32} {j : Nat} {el el2 : Nat → Int64} {mh ms : Nat → Int32} {me me2 : Nat → Int64} (h : PLR n j hc su sz el mh ms me) (c : 0 ≤ hc2.toInt ∧ hc2.toInt ≤ 4 ∧ v.toInt = -2 - hc2.toInt) (c2 : 0 ≤ sz2.toInt ∧ sz2.toInt ≤ 60) (z1 : ∀ k, k < 60 → el2 k = 0) (z2 : ∀ k, 60 * j ≤ k → k < 60 * j + 60 → me2 k = 0) : PLR n j hc2 su sz2 el2 (upd mh j v) (upd ms j sz2) me2 := by
  refine ⟨⟨?_, c2⟩, fun k hk => by rw [z1 k hk, z2 _ (by omega) (by omega)], Or.inr (Or.inl ?_)⟩
  · unfold upd
    rw [if_pos rfl]
  · unfold upd
    rw [if_pos rfl]
    exact c
theorem e60n : (Int32.ofNat 60).toInt = 60 := by decide
set_option maxHeartbeats 4000000 in
set_option maxRecDepth 20000 in
theorem fz_loop  {v : Int64} : ∀ (n : Nat) (x3 x4 : Int32) (el R : Nat → Int64), x4.toInt = 60 → 0 ≤ x3.toInt → x3.toInt ≤ 60 → G_J7_fill_d0a16 60 n v x3 x4 el = some R → (∀ k, x3.toInt.toNat ≤ k → k < 60 → R k = v) ∧ (∀ k, k < x3.toInt.toNat → R k = el k) := by
  intro n
  induction n with
  | zero =>
    intro x3 x4 el R _ _ _ h
    cases h
  | succ n ih =>
    intro x3 x4 el R h4 h0 h1 h
    replace h : B_J7_fill_d0a16_6 (G_J7_fill_d0a16 60 n) 60 v x3 x4 el = some R := h
    unfold B_J7_fill_d0a16_6 at h
    by_cases c : x4 ≤ x3
    · replace h := Option.some.inj (zk_t c h)
      rw [i32_le] at c
      subst h
      exact ⟨fun k k1 k2 => by exfalso; omega, fun k _ => rfl⟩
    · replace h := zk_f c h
      rw [i32_le] at c
      replace h := zk_gd h
      obtain ⟨_, h⟩ := h
      replace h := zk_lt h
      obtain ⟨f1, e1, h⟩ := h
      replace h := zk_lt h
      obtain ⟨f2, e2, h⟩ := h
      subst e1
      subst e2
      have s3 := i32_s (a := x3) (by omega)
      obtain ⟨q1, q2⟩ := ih _ _ _ _ h4 (by omega) (by omega) h
      refine ⟨fun k k1 k2 => ?_, fun k k1 => ?_⟩
      · by_cases ck : k = x3.toInt.toNat
        · rw [q2 k (by omega)]
          unfold vp_updL
          rw [if_pos (ck.trans tcn.symm)]
        · exact q1 k (by omega) k2
      · rw [q2 k (by omega)]
        exact updL_n (by rw [tcn]; omega)
set_option maxHeartbeats 4000000 in
set_option maxRecDepth 20000 in
theorem fz_fill  {n : Nat} {v : Int64} {el R : Nat → Int64} (h : f_J7_fill_d0a16 n v el 60 = some R) : ∀ k, k < 60 → R k = v := by
  unfold f_J7_fill_d0a16 B_J7_fill_d0a16_0 at h
  replace h := zk_lt h
  obtain ⟨w, e, h⟩ := h
  subst e
  exact fun k hk => (fz_loop _ _ _ _ _ e60n (by decide) (by decide) h).1 k (by rw [z32_0]; exact Nat.zero_le _) hk
set_option maxHeartbeats 4000000 in
set_option maxRecDepth 20000 in
theorem rw_loop {mod_code : Int32} {court_shoeCount : Int32} {mod_claims : Int32} {ts : Int32} {at_ : Int32} {f : Int32} {court_suitCount : Int32} {mod_doneMany : Int32} {mod_undoneMany : Int32} {mod_open : Int32} {mod_laid : Int32} {mod_isBoth : Int32} {mod_wished : Int32} {mod_bestMany : Int32} {mod_bestRow : Int32} {mod_ringDigits : Int32} {mod_traces : Int32} {x1 : Int32} (hx5 : 0 ≤ x1.toInt ∧ x1.toInt ≤ 5) : ∀ (n : Nat) (x4 : Int32) (mod_holds mod_size : Nat → Int32) (mod_elements : Nat → Int64) (Q : Int32 × (Nat → Int32) × (Nat → Int32) × (Nat → Int64)), 60 * x1.toInt ≤ x4.toInt → x4.toInt ≤ 60 * x1.toInt + 60 → (∀ k, 60 * x1.toNatClampNeg ≤ k → k < x4.toInt.toNat → mod_elements k = 0) → G_X12_row mod_code court_shoeCount mod_claims ts at_ f court_suitCount mod_doneMany mod_undoneMany mod_open mod_laid mod_isBoth mod_wished mod_bestMany mod_bestRow mod_ringDigits mod_traces n x1 x4 mod_holds mod_size mod_elements = some Q → Q.1 = 1 ∧ Q.2.1 = mod_holds ∧ Q.2.2.1 = mod_size ∧ (∀ k, 60 * x1.toNatClampNeg ≤ k → k < 60 * x1.toNatClampNeg + 60 → Q.2.2.2 k = 0) ∧ (∀ k, (k < 60 * x1.toNatClampNeg ∨ 60 * x1.toNatClampNeg + 60 ≤ k) → Q.2.2.2 k = mod_elements k) := by
  have ex : x1.toNatClampNeg = x1.toInt.toNat := rfl
  have e60 : ((60 : Int32) * x1 + 60).toInt = 60 * x1.toInt + 60 := by
    rw [Int32.toInt_add, Int32.toInt_mul, z32L_60]
    rw [zi_bm2 (e := 60 * x1.toInt) (by omega) (by omega)]
    exact zi_bm2 (by omega) (by omega)
  intro n
  induction n with
  | zero =>
    intro x4 mod_holds mod_size mod_elements Q _ _ _ h
    cases h
  | succ n ih =>
    intro x4 mod_holds mod_size mod_elements Q h0 h1 hz h
    replace h : B_X12_row_54 (G_X12_row mod_code court_shoeCount mod_claims ts at_ f court_suitCount mod_doneMany mod_undoneMany mod_open mod_laid mod_isBoth mod_wished mod_bestMany mod_bestRow mod_ringDigits mod_traces n) mod_code court_shoeCount mod_claims ts at_ f court_suitCount mod_doneMany mod_undoneMany mod_open mod_laid mod_isBoth mod_wished mod_bestMany mod_bestRow mod_ringDigits mod_traces x1 x4 mod_holds mod_size mod_elements = some Q := h
    unfold B_X12_row_54 at h
    by_cases c : ((60 : Int32) * x1 + 60) ≤ x4
    · replace h := Option.some.inj (zk_t c h)
      rw [i32_le, e60] at c
      subst h
      exact ⟨rfl, rfl, rfl, fun k k1 k2 => hz k k1 (by omega), fun k _ => rfl⟩
    · replace h := zk_f c h
      rw [i32_le, e60] at c
      replace h := zk_gd h
      obtain ⟨_, h⟩ := h
      replace h := zk_lt h
      obtain ⟨f1, e1, h⟩ := h
      replace h := zk_lt h
      obtain ⟨f2, e2, h⟩ := h
      subst e1
      subst e2
      have s3 := i32_s (a := x4) (by omega)
      have e4 : x4.toNatClampNeg = x4.toInt.toNat := rfl
      obtain ⟨q1, q2, q3, q4, q5⟩ := ih _ _ _ _ Q (by omega) (by omega) (fun k k1 k2 => by
        unfold vp_updL
        by_cases ck : k = x4.toNatClampNeg
        · rw [if_pos ck]
        · rw [if_neg ck]
          exact hz k k1 (by omega)) h
      exact ⟨q1, q2, q3, q4, fun k k1 => by rw [q5 k k1]; exact updL_n (by omega)⟩
set_option maxHeartbeats 4000000 in
set_option maxRecDepth 20000 in
theorem pw_row {mod_code : Int32} {court_shoeCount : Int32} {mod_claims : Int32} {ts : Int32} {at_ : Int32} {f : Int32} {court_suitCount : Int32} {mod_doneMany : Int32} {mod_undoneMany : Int32} {mod_open : Int32} {mod_laid : Int32} {mod_isBoth : Int32} {mod_wished : Int32} {mod_bestMany : Int32} {mod_bestRow : Int32} {mod_ringDigits : Int32} {mod_traces : Int32} {mod_holds : Nat → Int32} {mod_size : Nat → Int32} {mod_elements : Nat → Int64} {pl_suit : Int32} {pl_holds : Int32} {pl_size : Int32} {pl_elements : Nat → Int64} {root_places : Nat → Option Nat} {m : Nat} {x1 x2 x3 : Int32} {j h_pl : Nat} (hj : (¬ x1 < 0 ∧ ¬ 6 ≤ x1) → x1.toNatClampNeg = j) (hP : PLR court_suitCount j pl_holds pl_suit pl_size pl_elements mod_holds mod_size mod_elements) {R : Int32 × Int32 × Int32 × (Nat → Int64)} {Q : Int32 × (Nat → Int32) × (Nat → Int32) × (Nat → Int64)} (h : f_X11_row h_pl x1 x2 x3 root_places pl_holds pl_suit pl_size pl_elements = some R) (k : f_X12_row m x1 x2 x3 mod_code court_shoeCount mod_claims ts at_ f court_suitCount mod_doneMany mod_undoneMany mod_open mod_laid mod_isBoth mod_wished mod_bestMany mod_bestRow mod_ringDigits mod_traces mod_holds mod_size mod_elements = some Q) : R.1 = Q.1 ∧ PLR court_suitCount j R.2.1 pl_suit R.2.2.1 R.2.2.2 Q.2.1 Q.2.2.1 Q.2.2.2 ∧ (∀ i, i ≠ j → Q.2.1 i = mod_holds i ∧ Q.2.2.1 i = mod_size i) ∧ (∀ i, (i < 60 * j ∨ 60 * j + 60 ≤ i) → Q.2.2.2 i = mod_elements i) := by
  unfold f_X11_row at h
  unfold f_X12_row at k
  unfold B_X11_row_0 at h
  replace h := zk_o2 h
  obtain ⟨cv1, cv2, ch3, h⟩ := h
  unfold f_X11_placeAt at ch3
  unfold B_X11_placeAt_0 at ch3
  by_cases cc4 : x1 < 0
  · have ch3 := zk_t cc4 ch3
    have cc4n := cc4
    (try simp only [i32_lt, i32_le, i32_e, z32_0, z32_1] at cc4n)
    first
    | (exfalso; omega)
    | simp only [Option.some.injEq, Prod.mk.injEq] at ch3
      obtain ⟨rfl, _⟩ := ch3
      replace h := zk_f (by decide) h
      unfold B_X12_row_0 at k
      replace k := zk_o2 k
      obtain ⟨mv1, mv2, mh3, k⟩ := k
      unfold f_X12_isShelf at mh3
      unfold B_X12_isShelf_0 at mh3
      obtain ⟨mv4, mv5, mh6, mh3⟩ := zk_o2 mh3
      unfold f_X12_in at mh6
      unfold B_X12_in_0 at mh6
      have mh6 := zk_t cc4 mh6
      simp only [Option.some.injEq, Prod.mk.injEq] at mh6
      obtain ⟨rfl, _⟩ := mh6
      obtain ⟨_, mh3⟩ := zk_gd mh3
      simp only [Option.some.injEq, Prod.mk.injEq] at mh3
      obtain ⟨rfl, _⟩ := mh3
      replace k := zk_t rfl k
      replace h := Option.some.inj h
      replace k := Option.some.inj k
      subst h
      subst k
      try dsimp only
      all_goals first
      | exact ⟨rfl, hP, fun i hi => ⟨rfl, rfl⟩, fun i hi => rfl⟩
      | (exfalso; omega)
  · have ch3 := zk_f cc4 ch3
    have cc4n := cc4
    (try simp only [i32_lt, i32_le, i32_e, z32_0, z32_1] at cc4n)
    first
    | (exfalso; omega)
    | by_cases cc5 : (6 : Int32) ≤ x1
      · have ch3 := zk_t cc5 ch3
        have cc5n := cc5
        (try simp only [i32_lt, i32_le, i32_e, z32_0, z32_1, z32L_6] at cc5n)
        first
        | (exfalso; omega)
        | simp only [Option.some.injEq, Prod.mk.injEq] at ch3
          obtain ⟨rfl, _⟩ := ch3
          replace h := zk_f (by decide) h
          unfold B_X12_row_0 at k
          replace k := zk_o2 k
          obtain ⟨mv7, mv8, mh9, k⟩ := k
          unfold f_X12_isShelf at mh9
          unfold B_X12_isShelf_0 at mh9
          obtain ⟨mv10, mv11, mh12, mh9⟩ := zk_o2 mh9
          unfold f_X12_in at mh12
          unfold B_X12_in_0 at mh12
          have mh12 := zk_f cc4 mh12
          have mh12 := zk_t (by (try simp only [i32_lt, i32_le, i32_e, z32_0, z32_1, z32L_5]); omega) mh12
          simp only [Option.some.injEq, Prod.mk.injEq] at mh12
          obtain ⟨rfl, _⟩ := mh12
          obtain ⟨_, mh9⟩ := zk_gd mh9
          simp only [Option.some.injEq, Prod.mk.injEq] at mh9
          obtain ⟨rfl, _⟩ := mh9
          replace k := zk_t rfl k
          replace h := Option.some.inj h
          replace k := Option.some.inj k
          subst h
          subst k
          try dsimp only
          all_goals first
          | exact ⟨rfl, hP, fun i hi => ⟨rfl, rfl⟩, fun i hi => rfl⟩
          | (exfalso; omega)
      · have ch3 := zk_f cc5 ch3
        have cc5n := cc5
        (try simp only [i32_lt, i32_le, i32_e, z32_0, z32_1, z32L_6] at cc5n)
        first
        | (exfalso; omega)
        | obtain ⟨_, ch3⟩ := zk_gd ch3
          obtain ⟨_, ch3⟩ := zk_gd ch3
          simp only [Option.some.injEq, Prod.mk.injEq] at ch3
          obtain ⟨rfl, _⟩ := ch3
          replace h := zk_t (by decide) h
          by_cases cc6 : x2 < 0
          · replace h := zk_t cc6 h
            have cc6n := cc6
            (try simp only [i32_lt, i32_le, i32_e, z32_0, z32_1] at cc6n)
            first
            | (exfalso; omega)
            | have hjj := hj ⟨cc4, cc5⟩
              subst hjj
              obtain ⟨⟨hs1, hs2, hs3⟩, he, hd⟩ := id hP
              have hx5 : 0 ≤ x1.toInt ∧ x1.toInt ≤ 5 := by
                have q1 := cc4
                have q2 := cc5
                rw [i32_lt, z32_0] at q1
                rw [i32_le, z32L_6] at q2
                omega
              have hsz := i32_m1 (a := mod_size x1.toNatClampNeg) (by rw [hs1]; omega)
              have hsz2 : (mod_size x1.toNatClampNeg).toInt = pl_size.toInt := by rw [hs1]
              unfold B_X12_row_0 at k
              replace k := zk_o2 k
              obtain ⟨mv13, mv14, mh15, k⟩ := k
              unfold f_X12_isShelf at mh15
              unfold B_X12_isShelf_0 at mh15
              obtain ⟨mv16, mv17, mh18, mh15⟩ := zk_o2 mh15
              unfold f_X12_in at mh18
              unfold B_X12_in_0 at mh18
              have mh18 := zk_f cc4 mh18
              have mh18 := zk_f (by (try simp only [i32_lt, i32_le, i32_e, z32_0, z32_1, z32L_5]); omega) mh18
              simp only [Option.some.injEq, Prod.mk.injEq] at mh18
              obtain ⟨rfl, _⟩ := mh18
              obtain ⟨_, mh15⟩ := zk_gd mh15
              simp only [Option.some.injEq, Prod.mk.injEq] at mh15
              obtain ⟨rfl, _⟩ := mh15
              replace k := zk_f (by decide) k
              replace k := zk_o2 k
              obtain ⟨mv19, mv20, mh21, k⟩ := k
              unfold f_X12_in at mh21
              unfold B_X12_in_0 at mh21
              have mh21 := zk_t cc6 mh21
              simp only [Option.some.injEq, Prod.mk.injEq] at mh21
              obtain ⟨rfl, _⟩ := mh21
              replace k := zk_t rfl k
              replace h := Option.some.inj h
              replace k := Option.some.inj k
              subst h
              subst k
              try dsimp only
              all_goals first
              | exact ⟨rfl, hP, fun i hi => ⟨rfl, rfl⟩, fun i hi => rfl⟩
              | (exfalso; omega)
          · replace h := zk_f cc6 h
            have cc6n := cc6
            (try simp only [i32_lt, i32_le, i32_e, z32_0, z32_1] at cc6n)
            first
            | (exfalso; omega)
            | by_cases cc7 : (4 : Int32) < x2
              · replace h := zk_t cc7 h
                have cc7n := cc7
                (try simp only [i32_lt, i32_le, i32_e, z32_0, z32_1, z32L_4] at cc7n)
                first
                | (exfalso; omega)
                | have hjj := hj ⟨cc4, cc5⟩
                  subst hjj
                  obtain ⟨⟨hs1, hs2, hs3⟩, he, hd⟩ := id hP
                  have hx5 : 0 ≤ x1.toInt ∧ x1.toInt ≤ 5 := by
                    have q1 := cc4
                    have q2 := cc5
                    rw [i32_lt, z32_0] at q1
                    rw [i32_le, z32L_6] at q2
                    omega
                  have hsz := i32_m1 (a := mod_size x1.toNatClampNeg) (by rw [hs1]; omega)
                  have hsz2 : (mod_size x1.toNatClampNeg).toInt = pl_size.toInt := by rw [hs1]
                  unfold B_X12_row_0 at k
                  replace k := zk_o2 k
                  obtain ⟨mv22, mv23, mh24, k⟩ := k
                  unfold f_X12_isShelf at mh24
                  unfold B_X12_isShelf_0 at mh24
                  obtain ⟨mv25, mv26, mh27, mh24⟩ := zk_o2 mh24
                  unfold f_X12_in at mh27
                  unfold B_X12_in_0 at mh27
                  have mh27 := zk_f cc4 mh27
                  have mh27 := zk_f (by (try simp only [i32_lt, i32_le, i32_e, z32_0, z32_1, z32L_5]); omega) mh27
                  simp only [Option.some.injEq, Prod.mk.injEq] at mh27
                  obtain ⟨rfl, _⟩ := mh27
                  obtain ⟨_, mh24⟩ := zk_gd mh24
                  simp only [Option.some.injEq, Prod.mk.injEq] at mh24
                  obtain ⟨rfl, _⟩ := mh24
                  replace k := zk_f (by decide) k
                  replace k := zk_o2 k
                  obtain ⟨mv28, mv29, mh30, k⟩ := k
                  unfold f_X12_in at mh30
                  unfold B_X12_in_0 at mh30
                  have mh30 := zk_f cc6 mh30
                  have mh30 := zk_t cc7 mh30
                  simp only [Option.some.injEq, Prod.mk.injEq] at mh30
                  obtain ⟨rfl, _⟩ := mh30
                  replace k := zk_t rfl k
                  replace h := Option.some.inj h
                  replace k := Option.some.inj k
                  subst h
                  subst k
                  try dsimp only
                  all_goals first
                  | exact ⟨rfl, hP, fun i hi => ⟨rfl, rfl⟩, fun i hi => rfl⟩
                  | (exfalso; omega)
              · replace h := zk_f cc7 h
                have cc7n := cc7
                (try simp only [i32_lt, i32_le, i32_e, z32_0, z32_1, z32L_4] at cc7n)
                first
                | (exfalso; omega)
                | by_cases cc8 : x3 ≤ (60 : Int32)
                  · replace h := zk_t cc8 h
                    have cc8n := cc8
                    (try simp only [i32_lt, i32_le, i32_e, z32_0, z32_1, z32L_60] at cc8n)
                    first
                    | (exfalso; omega)
                    | by_cases cc9 : 0 ≤ x3
                      · replace h := zk_t cc9 h
                        have cc9n := cc9
                        (try simp only [i32_lt, i32_le, i32_e, z32_0, z32_1] at cc9n)
                        first
                        | (exfalso; omega)
                        | obtain ⟨cv10, cv11, cv12, ch13, h⟩ := zk_o3 h
                          unfold f_X6_becomeRow at ch13
                          unfold B_X6_becomeRow_0 at ch13
                          obtain ⟨cv14, ch15, ch13⟩ := zk_o1 ch13
                          obtain hfz := fz_fill ch15
                          simp only [Option.some.injEq, Prod.mk.injEq] at ch13
                          obtain ⟨rfl, rfl, rfl⟩ := ch13
                          have hjj := hj ⟨cc4, cc5⟩
                          subst hjj
                          obtain ⟨⟨hs1, hs2, hs3⟩, he, hd⟩ := id hP
                          have hx5 : 0 ≤ x1.toInt ∧ x1.toInt ≤ 5 := by
                            have q1 := cc4
                            have q2 := cc5
                            rw [i32_lt, z32_0] at q1
                            rw [i32_le, z32L_6] at q2
                            omega
                          have hsz := i32_m1 (a := mod_size x1.toNatClampNeg) (by rw [hs1]; omega)
                          have hsz2 : (mod_size x1.toNatClampNeg).toInt = pl_size.toInt := by rw [hs1]
                          unfold B_X12_row_0 at k
                          replace k := zk_o2 k
                          obtain ⟨mv31, mv32, mh33, k⟩ := k
                          unfold f_X12_isShelf at mh33
                          unfold B_X12_isShelf_0 at mh33
                          obtain ⟨mv34, mv35, mh36, mh33⟩ := zk_o2 mh33
                          unfold f_X12_in at mh36
                          unfold B_X12_in_0 at mh36
                          have mh36 := zk_f cc4 mh36
                          have mh36 := zk_f (by (try simp only [i32_lt, i32_le, i32_e, z32_0, z32_1, z32L_5]); omega) mh36
                          simp only [Option.some.injEq, Prod.mk.injEq] at mh36
                          obtain ⟨rfl, _⟩ := mh36
                          obtain ⟨_, mh33⟩ := zk_gd mh33
                          simp only [Option.some.injEq, Prod.mk.injEq] at mh33
                          obtain ⟨rfl, _⟩ := mh33
                          replace k := zk_f (by decide) k
                          replace k := zk_o2 k
                          obtain ⟨mv37, mv38, mh39, k⟩ := k
                          unfold f_X12_in at mh39
                          unfold B_X12_in_0 at mh39
                          have mh39 := zk_f cc6 mh39
                          have mh39 := zk_f cc7 mh39
                          simp only [Option.some.injEq, Prod.mk.injEq] at mh39
                          obtain ⟨rfl, _⟩ := mh39
                          replace k := zk_f (by decide) k
                          replace k := zk_t cc8 k
                          replace k := zk_t cc9 k
                          replace k := zk_lt k
                          obtain ⟨mv40, me41, k⟩ := k
                          subst me41
                          replace k := zk_gd k
                          obtain ⟨_, k⟩ := k
                          replace k := zk_lt k
                          obtain ⟨mv42, me43, k⟩ := k
                          subst me43
                          replace k := zk_gd k
                          obtain ⟨_, k⟩ := k
                          replace k := zk_lt k
                          obtain ⟨mv44, me45, k⟩ := k
                          subst me45
                          replace k := zk_lt k
                          obtain ⟨mv46, me47, k⟩ := k
                          subst me47
                          replace h := Option.some.inj h
                          subst h
                          have ex : x1.toNatClampNeg = x1.toInt.toNat := rfl
                          have e6 : ((60 : Int32) * x1).toInt = 60 * x1.toInt := by
                            rw [Int32.toInt_mul, z32L_60]
                            exact zi_bm2 (by omega) (by omega)
                          obtain ⟨w1, w2, w3, w4, w5⟩ := rw_loop hx5 _ _ _ _ _ Q (by omega) (by omega) (fun k k1 k2 => by exfalso; omega) k
                          refine ⟨w1.symm, ?_, fun i hi => ⟨by rw [w2]; exact upd_n hi, by rw [w3]; exact upd_n hi⟩, fun i hi => w5 i hi⟩
                          try dsimp only
                          rw [w2, w3]
                          exact PLR_row hP ⟨by omega, by omega, by rw [i32_d (by decide) (by omega), z32N_2]⟩ ⟨by omega, by omega⟩ hfz w4
                      · replace h := zk_f cc9 h
                        have cc9n := cc9
                        (try simp only [i32_lt, i32_le, i32_e, z32_0, z32_1] at cc9n)
                        first
                        | (exfalso; omega)
                        | have hjj := hj ⟨cc4, cc5⟩
                          subst hjj
                          obtain ⟨⟨hs1, hs2, hs3⟩, he, hd⟩ := id hP
                          have hx5 : 0 ≤ x1.toInt ∧ x1.toInt ≤ 5 := by
                            have q1 := cc4
                            have q2 := cc5
                            rw [i32_lt, z32_0] at q1
                            rw [i32_le, z32L_6] at q2
                            omega
                          have hsz := i32_m1 (a := mod_size x1.toNatClampNeg) (by rw [hs1]; omega)
                          have hsz2 : (mod_size x1.toNatClampNeg).toInt = pl_size.toInt := by rw [hs1]
                          unfold B_X12_row_0 at k
                          replace k := zk_o2 k
                          obtain ⟨mv48, mv49, mh50, k⟩ := k
                          unfold f_X12_isShelf at mh50
                          unfold B_X12_isShelf_0 at mh50
                          obtain ⟨mv51, mv52, mh53, mh50⟩ := zk_o2 mh50
                          unfold f_X12_in at mh53
                          unfold B_X12_in_0 at mh53
                          have mh53 := zk_f cc4 mh53
                          have mh53 := zk_f (by (try simp only [i32_lt, i32_le, i32_e, z32_0, z32_1, z32L_5]); omega) mh53
                          simp only [Option.some.injEq, Prod.mk.injEq] at mh53
                          obtain ⟨rfl, _⟩ := mh53
                          obtain ⟨_, mh50⟩ := zk_gd mh50
                          simp only [Option.some.injEq, Prod.mk.injEq] at mh50
                          obtain ⟨rfl, _⟩ := mh50
                          replace k := zk_f (by decide) k
                          replace k := zk_o2 k
                          obtain ⟨mv54, mv55, mh56, k⟩ := k
                          unfold f_X12_in at mh56
                          unfold B_X12_in_0 at mh56
                          have mh56 := zk_f cc6 mh56
                          have mh56 := zk_f cc7 mh56
                          simp only [Option.some.injEq, Prod.mk.injEq] at mh56
                          obtain ⟨rfl, _⟩ := mh56
                          replace k := zk_f (by decide) k
                          replace k := zk_t cc8 k
                          replace k := zk_f cc9 k
                          replace h := Option.some.inj h
                          replace k := Option.some.inj k
                          subst h
                          subst k
                          try dsimp only
                          all_goals first
                          | exact ⟨rfl, hP, fun i hi => ⟨rfl, rfl⟩, fun i hi => rfl⟩
                          | (exfalso; omega)
                  · replace h := zk_f cc8 h
                    have cc8n := cc8
                    (try simp only [i32_lt, i32_le, i32_e, z32_0, z32_1, z32L_60] at cc8n)
                    first
                    | (exfalso; omega)
                    | have hjj := hj ⟨cc4, cc5⟩
                      subst hjj
                      obtain ⟨⟨hs1, hs2, hs3⟩, he, hd⟩ := id hP
                      have hx5 : 0 ≤ x1.toInt ∧ x1.toInt ≤ 5 := by
                        have q1 := cc4
                        have q2 := cc5
                        rw [i32_lt, z32_0] at q1
                        rw [i32_le, z32L_6] at q2
                        omega
                      have hsz := i32_m1 (a := mod_size x1.toNatClampNeg) (by rw [hs1]; omega)
                      have hsz2 : (mod_size x1.toNatClampNeg).toInt = pl_size.toInt := by rw [hs1]
                      unfold B_X12_row_0 at k
                      replace k := zk_o2 k
                      obtain ⟨mv57, mv58, mh59, k⟩ := k
                      unfold f_X12_isShelf at mh59
                      unfold B_X12_isShelf_0 at mh59
                      obtain ⟨mv60, mv61, mh62, mh59⟩ := zk_o2 mh59
                      unfold f_X12_in at mh62
                      unfold B_X12_in_0 at mh62
                      have mh62 := zk_f cc4 mh62
                      have mh62 := zk_f (by (try simp only [i32_lt, i32_le, i32_e, z32_0, z32_1, z32L_5]); omega) mh62
                      simp only [Option.some.injEq, Prod.mk.injEq] at mh62
                      obtain ⟨rfl, _⟩ := mh62
                      obtain ⟨_, mh59⟩ := zk_gd mh59
                      simp only [Option.some.injEq, Prod.mk.injEq] at mh59
                      obtain ⟨rfl, _⟩ := mh59
                      replace k := zk_f (by decide) k
                      replace k := zk_o2 k
                      obtain ⟨mv63, mv64, mh65, k⟩ := k
                      unfold f_X12_in at mh65
                      unfold B_X12_in_0 at mh65
                      have mh65 := zk_f cc6 mh65
                      have mh65 := zk_f cc7 mh65
                      simp only [Option.some.injEq, Prod.mk.injEq] at mh65
                      obtain ⟨rfl, _⟩ := mh65
                      replace k := zk_f (by decide) k
                      replace k := zk_f cc8 k
                      replace h := Option.some.inj h
                      replace k := Option.some.inj k
                      subst h
                      subst k
                      try dsimp only
                      all_goals first
                      | exact ⟨rfl, hP, fun i hi => ⟨rfl, rfl⟩, fun i hi => rfl⟩
                      | (exfalso; omega)
