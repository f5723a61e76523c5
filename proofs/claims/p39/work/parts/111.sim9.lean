
theorem ix603 {x y k : Int32} (hx : 0 ≤ x.toInt ∧ x.toInt ≤ 5) (hy : 0 ≤ y.toInt ∧ y.toInt ≤ 100) (hk : 0 ≤ k.toInt ∧ k.toInt ≤ 100) : (((60 : Int32) * x + y) + k).toNatClampNeg = 60 * x.toInt.toNat + y.toInt.toNat + k.toInt.toNat := by
  have e60 : (60 : Int32).toInt = 60 := by decide
  have e : (((60 : Int32) * x + y) + k).toInt = 60 * x.toInt + y.toInt + k.toInt := by
    rw [Int32.toInt_add, Int32.toInt_add, Int32.toInt_mul, e60, zi_bm2 (e := 60 * x.toInt) (by omega) (by omega), zi_bm2 (e := 60 * x.toInt + y.toInt) (by omega) (by omega), zi_bm2 (by omega) (by omega)]
  rw [tcn, e]
  omega
set_option maxHeartbeats 4000000 in
set_option maxRecDepth 20000 in
theorem sh150 {mod_code : Int32} {court_shoeCount : Int32} {mod_claims : Int32} {ts : Int32} {at_ : Int32} {f : Int32} {court_suitCount : Int32} {mod_doneMany : Int32} {mod_undoneMany : Int32} {mod_open : Int32} {mod_laid : Int32} {mod_isBoth : Int32} {mod_wished : Int32} {mod_bestMany : Int32} {mod_bestRow : Int32} {mod_ringDigits : Int32} {mod_traces : Int32} {mod_holds : Nat → Int32} {mod_size : Nat → Int32} {x3 x4 x5 : Int32} (h3 : 0 ≤ x3.toInt ∧ x3.toInt ≤ 5) (h4 : 0 ≤ x4.toInt ∧ x4.toInt ≤ 60) (h5 : 0 ≤ x5.toInt ∧ x5.toInt ≤ 60) : ∀ (n : Nat) (x6 : Int32) (mod_elements mod_shifted : Nat → Int64) (Q : Int32 × (Nat → Int64) × (Nat → Int64)), 0 ≤ x6.toInt → x6.toInt ≤ x5.toInt → (G_X12_shift mod_code court_shoeCount mod_claims ts at_ f court_suitCount mod_doneMany mod_undoneMany mod_open mod_laid mod_isBoth mod_wished mod_bestMany mod_bestRow mod_ringDigits mod_traces mod_holds mod_size n).2 x3 x4 x5 x6 mod_elements mod_shifted = some Q → Q.1 = x5 ∧ ∀ k, Q.2.1 k = if 60 * x3.toInt.toNat + x4.toInt.toNat + x6.toInt.toNat ≤ k ∧ k < 60 * x3.toInt.toNat + x4.toInt.toNat + x5.toInt.toNat then mod_shifted (k - (60 * x3.toInt.toNat + x4.toInt.toNat)) else mod_elements k := by
  intro n
  induction n with
  | zero =>
    intro x6 mod_elements mod_shifted Q _ _ h
    cases h
  | succ n ih =>
    intro x6 mod_elements mod_shifted Q h6 h7 h
    replace h : B_X12_shift_150 ((G_X12_shift mod_code court_shoeCount mod_claims ts at_ f court_suitCount mod_doneMany mod_undoneMany mod_open mod_laid mod_isBoth mod_wished mod_bestMany mod_bestRow mod_ringDigits mod_traces mod_holds mod_size n).1) ((G_X12_shift mod_code court_shoeCount mod_claims ts at_ f court_suitCount mod_doneMany mod_undoneMany mod_open mod_laid mod_isBoth mod_wished mod_bestMany mod_bestRow mod_ringDigits mod_traces mod_holds mod_size n).2) mod_code court_shoeCount mod_claims ts at_ f court_suitCount mod_doneMany mod_undoneMany mod_open mod_laid mod_isBoth mod_wished mod_bestMany mod_bestRow mod_ringDigits mod_traces mod_holds mod_size x3 x4 x5 x6 mod_elements mod_shifted = some Q := h
    unfold B_X12_shift_150 at h
    by_cases c : x5 ≤ x6
    · replace h := Option.some.inj (zk_t c h)
      rw [i32_le] at c
      subst h
      exact ⟨rfl, fun k => by rw [if_neg (by omega)]⟩
    · replace h := zk_f c h
      rw [i32_le] at c
      replace h := zk_gd h
      obtain ⟨_, h⟩ := h
      replace h := zk_lt h
      obtain ⟨f1, e1, h⟩ := h
      replace h := zk_gd h
      obtain ⟨_, h⟩ := h
      replace h := zk_lt h
      obtain ⟨f2, e2, h⟩ := h
      replace h := zk_lt h
      obtain ⟨f3, e3, h⟩ := h
      subst e1
      subst e2
      subst e3
      have s3 := i32_s (a := x6) (by omega)
      obtain ⟨q1, q2⟩ := ih _ _ _ Q (by omega) (by omega) h
      refine ⟨q1, fun k => ?_⟩
      rw [q2 k, ix603 h3 (by omega) (by omega), s3]
      unfold vp_updL
      by_cases ck : k = 60 * x3.toInt.toNat + x4.toInt.toNat + x6.toInt.toNat
      · rw [if_neg (by omega), if_pos ck, if_pos (by omega)]
        have e6 : x6.toNatClampNeg = x6.toInt.toNat := rfl
        rw [e6]
        congr 1
        omega
      · rw [if_neg ck]
        by_cases c2 : 60 * x3.toInt.toNat + x4.toInt.toNat + (x6.toInt + 1).toNat ≤ k ∧ k < 60 * x3.toInt.toNat + x4.toInt.toNat + x5.toInt.toNat
        · rw [if_pos c2, if_pos (by omega)]
        · rw [if_neg c2, if_neg (by omega)]
set_option maxHeartbeats 4000000 in
set_option maxRecDepth 20000 in
theorem sh113 {mod_code : Int32} {court_shoeCount : Int32} {mod_claims : Int32} {ts : Int32} {at_ : Int32} {f : Int32} {court_suitCount : Int32} {mod_doneMany : Int32} {mod_undoneMany : Int32} {mod_open : Int32} {mod_laid : Int32} {mod_isBoth : Int32} {mod_wished : Int32} {mod_bestMany : Int32} {mod_bestRow : Int32} {mod_ringDigits : Int32} {mod_traces : Int32} {mod_holds : Nat → Int32} {mod_size : Nat → Int32} {x1 x2 x3 x4 x5 : Int32} (h1 : 0 ≤ x1.toInt ∧ x1.toInt ≤ 5) (h2 : 0 ≤ x2.toInt ∧ x2.toInt ≤ 60) (h3 : 0 ≤ x3.toInt ∧ x3.toInt ≤ 5) (h4 : 0 ≤ x4.toInt ∧ x4.toInt ≤ 60) (h5 : 0 ≤ x5.toInt ∧ x5.toInt ≤ 60) : ∀ (n : Nat) (x6 : Int32) (mod_elements mod_shifted : Nat → Int64) (Q : Int32 × (Nat → Int64) × (Nat → Int64)), 0 ≤ x6.toInt → x6.toInt ≤ x5.toInt → (∀ k, k < x6.toInt.toNat → mod_shifted k = mod_elements (60 * x1.toInt.toNat + x2.toInt.toNat + k)) → (G_X12_shift mod_code court_shoeCount mod_claims ts at_ f court_suitCount mod_doneMany mod_undoneMany mod_open mod_laid mod_isBoth mod_wished mod_bestMany mod_bestRow mod_ringDigits mod_traces mod_holds mod_size n).1 x1 x2 x3 x4 x5 x6 mod_elements mod_shifted = some Q → Q.1 = x5 ∧ ∀ k, Q.2.1 k = if 60 * x3.toInt.toNat + x4.toInt.toNat ≤ k ∧ k < 60 * x3.toInt.toNat + x4.toInt.toNat + x5.toInt.toNat then mod_elements (60 * x1.toInt.toNat + x2.toInt.toNat + (k - (60 * x3.toInt.toNat + x4.toInt.toNat))) else mod_elements k := by
  intro n
  induction n with
  | zero =>
    intro x6 mod_elements mod_shifted Q _ _ _ h
    cases h
  | succ n ih =>
    intro x6 mod_elements mod_shifted Q h6 h7 hs h
    replace h : B_X12_shift_113 ((G_X12_shift mod_code court_shoeCount mod_claims ts at_ f court_suitCount mod_doneMany mod_undoneMany mod_open mod_laid mod_isBoth mod_wished mod_bestMany mod_bestRow mod_ringDigits mod_traces mod_holds mod_size n).1) ((G_X12_shift mod_code court_shoeCount mod_claims ts at_ f court_suitCount mod_doneMany mod_undoneMany mod_open mod_laid mod_isBoth mod_wished mod_bestMany mod_bestRow mod_ringDigits mod_traces mod_holds mod_size n).2) mod_code court_shoeCount mod_claims ts at_ f court_suitCount mod_doneMany mod_undoneMany mod_open mod_laid mod_isBoth mod_wished mod_bestMany mod_bestRow mod_ringDigits mod_traces mod_holds mod_size x1 x2 x3 x4 x5 x6 mod_elements mod_shifted = some Q := h
    unfold B_X12_shift_113 at h
    by_cases c : x5 ≤ x6
    · replace h := zk_t c h
      rw [i32_le] at c
      obtain ⟨q1, q2⟩ := sh150 h3 h4 h5 n _ _ _ Q (by decide) (by rw [z32_0]; omega) h
      refine ⟨q1, fun k => ?_⟩
      rw [q2 k, z32_0]
      by_cases c2 : 60 * x3.toInt.toNat + x4.toInt.toNat ≤ k ∧ k < 60 * x3.toInt.toNat + x4.toInt.toNat + x5.toInt.toNat
      · rw [if_pos c2, if_pos (by omega), hs _ (by omega)]
      · rw [if_neg c2, if_neg (by omega)]
    · replace h := zk_f c h
      rw [i32_le] at c
      replace h := zk_gd h
      obtain ⟨_, h⟩ := h
      replace h := zk_lt h
      obtain ⟨f1, e1, h⟩ := h
      replace h := zk_gd h
      obtain ⟨_, h⟩ := h
      replace h := zk_lt h
      obtain ⟨f2, e2, h⟩ := h
      replace h := zk_lt h
      obtain ⟨f3, e3, h⟩ := h
      subst e1
      subst e2
      subst e3
      have s3 := i32_s (a := x6) (by omega)
      have e6 : x6.toNatClampNeg = x6.toInt.toNat := rfl
      refine ih _ _ _ Q (by omega) (by omega) (fun k hk => ?_) h
      rw [ix603 h1 (by omega) (by omega)]
      unfold vp_updL
      by_cases ck : k = x6.toNatClampNeg
      · rw [if_pos ck, ck, e6]
      · rw [if_neg ck]
        exact hs k (by omega)
set_option maxHeartbeats 4000000 in
set_option maxRecDepth 20000 in
theorem pw_shiftB {mod_code : Int32} {court_shoeCount : Int32} {mod_claims : Int32} {ts : Int32} {at_ : Int32} {f : Int32} {court_suitCount : Int32} {mod_doneMany : Int32} {mod_undoneMany : Int32} {mod_open : Int32} {mod_laid : Int32} {mod_isBoth : Int32} {mod_wished : Int32} {mod_bestMany : Int32} {mod_bestRow : Int32} {mod_ringDigits : Int32} {mod_traces : Int32} {mod_holds : Nat → Int32} {mod_size : Nat → Int32} {mod_elements : Nat → Int64} {mod_shifted : Nat → Int64} {pl_suit : Int32} {pl_holds : Int32} {pl_size : Int32} {pl_elements : Nat → Int64} {root_places : Nat → Option Nat} {pm_holds : Int32} {pm_suit : Int32} {pm_size : Int32} {pm_elements : Nat → Int64} {m : Nat} {x1 x2 x3 x4 x5 : Int32} {j jt h_pl h_pm : Nat} (hj : (¬ x1 < 0 ∧ ¬ 6 ≤ x1) → x1.toNatClampNeg = j) (hjt : (¬ x3 < 0 ∧ ¬ 6 ≤ x3) → x3.toNatClampNeg = jt) (hP : PLR court_suitCount j pl_holds pl_suit pl_size pl_elements mod_holds mod_size mod_elements) (hP2 : PLR court_suitCount jt pm_holds pm_suit pm_size pm_elements mod_holds mod_size mod_elements) {R : Int32 × (Nat → Int64)} {Q : Int32 × (Nat → Int64) × (Nat → Int64)} (h : f_X11_shiftB h_pl h_pm x1 x2 x3 x4 x5 root_places pl_holds pl_suit pl_size pl_elements pm_holds pm_suit pm_size pm_elements = some R) (k : f_X12_shift m x1 x2 x3 x4 x5 mod_code court_shoeCount mod_claims ts at_ f court_suitCount mod_doneMany mod_undoneMany mod_open mod_laid mod_isBoth mod_wished mod_bestMany mod_bestRow mod_ringDigits mod_traces mod_holds mod_size mod_elements mod_shifted = some Q) : R.1 = Q.1 ∧ PLR court_suitCount jt pm_holds pm_suit pm_size R.2 mod_holds mod_size Q.2.1 ∧ (∀ i, (i < 60 * jt ∨ 60 * jt + 60 ≤ i) → Q.2.1 i = mod_elements i) := by
  have hsb1 : 0 ≤ pl_size.toInt → pl_size.toInt ≤ 60 → 0 ≤ x2.toInt → x2.toInt ≤ 60 → (pl_size - x2).toInt = pl_size.toInt - x2.toInt := fun _ _ q1 q2 => i32_d (by omega) (by omega)
  have hsb2 : 0 ≤ pm_size.toInt → pm_size.toInt ≤ 60 → 0 ≤ x4.toInt → x4.toInt ≤ 60 → (pm_size - x4).toInt = pm_size.toInt - x4.toInt := fun _ _ q1 q2 => i32_d (by omega) (by omega)
  have hsz01 := hP.1
  have hsz02 := hP2.1
  unfold f_X11_shiftB at h
  unfold f_X12_shift at k
  unfold B_X11_shiftB_0 at h
  replace h := zk_o2 h
  obtain ⟨cv1, cv2, ch3, h⟩ := h
  unfold f_X11_placeAt at ch3
  unfold B_X11_placeAt_0 at ch3
  by_cases cc4 : x1 < 0
  · have ch3 := zk_t cc4 ch3
    have cc4n := cc4
    (try simp only [i32_lt, i32_le, i32_e, z32_0, z32_1] at cc4n)
    first
    | (exfalso; omega)
    | simp only [Option.some.injEq, Prod.mk.injEq] at ch3
      obtain ⟨rfl, _⟩ := ch3
      replace h := zk_f (by decide) h
      replace h := zk_o2 h
      obtain ⟨cv5, cv6, ch7, h⟩ := h
      unfold f_X11_placeAt at ch7
      unfold B_X11_placeAt_0 at ch7
      by_cases cc8 : x3 < 0
      · have ch7 := zk_t cc8 ch7
        have cc8n := cc8
        (try simp only [i32_lt, i32_le, i32_e, z32_0, z32_1] at cc8n)
        first
        | (exfalso; omega)
        | simp only [Option.some.injEq, Prod.mk.injEq] at ch7
          obtain ⟨rfl, _⟩ := ch7
          replace h := zk_f (by decide) h
          unfold B_X12_shift_0 at k
          replace k := zk_o2 k
          obtain ⟨mv1, mv2, mh3, k⟩ := k
          unfold f_X12_isShelf at mh3
          unfold B_X12_isShelf_0 at mh3
          obtain ⟨mv4, mv5, mh6, mh3⟩ := zk_o2 mh3
          unfold f_X12_in at mh6
          unfold B_X12_in_0 at mh6
          have mh6 := zk_t cc4 mh6
          simp only [Option.some.injEq, Prod.mk.injEq] at mh6
          obtain ⟨rfl, _⟩ := mh6
          obtain ⟨_, mh3⟩ := zk_gd mh3
          simp only [Option.some.injEq, Prod.mk.injEq] at mh3
          obtain ⟨rfl, _⟩ := mh3
          replace k := zk_t rfl k
          replace h := Option.some.inj h
          replace k := Option.some.inj k
          subst h
          subst k
          try dsimp only
          all_goals first
          | exact ⟨rfl, hP2, fun i hi => rfl⟩
          | (exfalso; omega)
      · have ch7 := zk_f cc8 ch7
        have cc8n := cc8
        (try simp only [i32_lt, i32_le, i32_e, z32_0, z32_1] at cc8n)
        first
        | (exfalso; omega)
        | by_cases cc9 : (6 : Int32) ≤ x3
          · have ch7 := zk_t cc9 ch7
            have cc9n := cc9
            (try simp only [i32_lt, i32_le, i32_e, z32_0, z32_1, z32L_6] at cc9n)
            first
            | (exfalso; omega)
            | simp only [Option.some.injEq, Prod.mk.injEq] at ch7
              obtain ⟨rfl, _⟩ := ch7
              replace h := zk_f (by decide) h
              unfold B_X12_shift_0 at k
              replace k := zk_o2 k
              obtain ⟨mv7, mv8, mh9, k⟩ := k
              unfold f_X12_isShelf at mh9
              unfold B_X12_isShelf_0 at mh9
              obtain ⟨mv10, mv11, mh12, mh9⟩ := zk_o2 mh9
              unfold f_X12_in at mh12
              unfold B_X12_in_0 at mh12
              have mh12 := zk_t cc4 mh12
              simp only [Option.some.injEq, Prod.mk.injEq] at mh12
              obtain ⟨rfl, _⟩ := mh12
              obtain ⟨_, mh9⟩ := zk_gd mh9
              simp only [Option.some.injEq, Prod.mk.injEq] at mh9
              obtain ⟨rfl, _⟩ := mh9
              replace k := zk_t rfl k
              replace h := Option.some.inj h
              replace k := Option.some.inj k
              subst h
              subst k
              try dsimp only
              all_goals first
              | exact ⟨rfl, hP2, fun i hi => rfl⟩
              | (exfalso; omega)
          · have ch7 := zk_f cc9 ch7
            have cc9n := cc9
            (try simp only [i32_lt, i32_le, i32_e, z32_0, z32_1, z32L_6] at cc9n)
            first
            | (exfalso; omega)
            | obtain ⟨_, ch7⟩ := zk_gd ch7
              obtain ⟨_, ch7⟩ := zk_gd ch7
              simp only [Option.some.injEq, Prod.mk.injEq] at ch7
              obtain ⟨rfl, _⟩ := ch7
              replace h := zk_t (by decide) h
              unfold B_X12_shift_0 at k
              replace k := zk_o2 k
              obtain ⟨mv13, mv14, mh15, k⟩ := k
              unfold f_X12_isShelf at mh15
              unfold B_X12_isShelf_0 at mh15
              obtain ⟨mv16, mv17, mh18, mh15⟩ := zk_o2 mh15
              unfold f_X12_in at mh18
              unfold B_X12_in_0 at mh18
              have mh18 := zk_t cc4 mh18
              simp only [Option.some.injEq, Prod.mk.injEq] at mh18
              obtain ⟨rfl, _⟩ := mh18
              obtain ⟨_, mh15⟩ := zk_gd mh15
              simp only [Option.some.injEq, Prod.mk.injEq] at mh15
              obtain ⟨rfl, _⟩ := mh15
              replace k := zk_t rfl k
              replace h := Option.some.inj h
              replace k := Option.some.inj k
              subst h
              subst k
              try dsimp only
              all_goals first
              | exact ⟨rfl, hP2, fun i hi => rfl⟩
              | (exfalso; omega)
  · have ch3 := zk_f cc4 ch3
    have cc4n := cc4
    (try simp only [i32_lt, i32_le, i32_e, z32_0, z32_1] at cc4n)
    first
    | (exfalso; omega)
    | by_cases cc10 : (6 : Int32) ≤ x1
      · have ch3 := zk_t cc10 ch3
        have cc10n := cc10
        (try simp only [i32_lt, i32_le, i32_e, z32_0, z32_1, z32L_6] at cc10n)
        first
        | (exfalso; omega)
        | simp only [Option.some.injEq, Prod.mk.injEq] at ch3
          obtain ⟨rfl, _⟩ := ch3
          replace h := zk_f (by decide) h
          replace h := zk_o2 h
          obtain ⟨cv11, cv12, ch13, h⟩ := h
          unfold f_X11_placeAt at ch13
          unfold B_X11_placeAt_0 at ch13
          by_cases cc14 : x3 < 0
          · have ch13 := zk_t cc14 ch13
            have cc14n := cc14
            (try simp only [i32_lt, i32_le, i32_e, z32_0, z32_1] at cc14n)
            first
            | (exfalso; omega)
            | simp only [Option.some.injEq, Prod.mk.injEq] at ch13
              obtain ⟨rfl, _⟩ := ch13
              replace h := zk_f (by decide) h
              unfold B_X12_shift_0 at k
              replace k := zk_o2 k
              obtain ⟨mv19, mv20, mh21, k⟩ := k
              unfold f_X12_isShelf at mh21
              unfold B_X12_isShelf_0 at mh21
              obtain ⟨mv22, mv23, mh24, mh21⟩ := zk_o2 mh21
              unfold f_X12_in at mh24
              unfold B_X12_in_0 at mh24
              have mh24 := zk_f cc4 mh24
              have mh24 := zk_t (by (try simp only [i32_lt, i32_le, i32_e, z32_0, z32_1, z32L_5]); omega) mh24
              simp only [Option.some.injEq, Prod.mk.injEq] at mh24
              obtain ⟨rfl, _⟩ := mh24
              obtain ⟨_, mh21⟩ := zk_gd mh21
              simp only [Option.some.injEq, Prod.mk.injEq] at mh21
              obtain ⟨rfl, _⟩ := mh21
              replace k := zk_t rfl k
              replace h := Option.some.inj h
              replace k := Option.some.inj k
              subst h
              subst k
              try dsimp only
              all_goals first
              | exact ⟨rfl, hP2, fun i hi => rfl⟩
              | (exfalso; omega)
          · have ch13 := zk_f cc14 ch13
            have cc14n := cc14
            (try simp only [i32_lt, i32_le, i32_e, z32_0, z32_1] at cc14n)
            first
            | (exfalso; omega)
            | by_cases cc15 : (6 : Int32) ≤ x3
              · have ch13 := zk_t cc15 ch13
                have cc15n := cc15
                (try simp only [i32_lt, i32_le, i32_e, z32_0, z32_1, z32L_6] at cc15n)
                first
                | (exfalso; omega)
                | simp only [Option.some.injEq, Prod.mk.injEq] at ch13
                  obtain ⟨rfl, _⟩ := ch13
                  replace h := zk_f (by decide) h
                  unfold B_X12_shift_0 at k
                  replace k := zk_o2 k
                  obtain ⟨mv25, mv26, mh27, k⟩ := k
                  unfold f_X12_isShelf at mh27
                  unfold B_X12_isShelf_0 at mh27
                  obtain ⟨mv28, mv29, mh30, mh27⟩ := zk_o2 mh27
                  unfold f_X12_in at mh30
                  unfold B_X12_in_0 at mh30
                  have mh30 := zk_f cc4 mh30
                  have mh30 := zk_t (by (try simp only [i32_lt, i32_le, i32_e, z32_0, z32_1, z32L_5]); omega) mh30
                  simp only [Option.some.injEq, Prod.mk.injEq] at mh30
                  obtain ⟨rfl, _⟩ := mh30
                  obtain ⟨_, mh27⟩ := zk_gd mh27
                  simp only [Option.some.injEq, Prod.mk.injEq] at mh27
                  obtain ⟨rfl, _⟩ := mh27
                  replace k := zk_t rfl k
                  replace h := Option.some.inj h
                  replace k := Option.some.inj k
                  subst h
                  subst k
                  try dsimp only
                  all_goals first
                  | exact ⟨rfl, hP2, fun i hi => rfl⟩
                  | (exfalso; omega)
              · have ch13 := zk_f cc15 ch13
                have cc15n := cc15
                (try simp only [i32_lt, i32_le, i32_e, z32_0, z32_1, z32L_6] at cc15n)
                first
                | (exfalso; omega)
                | obtain ⟨_, ch13⟩ := zk_gd ch13
                  obtain ⟨_, ch13⟩ := zk_gd ch13
                  simp only [Option.some.injEq, Prod.mk.injEq] at ch13
                  obtain ⟨rfl, _⟩ := ch13
                  replace h := zk_t (by decide) h
                  unfold B_X12_shift_0 at k
                  replace k := zk_o2 k
                  obtain ⟨mv31, mv32, mh33, k⟩ := k
                  unfold f_X12_isShelf at mh33
                  unfold B_X12_isShelf_0 at mh33
                  obtain ⟨mv34, mv35, mh36, mh33⟩ := zk_o2 mh33
                  unfold f_X12_in at mh36
                  unfold B_X12_in_0 at mh36
                  have mh36 := zk_f cc4 mh36
                  have mh36 := zk_t (by (try simp only [i32_lt, i32_le, i32_e, z32_0, z32_1, z32L_5]); omega) mh36
                  simp only [Option.some.injEq, Prod.mk.injEq] at mh36
                  obtain ⟨rfl, _⟩ := mh36
                  obtain ⟨_, mh33⟩ := zk_gd mh33
                  simp only [Option.some.injEq, Prod.mk.injEq] at mh33
                  obtain ⟨rfl, _⟩ := mh33
                  replace k := zk_t rfl k
                  replace h := Option.some.inj h
                  replace k := Option.some.inj k
                  subst h
                  subst k
                  try dsimp only
                  all_goals first
                  | exact ⟨rfl, hP2, fun i hi => rfl⟩
                  | (exfalso; omega)
      · have ch3 := zk_f cc10 ch3
        have cc10n := cc10
        (try simp only [i32_lt, i32_le, i32_e, z32_0, z32_1, z32L_6] at cc10n)
        first
        | (exfalso; omega)
        | obtain ⟨_, ch3⟩ := zk_gd ch3
          obtain ⟨_, ch3⟩ := zk_gd ch3
          simp only [Option.some.injEq, Prod.mk.injEq] at ch3
          obtain ⟨rfl, _⟩ := ch3
          replace h := zk_t (by decide) h
          replace h := zk_o2 h
          obtain ⟨cv16, cv17, ch18, h⟩ := h
          unfold f_X11_placeAt at ch18
          unfold B_X11_placeAt_0 at ch18
          by_cases cc19 : x3 < 0
          · have ch18 := zk_t cc19 ch18
            have cc19n := cc19
            (try simp only [i32_lt, i32_le, i32_e, z32_0, z32_1] at cc19n)
            first
            | (exfalso; omega)
            | simp only [Option.some.injEq, Prod.mk.injEq] at ch18
              obtain ⟨rfl, _⟩ := ch18
              replace h := zk_f (by decide) h
              unfold B_X12_shift_0 at k
              replace k := zk_o2 k
              obtain ⟨mv37, mv38, mh39, k⟩ := k
              unfold f_X12_isShelf at mh39
              unfold B_X12_isShelf_0 at mh39
              obtain ⟨mv40, mv41, mh42, mh39⟩ := zk_o2 mh39
              unfold f_X12_in at mh42
              unfold B_X12_in_0 at mh42
              have mh42 := zk_f cc4 mh42
              have mh42 := zk_f (by (try simp only [i32_lt, i32_le, i32_e, z32_0, z32_1, z32L_5]); omega) mh42
              simp only [Option.some.injEq, Prod.mk.injEq] at mh42
              obtain ⟨rfl, _⟩ := mh42
              obtain ⟨_, mh39⟩ := zk_gd mh39
              simp only [Option.some.injEq, Prod.mk.injEq] at mh39
              obtain ⟨rfl, _⟩ := mh39
              replace k := zk_f (by decide) k
              replace k := zk_o2 k
              obtain ⟨mv43, mv44, mh45, k⟩ := k
              unfold f_X12_isShelf at mh45
              unfold B_X12_isShelf_0 at mh45
              obtain ⟨mv46, mv47, mh48, mh45⟩ := zk_o2 mh45
              unfold f_X12_in at mh48
              unfold B_X12_in_0 at mh48
              have mh48 := zk_t cc19 mh48
              simp only [Option.some.injEq, Prod.mk.injEq] at mh48
              obtain ⟨rfl, _⟩ := mh48
              obtain ⟨_, mh45⟩ := zk_gd mh45
              simp only [Option.some.injEq, Prod.mk.injEq] at mh45
              obtain ⟨rfl, _⟩ := mh45
              replace k := zk_t rfl k
              replace h := Option.some.inj h
              replace k := Option.some.inj k
              subst h
              subst k
              try dsimp only
              all_goals first
              | exact ⟨rfl, hP2, fun i hi => rfl⟩
              | (exfalso; omega)
          · have ch18 := zk_f cc19 ch18
            have cc19n := cc19
            (try simp only [i32_lt, i32_le, i32_e, z32_0, z32_1] at cc19n)
            first
            | (exfalso; omega)
            | by_cases cc20 : (6 : Int32) ≤ x3
              · have ch18 := zk_t cc20 ch18
                have cc20n := cc20
                (try simp only [i32_lt, i32_le, i32_e, z32_0, z32_1, z32L_6] at cc20n)
                first
                | (exfalso; omega)
                | simp only [Option.some.injEq, Prod.mk.injEq] at ch18
                  obtain ⟨rfl, _⟩ := ch18
                  replace h := zk_f (by decide) h
                  unfold B_X12_shift_0 at k
                  replace k := zk_o2 k
                  obtain ⟨mv49, mv50, mh51, k⟩ := k
                  unfold f_X12_isShelf at mh51
                  unfold B_X12_isShelf_0 at mh51
                  obtain ⟨mv52, mv53, mh54, mh51⟩ := zk_o2 mh51
                  unfold f_X12_in at mh54
                  unfold B_X12_in_0 at mh54
                  have mh54 := zk_f cc4 mh54
                  have mh54 := zk_f (by (try simp only [i32_lt, i32_le, i32_e, z32_0, z32_1, z32L_5]); omega) mh54
                  simp only [Option.some.injEq, Prod.mk.injEq] at mh54
                  obtain ⟨rfl, _⟩ := mh54
                  obtain ⟨_, mh51⟩ := zk_gd mh51
                  simp only [Option.some.injEq, Prod.mk.injEq] at mh51
                  obtain ⟨rfl, _⟩ := mh51
                  replace k := zk_f (by decide) k
                  replace k := zk_o2 k
                  obtain ⟨mv55, mv56, mh57, k⟩ := k
                  unfold f_X12_isShelf at mh57
                  unfold B_X12_isShelf_0 at mh57
                  obtain ⟨mv58, mv59, mh60, mh57⟩ := zk_o2 mh57
                  unfold f_X12_in at mh60
                  unfold B_X12_in_0 at mh60
                  have mh60 := zk_f cc19 mh60
                  have mh60 := zk_t (by (try simp only [i32_lt, i32_le, i32_e, z32_0, z32_1, z32L_5]); omega) mh60
                  simp only [Option.some.injEq, Prod.mk.injEq] at mh60
                  obtain ⟨rfl, _⟩ := mh60
                  obtain ⟨_, mh57⟩ := zk_gd mh57
                  simp only [Option.some.injEq, Prod.mk.injEq] at mh57
                  obtain ⟨rfl, _⟩ := mh57
                  replace k := zk_t rfl k
                  replace h := Option.some.inj h
                  replace k := Option.some.inj k
                  subst h
                  subst k
                  try dsimp only
                  all_goals first
                  | exact ⟨rfl, hP2, fun i hi => rfl⟩
                  | (exfalso; omega)
              · have ch18 := zk_f cc20 ch18
                have cc20n := cc20
                (try simp only [i32_lt, i32_le, i32_e, z32_0, z32_1, z32L_6] at cc20n)
                first
                | (exfalso; omega)
                | obtain ⟨_, ch18⟩ := zk_gd ch18
                  obtain ⟨_, ch18⟩ := zk_gd ch18
                  simp only [Option.some.injEq, Prod.mk.injEq] at ch18
                  obtain ⟨rfl, _⟩ := ch18
                  replace h := zk_t (by decide) h
                  by_cases cc21 : pl_holds = (-1 : Int32)
                  · replace h := zk_t cc21 h
                    have cc21n := cc21
                    (try simp only [i32_lt, i32_le, i32_e, z32_0, z32_1, z32N_1] at cc21n)
                    first
                    | (exfalso; omega)
                    | have hjj1 := hj ⟨cc4, cc10⟩
                      subst hjj1
                      obtain ⟨⟨hs11, hs21, hs31⟩, he1, hd1⟩ := id hP
                      have hx5 : 0 ≤ x1.toInt ∧ x1.toInt ≤ 5 := by
                        have q1 := cc4
                        have q2 := cc10
                        rw [i32_lt, z32_0] at q1
                        rw [i32_le, z32L_6] at q2
                        omega
                      have hsz1 : (mod_size x1.toNatClampNeg).toInt = pl_size.toInt := by rw [hs11]
                      have hq1 : 0 ≤ x5.toInt → (mod_size x1.toNatClampNeg - x5).toInt = (mod_size x1.toNatClampNeg).toInt - x5.toInt := fun q => i32_dd (by omega) q
                      have hjj2 := hjt ⟨cc19, cc20⟩
                      subst hjj2
                      obtain ⟨⟨hs12, hs22, hs32⟩, he2, hd2⟩ := id hP2
                      have hx7 : 0 ≤ x3.toInt ∧ x3.toInt ≤ 5 := by
                        have q1 := cc19
                        have q2 := cc20
                        rw [i32_lt, z32_0] at q1
                        rw [i32_le, z32L_6] at q2
                        omega
                      have hsz2 : (mod_size x3.toNatClampNeg).toInt = pm_size.toInt := by rw [hs12]
                      have hq2 : 0 ≤ x5.toInt → (mod_size x3.toNatClampNeg - x5).toInt = (mod_size x3.toNatClampNeg).toInt - x5.toInt := fun q => i32_dd (by omega) q
                      unfold B_X12_shift_0 at k
                      replace k := zk_o2 k
                      obtain ⟨mv61, mv62, mh63, k⟩ := k
                      unfold f_X12_isShelf at mh63
                      unfold B_X12_isShelf_0 at mh63
                      obtain ⟨mv64, mv65, mh66, mh63⟩ := zk_o2 mh63
                      unfold f_X12_in at mh66
                      unfold B_X12_in_0 at mh66
                      have mh66 := zk_f cc4 mh66
                      have mh66 := zk_f (by (try simp only [i32_lt, i32_le, i32_e, z32_0, z32_1, z32L_5]); omega) mh66
                      simp only [Option.some.injEq, Prod.mk.injEq] at mh66
                      obtain ⟨rfl, _⟩ := mh66
                      obtain ⟨_, mh63⟩ := zk_gd mh63
                      simp only [Option.some.injEq, Prod.mk.injEq] at mh63
                      obtain ⟨rfl, _⟩ := mh63
                      replace k := zk_f (by decide) k
                      replace k := zk_o2 k
                      obtain ⟨mv67, mv68, mh69, k⟩ := k
                      unfold f_X12_isShelf at mh69
                      unfold B_X12_isShelf_0 at mh69
                      obtain ⟨mv70, mv71, mh72, mh69⟩ := zk_o2 mh69
                      unfold f_X12_in at mh72
                      unfold B_X12_in_0 at mh72
                      have mh72 := zk_f cc19 mh72
                      have mh72 := zk_f (by (try simp only [i32_lt, i32_le, i32_e, z32_0, z32_1, z32L_5]); omega) mh72
                      simp only [Option.some.injEq, Prod.mk.injEq] at mh72
                      obtain ⟨rfl, _⟩ := mh72
                      obtain ⟨_, mh69⟩ := zk_gd mh69
                      simp only [Option.some.injEq, Prod.mk.injEq] at mh69
                      obtain ⟨rfl, _⟩ := mh69
                      replace k := zk_f (by decide) k
                      replace k := zk_gd k
                      obtain ⟨_, k⟩ := k
                      by_cases mc73 : (mod_holds x1.toNatClampNeg) = (-1 : Int32)
                      · replace k := zk_t mc73 k
                        have mc73n := mc73
                        (try simp only [i32_lt, i32_le, i32_e, z32_0, z32_1, z32N_1] at mc73n)
                        first
                        | (exfalso; omega)
                        | have h := Option.some.inj h
                          replace k := Option.some.inj k
                          subst h
                          subst k
                          try dsimp only
                          all_goals first
                          | exact ⟨rfl, hP2, fun i hi => rfl⟩
                          | (exfalso; omega)
                      · replace k := zk_f mc73 k
                        have mc73n := mc73
                        (try simp only [i32_lt, i32_le, i32_e, z32_0, z32_1, z32N_1] at mc73n)
                        first
                        | (exfalso; omega)
                        | obtain ⟨_, k⟩ := zk_gd k
                          by_cases mc74 : (mod_holds x3.toNatClampNeg) = (-1 : Int32)
                          · replace k := zk_t mc74 k
                            have mc74n := mc74
                            (try simp only [i32_lt, i32_le, i32_e, z32_0, z32_1, z32N_1] at mc74n)
                            first
                            | (exfalso; omega)
                            | have h := Option.some.inj h
                              replace k := Option.some.inj k
                              subst h
                              subst k
                              try dsimp only
                              all_goals first
                              | exact ⟨rfl, hP2, fun i hi => rfl⟩
                              | (exfalso; omega)
                          · replace k := zk_f mc74 k
                            have mc74n := mc74
                            (try simp only [i32_lt, i32_le, i32_e, z32_0, z32_1, z32N_1] at mc74n)
                            first
                            | (exfalso; omega)
                            | obtain ⟨_, k⟩ := zk_gd k
                              by_cases mc75 : 0 ≤ (mod_holds x1.toNatClampNeg)
                              · replace k := zk_t mc75 k
                                have mc75n := mc75
                                (try simp only [i32_lt, i32_le, i32_e, z32_0, z32_1] at mc75n)
                                first
                                | (exfalso; omega)
                                | have h := Option.some.inj h
                                  replace k := Option.some.inj k
                                  subst h
                                  subst k
                                  try dsimp only
                                  all_goals first
                                  | exact ⟨rfl, hP2, fun i hi => rfl⟩
                                  | (exfalso; omega)
                              · replace k := zk_f mc75 k
                                have mc75n := mc75
                                (try simp only [i32_lt, i32_le, i32_e, z32_0, z32_1] at mc75n)
                                first
                                | (exfalso; omega)
                                | obtain ⟨_, k⟩ := zk_gd k
                                  replace k := zk_gd k
                                  obtain ⟨_, k⟩ := k
                                  by_cases mc76 : (mod_holds x1.toNatClampNeg) = (mod_holds x3.toNatClampNeg)
                                  · replace k := zk_t mc76 k
                                    have mc76n := mc76
                                    (try simp only [i32_lt, i32_le, i32_e, z32_0, z32_1] at mc76n)
                                    first
                                    | (exfalso; omega)
                                    | by_cases mc77 : x5 < 0
                                      · replace k := zk_t mc77 k
                                        have mc77n := mc77
                                        (try simp only [i32_lt, i32_le, i32_e, z32_0, z32_1] at mc77n)
                                        first
                                        | (exfalso; omega)
                                        | have h := Option.some.inj h
                                          replace k := Option.some.inj k
                                          subst h
                                          subst k
                                          try dsimp only
                                          all_goals first
                                          | exact ⟨rfl, hP2, fun i hi => rfl⟩
                                          | (exfalso; omega)
                                      · replace k := zk_f mc77 k
                                        have mc77n := mc77
                                        (try simp only [i32_lt, i32_le, i32_e, z32_0, z32_1] at mc77n)
                                        first
                                        | (exfalso; omega)
                                        | by_cases mc78 : x2 < 0
                                          · replace k := zk_t mc78 k
                                            have mc78n := mc78
                                            (try simp only [i32_lt, i32_le, i32_e, z32_0, z32_1] at mc78n)
                                            first
                                            | (exfalso; omega)
                                            | have h := Option.some.inj h
                                              replace k := Option.some.inj k
                                              subst h
                                              subst k
                                              try dsimp only
                                              all_goals first
                                              | exact ⟨rfl, hP2, fun i hi => rfl⟩
                                              | (exfalso; omega)
                                          · replace k := zk_f mc78 k
                                            have mc78n := mc78
                                            (try simp only [i32_lt, i32_le, i32_e, z32_0, z32_1] at mc78n)
                                            first
                                            | (exfalso; omega)
                                            | by_cases mc79 : x4 < 0
                                              · replace k := zk_t mc79 k
                                                have mc79n := mc79
                                                (try simp only [i32_lt, i32_le, i32_e, z32_0, z32_1] at mc79n)
                                                first
                                                | (exfalso; omega)
                                                | have h := Option.some.inj h
                                                  replace k := Option.some.inj k
                                                  subst h
                                                  subst k
                                                  try dsimp only
                                                  all_goals first
                                                  | exact ⟨rfl, hP2, fun i hi => rfl⟩
                                                  | (exfalso; omega)
                                              · replace k := zk_f mc79 k
                                                have mc79n := mc79
                                                (try simp only [i32_lt, i32_le, i32_e, z32_0, z32_1] at mc79n)
                                                first
                                                | (exfalso; omega)
                                                | obtain ⟨_, k⟩ := zk_gd k
                                                  by_cases mc80 : ((mod_size x1.toNatClampNeg) - x5) < x2
                                                  · replace k := zk_t mc80 k
                                                    have mc80n := mc80
                                                    (try simp only [i32_lt, i32_le, i32_e, z32_0, z32_1] at mc80n)
                                                    first
                                                    | (exfalso; omega)
                                                    | have h := Option.some.inj h
                                                      replace k := Option.some.inj k
                                                      subst h
                                                      subst k
                                                      try dsimp only
                                                      all_goals first
                                                      | exact ⟨rfl, hP2, fun i hi => rfl⟩
                                                      | (exfalso; omega)
                                                  · replace k := zk_f mc80 k
                                                    have mc80n := mc80
                                                    (try simp only [i32_lt, i32_le, i32_e, z32_0, z32_1] at mc80n)
                                                    first
                                                    | (exfalso; omega)
                                                    | obtain ⟨_, k⟩ := zk_gd k
                                                      by_cases mc81 : x4 ≤ ((mod_size x3.toNatClampNeg) - x5)
                                                      · replace k := zk_t mc81 k
                                                        have mc81n := mc81
                                                        (try simp only [i32_lt, i32_le, i32_e, z32_0, z32_1] at mc81n)
                                                        first
                                                        | (exfalso; omega)
                                                        | have h := Option.some.inj h
                                                          subst h
                                                          exfalso
                                                          omega
                                                      · replace k := zk_f mc81 k
                                                        have mc81n := mc81
                                                        (try simp only [i32_lt, i32_le, i32_e, z32_0, z32_1] at mc81n)
                                                        first
                                                        | (exfalso; omega)
                                                        | have h := Option.some.inj h
                                                          replace k := Option.some.inj k
                                                          subst h
                                                          subst k
                                                          try dsimp only
                                                          all_goals first
                                                          | exact ⟨rfl, hP2, fun i hi => rfl⟩
                                                          | (exfalso; omega)
                                  · replace k := zk_f mc76 k
                                    have mc76n := mc76
                                    (try simp only [i32_lt, i32_le, i32_e, z32_0, z32_1] at mc76n)
                                    first
                                    | (exfalso; omega)
                                    | have h := Option.some.inj h
                                      replace k := Option.some.inj k
                                      subst h
                                      subst k
                                      try dsimp only
                                      all_goals first
                                      | exact ⟨rfl, hP2, fun i hi => rfl⟩
                                      | (exfalso; omega)
                  · replace h := zk_f cc21 h
                    have cc21n := cc21
                    (try simp only [i32_lt, i32_le, i32_e, z32_0, z32_1, z32N_1] at cc21n)
                    first
                    | (exfalso; omega)
                    | by_cases cc22 : pm_holds = (-1 : Int32)
                      · replace h := zk_t cc22 h
                        have cc22n := cc22
                        (try simp only [i32_lt, i32_le, i32_e, z32_0, z32_1, z32N_1] at cc22n)
                        first
                        | (exfalso; omega)
                        | have hjj1 := hj ⟨cc4, cc10⟩
                          subst hjj1
                          obtain ⟨⟨hs11, hs21, hs31⟩, he1, hd1⟩ := id hP
                          have hx5 : 0 ≤ x1.toInt ∧ x1.toInt ≤ 5 := by
                            have q1 := cc4
                            have q2 := cc10
                            rw [i32_lt, z32_0] at q1
                            rw [i32_le, z32L_6] at q2
                            omega
                          have hsz1 : (mod_size x1.toNatClampNeg).toInt = pl_size.toInt := by rw [hs11]
                          have hq1 : 0 ≤ x5.toInt → (mod_size x1.toNatClampNeg - x5).toInt = (mod_size x1.toNatClampNeg).toInt - x5.toInt := fun q => i32_dd (by omega) q
                          have hjj2 := hjt ⟨cc19, cc20⟩
                          subst hjj2
                          obtain ⟨⟨hs12, hs22, hs32⟩, he2, hd2⟩ := id hP2
                          have hx7 : 0 ≤ x3.toInt ∧ x3.toInt ≤ 5 := by
                            have q1 := cc19
                            have q2 := cc20
                            rw [i32_lt, z32_0] at q1
                            rw [i32_le, z32L_6] at q2
                            omega
                          have hsz2 : (mod_size x3.toNatClampNeg).toInt = pm_size.toInt := by rw [hs12]
                          have hq2 : 0 ≤ x5.toInt → (mod_size x3.toNatClampNeg - x5).toInt = (mod_size x3.toNatClampNeg).toInt - x5.toInt := fun q => i32_dd (by omega) q
                          unfold B_X12_shift_0 at k
                          replace k := zk_o2 k
                          obtain ⟨mv82, mv83, mh84, k⟩ := k
                          unfold f_X12_isShelf at mh84
                          unfold B_X12_isShelf_0 at mh84
                          obtain ⟨mv85, mv86, mh87, mh84⟩ := zk_o2 mh84
                          unfold f_X12_in at mh87
                          unfold B_X12_in_0 at mh87
                          have mh87 := zk_f cc4 mh87
                          have mh87 := zk_f (by (try simp only [i32_lt, i32_le, i32_e, z32_0, z32_1, z32L_5]); omega) mh87
                          simp only [Option.some.injEq, Prod.mk.injEq] at mh87
                          obtain ⟨rfl, _⟩ := mh87
                          obtain ⟨_, mh84⟩ := zk_gd mh84
                          simp only [Option.some.injEq, Prod.mk.injEq] at mh84
                          obtain ⟨rfl, _⟩ := mh84
                          replace k := zk_f (by decide) k
                          replace k := zk_o2 k
                          obtain ⟨mv88, mv89, mh90, k⟩ := k
                          unfold f_X12_isShelf at mh90
                          unfold B_X12_isShelf_0 at mh90
                          obtain ⟨mv91, mv92, mh93, mh90⟩ := zk_o2 mh90
                          unfold f_X12_in at mh93
                          unfold B_X12_in_0 at mh93
                          have mh93 := zk_f cc19 mh93
                          have mh93 := zk_f (by (try simp only [i32_lt, i32_le, i32_e, z32_0, z32_1, z32L_5]); omega) mh93
                          simp only [Option.some.injEq, Prod.mk.injEq] at mh93
                          obtain ⟨rfl, _⟩ := mh93
                          obtain ⟨_, mh90⟩ := zk_gd mh90
                          simp only [Option.some.injEq, Prod.mk.injEq] at mh90
                          obtain ⟨rfl, _⟩ := mh90
                          replace k := zk_f (by decide) k
                          replace k := zk_gd k
                          obtain ⟨_, k⟩ := k
                          by_cases mc94 : (mod_holds x1.toNatClampNeg) = (-1 : Int32)
                          · replace k := zk_t mc94 k
                            have mc94n := mc94
                            (try simp only [i32_lt, i32_le, i32_e, z32_0, z32_1, z32N_1] at mc94n)
                            first
                            | (exfalso; omega)
                            | have h := Option.some.inj h
                              replace k := Option.some.inj k
                              subst h
                              subst k
                              try dsimp only
                              all_goals first
                              | exact ⟨rfl, hP2, fun i hi => rfl⟩
                              | (exfalso; omega)
                          · replace k := zk_f mc94 k
                            have mc94n := mc94
                            (try simp only [i32_lt, i32_le, i32_e, z32_0, z32_1, z32N_1] at mc94n)
                            first
                            | (exfalso; omega)
                            | obtain ⟨_, k⟩ := zk_gd k
                              by_cases mc95 : (mod_holds x3.toNatClampNeg) = (-1 : Int32)
                              · replace k := zk_t mc95 k
                                have mc95n := mc95
                                (try simp only [i32_lt, i32_le, i32_e, z32_0, z32_1, z32N_1] at mc95n)
                                first
                                | (exfalso; omega)
                                | have h := Option.some.inj h
                                  replace k := Option.some.inj k
                                  subst h
                                  subst k
                                  try dsimp only
                                  all_goals first
                                  | exact ⟨rfl, hP2, fun i hi => rfl⟩
                                  | (exfalso; omega)
                              · replace k := zk_f mc95 k
                                have mc95n := mc95
                                (try simp only [i32_lt, i32_le, i32_e, z32_0, z32_1, z32N_1] at mc95n)
                                first
                                | (exfalso; omega)
                                | obtain ⟨_, k⟩ := zk_gd k
                                  by_cases mc96 : 0 ≤ (mod_holds x1.toNatClampNeg)
                                  · replace k := zk_t mc96 k
                                    have mc96n := mc96
                                    (try simp only [i32_lt, i32_le, i32_e, z32_0, z32_1] at mc96n)
                                    first
                                    | (exfalso; omega)
                                    | have h := Option.some.inj h
                                      replace k := Option.some.inj k
                                      subst h
                                      subst k
                                      try dsimp only
                                      all_goals first
                                      | exact ⟨rfl, hP2, fun i hi => rfl⟩
                                      | (exfalso; omega)
                                  · replace k := zk_f mc96 k
                                    have mc96n := mc96
                                    (try simp only [i32_lt, i32_le, i32_e, z32_0, z32_1] at mc96n)
                                    first
                                    | (exfalso; omega)
                                    | obtain ⟨_, k⟩ := zk_gd k
                                      replace k := zk_gd k
                                      obtain ⟨_, k⟩ := k
                                      by_cases mc97 : (mod_holds x1.toNatClampNeg) = (mod_holds x3.toNatClampNeg)
                                      · replace k := zk_t mc97 k
                                        have mc97n := mc97
                                        (try simp only [i32_lt, i32_le, i32_e, z32_0, z32_1] at mc97n)
                                        first
                                        | (exfalso; omega)
                                        | by_cases mc98 : x5 < 0
                                          · replace k := zk_t mc98 k
                                            have mc98n := mc98
                                            (try simp only [i32_lt, i32_le, i32_e, z32_0, z32_1] at mc98n)
                                            first
                                            | (exfalso; omega)
                                            | have h := Option.some.inj h
                                              replace k := Option.some.inj k
                                              subst h
                                              subst k
                                              try dsimp only
                                              all_goals first
                                              | exact ⟨rfl, hP2, fun i hi => rfl⟩
                                              | (exfalso; omega)
                                          · replace k := zk_f mc98 k
                                            have mc98n := mc98
                                            (try simp only [i32_lt, i32_le, i32_e, z32_0, z32_1] at mc98n)
                                            first
                                            | (exfalso; omega)
                                            | by_cases mc99 : x2 < 0
                                              · replace k := zk_t mc99 k
                                                have mc99n := mc99
                                                (try simp only [i32_lt, i32_le, i32_e, z32_0, z32_1] at mc99n)
                                                first
                                                | (exfalso; omega)
                                                | have h := Option.some.inj h
                                                  replace k := Option.some.inj k
                                                  subst h
                                                  subst k
                                                  try dsimp only
                                                  all_goals first
                                                  | exact ⟨rfl, hP2, fun i hi => rfl⟩
                                                  | (exfalso; omega)
                                              · replace k := zk_f mc99 k
                                                have mc99n := mc99
                                                (try simp only [i32_lt, i32_le, i32_e, z32_0, z32_1] at mc99n)
                                                first
                                                | (exfalso; omega)
                                                | by_cases mc100 : x4 < 0
                                                  · replace k := zk_t mc100 k
                                                    have mc100n := mc100
                                                    (try simp only [i32_lt, i32_le, i32_e, z32_0, z32_1] at mc100n)
                                                    first
                                                    | (exfalso; omega)
                                                    | have h := Option.some.inj h
                                                      replace k := Option.some.inj k
                                                      subst h
                                                      subst k
                                                      try dsimp only
                                                      all_goals first
                                                      | exact ⟨rfl, hP2, fun i hi => rfl⟩
                                                      | (exfalso; omega)
                                                  · replace k := zk_f mc100 k
                                                    have mc100n := mc100
                                                    (try simp only [i32_lt, i32_le, i32_e, z32_0, z32_1] at mc100n)
                                                    first
                                                    | (exfalso; omega)
                                                    | obtain ⟨_, k⟩ := zk_gd k
                                                      by_cases mc101 : ((mod_size x1.toNatClampNeg) - x5) < x2
                                                      · replace k := zk_t mc101 k
                                                        have mc101n := mc101
                                                        (try simp only [i32_lt, i32_le, i32_e, z32_0, z32_1] at mc101n)
                                                        first
                                                        | (exfalso; omega)
                                                        | have h := Option.some.inj h
                                                          replace k := Option.some.inj k
                                                          subst h
                                                          subst k
                                                          try dsimp only
                                                          all_goals first
                                                          | exact ⟨rfl, hP2, fun i hi => rfl⟩
                                                          | (exfalso; omega)
                                                      · replace k := zk_f mc101 k
                                                        have mc101n := mc101
                                                        (try simp only [i32_lt, i32_le, i32_e, z32_0, z32_1] at mc101n)
                                                        first
                                                        | (exfalso; omega)
                                                        | obtain ⟨_, k⟩ := zk_gd k
                                                          by_cases mc102 : x4 ≤ ((mod_size x3.toNatClampNeg) - x5)
                                                          · replace k := zk_t mc102 k
                                                            have mc102n := mc102
                                                            (try simp only [i32_lt, i32_le, i32_e, z32_0, z32_1] at mc102n)
                                                            first
                                                            | (exfalso; omega)
                                                            | have h := Option.some.inj h
                                                              subst h
                                                              exfalso
                                                              omega
                                                          · replace k := zk_f mc102 k
                                                            have mc102n := mc102
                                                            (try simp only [i32_lt, i32_le, i32_e, z32_0, z32_1] at mc102n)
                                                            first
                                                            | (exfalso; omega)
                                                            | have h := Option.some.inj h
                                                              replace k := Option.some.inj k
                                                              subst h
                                                              subst k
                                                              try dsimp only
                                                              all_goals first
                                                              | exact ⟨rfl, hP2, fun i hi => rfl⟩
                                                              | (exfalso; omega)
                                      · replace k := zk_f mc97 k
                                        have mc97n := mc97
                                        (try simp only [i32_lt, i32_le, i32_e, z32_0, z32_1] at mc97n)
                                        first
                                        | (exfalso; omega)
                                        | have h := Option.some.inj h
                                          replace k := Option.some.inj k
                                          subst h
                                          subst k
                                          try dsimp only
                                          all_goals first
                                          | exact ⟨rfl, hP2, fun i hi => rfl⟩
                                          | (exfalso; omega)
                      · replace h := zk_f cc22 h
                        have cc22n := cc22
                        (try simp only [i32_lt, i32_le, i32_e, z32_0, z32_1, z32N_1] at cc22n)
                        first
                        | (exfalso; omega)
                        | by_cases cc23 : pl_holds = (5 : Int32)
                          · replace h := zk_t cc23 h
                            have cc23n := cc23
                            (try simp only [i32_lt, i32_le, i32_e, z32_0, z32_1, z32L_5] at cc23n)
                            first
                            | (exfalso; omega)
                            | have hjj1 := hj ⟨cc4, cc10⟩
                              subst hjj1
                              obtain ⟨⟨hs11, hs21, hs31⟩, he1, hd1⟩ := id hP
                              have hx5 : 0 ≤ x1.toInt ∧ x1.toInt ≤ 5 := by
                                have q1 := cc4
                                have q2 := cc10
                                rw [i32_lt, z32_0] at q1
                                rw [i32_le, z32L_6] at q2
                                omega
                              have hsz1 : (mod_size x1.toNatClampNeg).toInt = pl_size.toInt := by rw [hs11]
                              have hq1 : 0 ≤ x5.toInt → (mod_size x1.toNatClampNeg - x5).toInt = (mod_size x1.toNatClampNeg).toInt - x5.toInt := fun q => i32_dd (by omega) q
                              have hjj2 := hjt ⟨cc19, cc20⟩
                              subst hjj2
                              obtain ⟨⟨hs12, hs22, hs32⟩, he2, hd2⟩ := id hP2
                              have hx7 : 0 ≤ x3.toInt ∧ x3.toInt ≤ 5 := by
                                have q1 := cc19
                                have q2 := cc20
                                rw [i32_lt, z32_0] at q1
                                rw [i32_le, z32L_6] at q2
                                omega
                              have hsz2 : (mod_size x3.toNatClampNeg).toInt = pm_size.toInt := by rw [hs12]
                              have hq2 : 0 ≤ x5.toInt → (mod_size x3.toNatClampNeg - x5).toInt = (mod_size x3.toNatClampNeg).toInt - x5.toInt := fun q => i32_dd (by omega) q
                              unfold B_X12_shift_0 at k
                              replace k := zk_o2 k
                              obtain ⟨mv103, mv104, mh105, k⟩ := k
                              unfold f_X12_isShelf at mh105
                              unfold B_X12_isShelf_0 at mh105
                              obtain ⟨mv106, mv107, mh108, mh105⟩ := zk_o2 mh105
                              unfold f_X12_in at mh108
                              unfold B_X12_in_0 at mh108
                              have mh108 := zk_f cc4 mh108
                              have mh108 := zk_f (by (try simp only [i32_lt, i32_le, i32_e, z32_0, z32_1, z32L_5]); omega) mh108
                              simp only [Option.some.injEq, Prod.mk.injEq] at mh108
                              obtain ⟨rfl, _⟩ := mh108
                              obtain ⟨_, mh105⟩ := zk_gd mh105
                              simp only [Option.some.injEq, Prod.mk.injEq] at mh105
                              obtain ⟨rfl, _⟩ := mh105
                              replace k := zk_f (by decide) k
                              replace k := zk_o2 k
                              obtain ⟨mv109, mv110, mh111, k⟩ := k
                              unfold f_X12_isShelf at mh111
                              unfold B_X12_isShelf_0 at mh111
                              obtain ⟨mv112, mv113, mh114, mh111⟩ := zk_o2 mh111
                              unfold f_X12_in at mh114
                              unfold B_X12_in_0 at mh114
                              have mh114 := zk_f cc19 mh114
                              have mh114 := zk_f (by (try simp only [i32_lt, i32_le, i32_e, z32_0, z32_1, z32L_5]); omega) mh114
                              simp only [Option.some.injEq, Prod.mk.injEq] at mh114
                              obtain ⟨rfl, _⟩ := mh114
                              obtain ⟨_, mh111⟩ := zk_gd mh111
                              simp only [Option.some.injEq, Prod.mk.injEq] at mh111
                              obtain ⟨rfl, _⟩ := mh111
                              replace k := zk_f (by decide) k
                              replace k := zk_gd k
                              obtain ⟨_, k⟩ := k
                              by_cases mc115 : (mod_holds x1.toNatClampNeg) = (-1 : Int32)
                              · replace k := zk_t mc115 k
                                have mc115n := mc115
                                (try simp only [i32_lt, i32_le, i32_e, z32_0, z32_1, z32N_1] at mc115n)
                                first
                                | (exfalso; omega)
                                | have h := Option.some.inj h
                                  replace k := Option.some.inj k
                                  subst h
                                  subst k
                                  try dsimp only
                                  all_goals first
                                  | exact ⟨rfl, hP2, fun i hi => rfl⟩
                                  | (exfalso; omega)
                              · replace k := zk_f mc115 k
                                have mc115n := mc115
                                (try simp only [i32_lt, i32_le, i32_e, z32_0, z32_1, z32N_1] at mc115n)
                                first
                                | (exfalso; omega)
                                | obtain ⟨_, k⟩ := zk_gd k
                                  by_cases mc116 : (mod_holds x3.toNatClampNeg) = (-1 : Int32)
                                  · replace k := zk_t mc116 k
                                    have mc116n := mc116
                                    (try simp only [i32_lt, i32_le, i32_e, z32_0, z32_1, z32N_1] at mc116n)
                                    first
                                    | (exfalso; omega)
                                    | have h := Option.some.inj h
                                      replace k := Option.some.inj k
                                      subst h
                                      subst k
                                      try dsimp only
                                      all_goals first
                                      | exact ⟨rfl, hP2, fun i hi => rfl⟩
                                      | (exfalso; omega)
                                  · replace k := zk_f mc116 k
                                    have mc116n := mc116
                                    (try simp only [i32_lt, i32_le, i32_e, z32_0, z32_1, z32N_1] at mc116n)
                                    first
                                    | (exfalso; omega)
                                    | obtain ⟨_, k⟩ := zk_gd k
                                      by_cases mc117 : 0 ≤ (mod_holds x1.toNatClampNeg)
                                      · replace k := zk_t mc117 k
                                        have mc117n := mc117
                                        (try simp only [i32_lt, i32_le, i32_e, z32_0, z32_1] at mc117n)
                                        first
                                        | (exfalso; omega)
                                        | have h := Option.some.inj h
                                          replace k := Option.some.inj k
                                          subst h
                                          subst k
                                          try dsimp only
                                          all_goals first
                                          | exact ⟨rfl, hP2, fun i hi => rfl⟩
                                          | (exfalso; omega)
                                      · replace k := zk_f mc117 k
                                        have mc117n := mc117
                                        (try simp only [i32_lt, i32_le, i32_e, z32_0, z32_1] at mc117n)
                                        first
                                        | (exfalso; omega)
                                        | obtain ⟨_, k⟩ := zk_gd k
                                          replace k := zk_gd k
                                          obtain ⟨_, k⟩ := k
                                          by_cases mc118 : (mod_holds x1.toNatClampNeg) = (mod_holds x3.toNatClampNeg)
                                          · replace k := zk_t mc118 k
                                            have mc118n := mc118
                                            (try simp only [i32_lt, i32_le, i32_e, z32_0, z32_1] at mc118n)
                                            first
                                            | (exfalso; omega)
                                            | by_cases mc119 : x5 < 0
                                              · replace k := zk_t mc119 k
                                                have mc119n := mc119
                                                (try simp only [i32_lt, i32_le, i32_e, z32_0, z32_1] at mc119n)
                                                first
                                                | (exfalso; omega)
                                                | have h := Option.some.inj h
                                                  replace k := Option.some.inj k
                                                  subst h
                                                  subst k
                                                  try dsimp only
                                                  all_goals first
                                                  | exact ⟨rfl, hP2, fun i hi => rfl⟩
                                                  | (exfalso; omega)
                                              · replace k := zk_f mc119 k
                                                have mc119n := mc119
                                                (try simp only [i32_lt, i32_le, i32_e, z32_0, z32_1] at mc119n)
                                                first
                                                | (exfalso; omega)
                                                | by_cases mc120 : x2 < 0
                                                  · replace k := zk_t mc120 k
                                                    have mc120n := mc120
                                                    (try simp only [i32_lt, i32_le, i32_e, z32_0, z32_1] at mc120n)
                                                    first
                                                    | (exfalso; omega)
                                                    | have h := Option.some.inj h
                                                      replace k := Option.some.inj k
                                                      subst h
                                                      subst k
                                                      try dsimp only
                                                      all_goals first
                                                      | exact ⟨rfl, hP2, fun i hi => rfl⟩
                                                      | (exfalso; omega)
                                                  · replace k := zk_f mc120 k
                                                    have mc120n := mc120
                                                    (try simp only [i32_lt, i32_le, i32_e, z32_0, z32_1] at mc120n)
                                                    first
                                                    | (exfalso; omega)
                                                    | by_cases mc121 : x4 < 0
                                                      · replace k := zk_t mc121 k
                                                        have mc121n := mc121
                                                        (try simp only [i32_lt, i32_le, i32_e, z32_0, z32_1] at mc121n)
                                                        first
                                                        | (exfalso; omega)
                                                        | have h := Option.some.inj h
                                                          replace k := Option.some.inj k
                                                          subst h
                                                          subst k
                                                          try dsimp only
                                                          all_goals first
                                                          | exact ⟨rfl, hP2, fun i hi => rfl⟩
                                                          | (exfalso; omega)
                                                      · replace k := zk_f mc121 k
                                                        have mc121n := mc121
                                                        (try simp only [i32_lt, i32_le, i32_e, z32_0, z32_1] at mc121n)
                                                        first
                                                        | (exfalso; omega)
                                                        | obtain ⟨_, k⟩ := zk_gd k
                                                          by_cases mc122 : ((mod_size x1.toNatClampNeg) - x5) < x2
                                                          · replace k := zk_t mc122 k
                                                            have mc122n := mc122
                                                            (try simp only [i32_lt, i32_le, i32_e, z32_0, z32_1] at mc122n)
                                                            first
                                                            | (exfalso; omega)
                                                            | have h := Option.some.inj h
                                                              replace k := Option.some.inj k
                                                              subst h
                                                              subst k
                                                              try dsimp only
                                                              all_goals first
                                                              | exact ⟨rfl, hP2, fun i hi => rfl⟩
                                                              | (exfalso; omega)
                                                          · replace k := zk_f mc122 k
                                                            have mc122n := mc122
                                                            (try simp only [i32_lt, i32_le, i32_e, z32_0, z32_1] at mc122n)
                                                            first
                                                            | (exfalso; omega)
                                                            | obtain ⟨_, k⟩ := zk_gd k
                                                              by_cases mc123 : x4 ≤ ((mod_size x3.toNatClampNeg) - x5)
                                                              · replace k := zk_t mc123 k
                                                                have mc123n := mc123
                                                                (try simp only [i32_lt, i32_le, i32_e, z32_0, z32_1] at mc123n)
                                                                first
                                                                | (exfalso; omega)
                                                                | have h := Option.some.inj h
                                                                  subst h
                                                                  exfalso
                                                                  omega
                                                              · replace k := zk_f mc123 k
                                                                have mc123n := mc123
                                                                (try simp only [i32_lt, i32_le, i32_e, z32_0, z32_1] at mc123n)
                                                                first
                                                                | (exfalso; omega)
                                                                | have h := Option.some.inj h
                                                                  replace k := Option.some.inj k
                                                                  subst h
                                                                  subst k
                                                                  try dsimp only
                                                                  all_goals first
                                                                  | exact ⟨rfl, hP2, fun i hi => rfl⟩
                                                                  | (exfalso; omega)
                                          · replace k := zk_f mc118 k
                                            have mc118n := mc118
                                            (try simp only [i32_lt, i32_le, i32_e, z32_0, z32_1] at mc118n)
                                            first
                                            | (exfalso; omega)
                                            | have h := Option.some.inj h
                                              replace k := Option.some.inj k
                                              subst h
                                              subst k
                                              try dsimp only
                                              all_goals first
                                              | exact ⟨rfl, hP2, fun i hi => rfl⟩
                                              | (exfalso; omega)
                          · replace h := zk_f cc23 h
                            have cc23n := cc23
                            (try simp only [i32_lt, i32_le, i32_e, z32_0, z32_1, z32L_5] at cc23n)
                            first
                            | (exfalso; omega)
                            | by_cases cc24 : pl_holds = pm_holds
                              · replace h := zk_t cc24 h
                                have cc24n := cc24
                                (try simp only [i32_lt, i32_le, i32_e, z32_0, z32_1] at cc24n)
                                first
                                | (exfalso; omega)
                                | obtain ⟨cv25, cv26, ch27, h⟩ := zk_o2 h
                                  unfold f_X6_hasRange at ch27
                                  unfold B_X6_hasRange_0 at ch27
                                  by_cases cc28 : x2 < 0
                                  · have ch27 := zk_t cc28 ch27
                                    have cc28n := cc28
                                    (try simp only [i32_lt, i32_le, i32_e, z32_0, z32_1] at cc28n)
                                    first
                                    | (exfalso; omega)
                                    | simp only [Option.some.injEq, Prod.mk.injEq] at ch27
                                      obtain ⟨rfl, _⟩ := ch27
                                      replace h := zk_t rfl h
                                      have hjj1 := hj ⟨cc4, cc10⟩
                                      subst hjj1
                                      obtain ⟨⟨hs11, hs21, hs31⟩, he1, hd1⟩ := id hP
                                      have hx5 : 0 ≤ x1.toInt ∧ x1.toInt ≤ 5 := by
                                        have q1 := cc4
                                        have q2 := cc10
                                        rw [i32_lt, z32_0] at q1
                                        rw [i32_le, z32L_6] at q2
                                        omega
                                      have hsz1 : (mod_size x1.toNatClampNeg).toInt = pl_size.toInt := by rw [hs11]
                                      have hq1 : 0 ≤ x5.toInt → (mod_size x1.toNatClampNeg - x5).toInt = (mod_size x1.toNatClampNeg).toInt - x5.toInt := fun q => i32_dd (by omega) q
                                      have hjj2 := hjt ⟨cc19, cc20⟩
                                      subst hjj2
                                      obtain ⟨⟨hs12, hs22, hs32⟩, he2, hd2⟩ := id hP2
                                      have hx7 : 0 ≤ x3.toInt ∧ x3.toInt ≤ 5 := by
                                        have q1 := cc19
                                        have q2 := cc20
                                        rw [i32_lt, z32_0] at q1
                                        rw [i32_le, z32L_6] at q2
                                        omega
                                      have hsz2 : (mod_size x3.toNatClampNeg).toInt = pm_size.toInt := by rw [hs12]
                                      have hq2 : 0 ≤ x5.toInt → (mod_size x3.toNatClampNeg - x5).toInt = (mod_size x3.toNatClampNeg).toInt - x5.toInt := fun q => i32_dd (by omega) q
                                      unfold B_X12_shift_0 at k
                                      replace k := zk_o2 k
                                      obtain ⟨mv124, mv125, mh126, k⟩ := k
                                      unfold f_X12_isShelf at mh126
                                      unfold B_X12_isShelf_0 at mh126
                                      obtain ⟨mv127, mv128, mh129, mh126⟩ := zk_o2 mh126
                                      unfold f_X12_in at mh129
                                      unfold B_X12_in_0 at mh129
                                      have mh129 := zk_f cc4 mh129
                                      have mh129 := zk_f (by (try simp only [i32_lt, i32_le, i32_e, z32_0, z32_1, z32L_5]); omega) mh129
                                      simp only [Option.some.injEq, Prod.mk.injEq] at mh129
                                      obtain ⟨rfl, _⟩ := mh129
                                      obtain ⟨_, mh126⟩ := zk_gd mh126
                                      simp only [Option.some.injEq, Prod.mk.injEq] at mh126
                                      obtain ⟨rfl, _⟩ := mh126
                                      replace k := zk_f (by decide) k
                                      replace k := zk_o2 k
                                      obtain ⟨mv130, mv131, mh132, k⟩ := k
                                      unfold f_X12_isShelf at mh132
                                      unfold B_X12_isShelf_0 at mh132
                                      obtain ⟨mv133, mv134, mh135, mh132⟩ := zk_o2 mh132
                                      unfold f_X12_in at mh135
                                      unfold B_X12_in_0 at mh135
                                      have mh135 := zk_f cc19 mh135
                                      have mh135 := zk_f (by (try simp only [i32_lt, i32_le, i32_e, z32_0, z32_1, z32L_5]); omega) mh135
                                      simp only [Option.some.injEq, Prod.mk.injEq] at mh135
                                      obtain ⟨rfl, _⟩ := mh135
                                      obtain ⟨_, mh132⟩ := zk_gd mh132
                                      simp only [Option.some.injEq, Prod.mk.injEq] at mh132
                                      obtain ⟨rfl, _⟩ := mh132
                                      replace k := zk_f (by decide) k
                                      replace k := zk_gd k
                                      obtain ⟨_, k⟩ := k
                                      by_cases mc136 : (mod_holds x1.toNatClampNeg) = (-1 : Int32)
                                      · replace k := zk_t mc136 k
                                        have mc136n := mc136
                                        (try simp only [i32_lt, i32_le, i32_e, z32_0, z32_1, z32N_1] at mc136n)
                                        first
                                        | (exfalso; omega)
                                        | have h := Option.some.inj h
                                          replace k := Option.some.inj k
                                          subst h
                                          subst k
                                          try dsimp only
                                          all_goals first
                                          | exact ⟨rfl, hP2, fun i hi => rfl⟩
                                          | (exfalso; omega)
                                      · replace k := zk_f mc136 k
                                        have mc136n := mc136
                                        (try simp only [i32_lt, i32_le, i32_e, z32_0, z32_1, z32N_1] at mc136n)
                                        first
                                        | (exfalso; omega)
                                        | obtain ⟨_, k⟩ := zk_gd k
                                          by_cases mc137 : (mod_holds x3.toNatClampNeg) = (-1 : Int32)
                                          · replace k := zk_t mc137 k
                                            have mc137n := mc137
                                            (try simp only [i32_lt, i32_le, i32_e, z32_0, z32_1, z32N_1] at mc137n)
                                            first
                                            | (exfalso; omega)
                                            | have h := Option.some.inj h
                                              replace k := Option.some.inj k
                                              subst h
                                              subst k
                                              try dsimp only
                                              all_goals first
                                              | exact ⟨rfl, hP2, fun i hi => rfl⟩
                                              | (exfalso; omega)
                                          · replace k := zk_f mc137 k
                                            have mc137n := mc137
                                            (try simp only [i32_lt, i32_le, i32_e, z32_0, z32_1, z32N_1] at mc137n)
                                            first
                                            | (exfalso; omega)
                                            | obtain ⟨_, k⟩ := zk_gd k
                                              by_cases mc138 : 0 ≤ (mod_holds x1.toNatClampNeg)
                                              · replace k := zk_t mc138 k
                                                have mc138n := mc138
                                                (try simp only [i32_lt, i32_le, i32_e, z32_0, z32_1] at mc138n)
                                                first
                                                | (exfalso; omega)
                                                | have h := Option.some.inj h
                                                  replace k := Option.some.inj k
                                                  subst h
                                                  subst k
                                                  try dsimp only
                                                  all_goals first
                                                  | exact ⟨rfl, hP2, fun i hi => rfl⟩
                                                  | (exfalso; omega)
                                              · replace k := zk_f mc138 k
                                                have mc138n := mc138
                                                (try simp only [i32_lt, i32_le, i32_e, z32_0, z32_1] at mc138n)
                                                first
                                                | (exfalso; omega)
                                                | obtain ⟨_, k⟩ := zk_gd k
                                                  replace k := zk_gd k
                                                  obtain ⟨_, k⟩ := k
                                                  by_cases mc139 : (mod_holds x1.toNatClampNeg) = (mod_holds x3.toNatClampNeg)
                                                  · replace k := zk_t mc139 k
                                                    have mc139n := mc139
                                                    (try simp only [i32_lt, i32_le, i32_e, z32_0, z32_1] at mc139n)
                                                    first
                                                    | (exfalso; omega)
                                                    | by_cases mc140 : x5 < 0
                                                      · replace k := zk_t mc140 k
                                                        have mc140n := mc140
                                                        (try simp only [i32_lt, i32_le, i32_e, z32_0, z32_1] at mc140n)
                                                        first
                                                        | (exfalso; omega)
                                                        | have h := Option.some.inj h
                                                          replace k := Option.some.inj k
                                                          subst h
                                                          subst k
                                                          try dsimp only
                                                          all_goals first
                                                          | exact ⟨rfl, hP2, fun i hi => rfl⟩
                                                          | (exfalso; omega)
                                                      · replace k := zk_f mc140 k
                                                        have mc140n := mc140
                                                        (try simp only [i32_lt, i32_le, i32_e, z32_0, z32_1] at mc140n)
                                                        first
                                                        | (exfalso; omega)
                                                        | have k := zk_t cc28 k
                                                          replace h := Option.some.inj h
                                                          replace k := Option.some.inj k
                                                          subst h
                                                          subst k
                                                          try dsimp only
                                                          all_goals first
                                                          | exact ⟨rfl, hP2, fun i hi => rfl⟩
                                                          | (exfalso; omega)
                                                  · replace k := zk_f mc139 k
                                                    have mc139n := mc139
                                                    (try simp only [i32_lt, i32_le, i32_e, z32_0, z32_1] at mc139n)
                                                    first
                                                    | (exfalso; omega)
                                                    | have h := Option.some.inj h
                                                      replace k := Option.some.inj k
                                                      subst h
                                                      subst k
                                                      try dsimp only
                                                      all_goals first
                                                      | exact ⟨rfl, hP2, fun i hi => rfl⟩
                                                      | (exfalso; omega)
                                  · have ch27 := zk_f cc28 ch27
                                    have cc28n := cc28
                                    (try simp only [i32_lt, i32_le, i32_e, z32_0, z32_1] at cc28n)
                                    first
                                    | (exfalso; omega)
                                    | by_cases cc29 : x5 < 0
                                      · have ch27 := zk_t cc29 ch27
                                        have cc29n := cc29
                                        (try simp only [i32_lt, i32_le, i32_e, z32_0, z32_1] at cc29n)
                                        first
                                        | (exfalso; omega)
                                        | simp only [Option.some.injEq, Prod.mk.injEq] at ch27
                                          obtain ⟨rfl, _⟩ := ch27
                                          replace h := zk_t rfl h
                                          have hjj1 := hj ⟨cc4, cc10⟩
                                          subst hjj1
                                          obtain ⟨⟨hs11, hs21, hs31⟩, he1, hd1⟩ := id hP
                                          have hx5 : 0 ≤ x1.toInt ∧ x1.toInt ≤ 5 := by
                                            have q1 := cc4
                                            have q2 := cc10
                                            rw [i32_lt, z32_0] at q1
                                            rw [i32_le, z32L_6] at q2
                                            omega
                                          have hsz1 : (mod_size x1.toNatClampNeg).toInt = pl_size.toInt := by rw [hs11]
                                          have hq1 : 0 ≤ x5.toInt → (mod_size x1.toNatClampNeg - x5).toInt = (mod_size x1.toNatClampNeg).toInt - x5.toInt := fun q => i32_dd (by omega) q
                                          have hjj2 := hjt ⟨cc19, cc20⟩
                                          subst hjj2
                                          obtain ⟨⟨hs12, hs22, hs32⟩, he2, hd2⟩ := id hP2
                                          have hx7 : 0 ≤ x3.toInt ∧ x3.toInt ≤ 5 := by
                                            have q1 := cc19
                                            have q2 := cc20
                                            rw [i32_lt, z32_0] at q1
                                            rw [i32_le, z32L_6] at q2
                                            omega
                                          have hsz2 : (mod_size x3.toNatClampNeg).toInt = pm_size.toInt := by rw [hs12]
                                          have hq2 : 0 ≤ x5.toInt → (mod_size x3.toNatClampNeg - x5).toInt = (mod_size x3.toNatClampNeg).toInt - x5.toInt := fun q => i32_dd (by omega) q
                                          unfold B_X12_shift_0 at k
                                          replace k := zk_o2 k
                                          obtain ⟨mv141, mv142, mh143, k⟩ := k
                                          unfold f_X12_isShelf at mh143
                                          unfold B_X12_isShelf_0 at mh143
                                          obtain ⟨mv144, mv145, mh146, mh143⟩ := zk_o2 mh143
                                          unfold f_X12_in at mh146
                                          unfold B_X12_in_0 at mh146
                                          have mh146 := zk_f cc4 mh146
                                          have mh146 := zk_f (by (try simp only [i32_lt, i32_le, i32_e, z32_0, z32_1, z32L_5]); omega) mh146
                                          simp only [Option.some.injEq, Prod.mk.injEq] at mh146
                                          obtain ⟨rfl, _⟩ := mh146
                                          obtain ⟨_, mh143⟩ := zk_gd mh143
                                          simp only [Option.some.injEq, Prod.mk.injEq] at mh143
                                          obtain ⟨rfl, _⟩ := mh143
                                          replace k := zk_f (by decide) k
                                          replace k := zk_o2 k
                                          obtain ⟨mv147, mv148, mh149, k⟩ := k
                                          unfold f_X12_isShelf at mh149
                                          unfold B_X12_isShelf_0 at mh149
                                          obtain ⟨mv150, mv151, mh152, mh149⟩ := zk_o2 mh149
                                          unfold f_X12_in at mh152
                                          unfold B_X12_in_0 at mh152
                                          have mh152 := zk_f cc19 mh152
                                          have mh152 := zk_f (by (try simp only [i32_lt, i32_le, i32_e, z32_0, z32_1, z32L_5]); omega) mh152
                                          simp only [Option.some.injEq, Prod.mk.injEq] at mh152
                                          obtain ⟨rfl, _⟩ := mh152
                                          obtain ⟨_, mh149⟩ := zk_gd mh149
                                          simp only [Option.some.injEq, Prod.mk.injEq] at mh149
                                          obtain ⟨rfl, _⟩ := mh149
                                          replace k := zk_f (by decide) k
                                          replace k := zk_gd k
                                          obtain ⟨_, k⟩ := k
                                          by_cases mc153 : (mod_holds x1.toNatClampNeg) = (-1 : Int32)
                                          · replace k := zk_t mc153 k
                                            have mc153n := mc153
                                            (try simp only [i32_lt, i32_le, i32_e, z32_0, z32_1, z32N_1] at mc153n)
                                            first
                                            | (exfalso; omega)
                                            | have h := Option.some.inj h
                                              replace k := Option.some.inj k
                                              subst h
                                              subst k
                                              try dsimp only
                                              all_goals first
                                              | exact ⟨rfl, hP2, fun i hi => rfl⟩
                                              | (exfalso; omega)
                                          · replace k := zk_f mc153 k
                                            have mc153n := mc153
                                            (try simp only [i32_lt, i32_le, i32_e, z32_0, z32_1, z32N_1] at mc153n)
                                            first
                                            | (exfalso; omega)
                                            | obtain ⟨_, k⟩ := zk_gd k
                                              by_cases mc154 : (mod_holds x3.toNatClampNeg) = (-1 : Int32)
                                              · replace k := zk_t mc154 k
                                                have mc154n := mc154
                                                (try simp only [i32_lt, i32_le, i32_e, z32_0, z32_1, z32N_1] at mc154n)
                                                first
                                                | (exfalso; omega)
                                                | have h := Option.some.inj h
                                                  replace k := Option.some.inj k
                                                  subst h
                                                  subst k
                                                  try dsimp only
                                                  all_goals first
                                                  | exact ⟨rfl, hP2, fun i hi => rfl⟩
                                                  | (exfalso; omega)
                                              · replace k := zk_f mc154 k
                                                have mc154n := mc154
                                                (try simp only [i32_lt, i32_le, i32_e, z32_0, z32_1, z32N_1] at mc154n)
                                                first
                                                | (exfalso; omega)
                                                | obtain ⟨_, k⟩ := zk_gd k
                                                  by_cases mc155 : 0 ≤ (mod_holds x1.toNatClampNeg)
                                                  · replace k := zk_t mc155 k
                                                    have mc155n := mc155
                                                    (try simp only [i32_lt, i32_le, i32_e, z32_0, z32_1] at mc155n)
                                                    first
                                                    | (exfalso; omega)
                                                    | have h := Option.some.inj h
                                                      replace k := Option.some.inj k
                                                      subst h
                                                      subst k
                                                      try dsimp only
                                                      all_goals first
                                                      | exact ⟨rfl, hP2, fun i hi => rfl⟩
                                                      | (exfalso; omega)
                                                  · replace k := zk_f mc155 k
                                                    have mc155n := mc155
                                                    (try simp only [i32_lt, i32_le, i32_e, z32_0, z32_1] at mc155n)
                                                    first
                                                    | (exfalso; omega)
                                                    | obtain ⟨_, k⟩ := zk_gd k
                                                      replace k := zk_gd k
                                                      obtain ⟨_, k⟩ := k
                                                      by_cases mc156 : (mod_holds x1.toNatClampNeg) = (mod_holds x3.toNatClampNeg)
                                                      · replace k := zk_t mc156 k
                                                        have mc156n := mc156
                                                        (try simp only [i32_lt, i32_le, i32_e, z32_0, z32_1] at mc156n)
                                                        first
                                                        | (exfalso; omega)
                                                        | have k := zk_t cc29 k
                                                          replace h := Option.some.inj h
                                                          replace k := Option.some.inj k
                                                          subst h
                                                          subst k
                                                          try dsimp only
                                                          all_goals first
                                                          | exact ⟨rfl, hP2, fun i hi => rfl⟩
                                                          | (exfalso; omega)
                                                      · replace k := zk_f mc156 k
                                                        have mc156n := mc156
                                                        (try simp only [i32_lt, i32_le, i32_e, z32_0, z32_1] at mc156n)
                                                        first
                                                        | (exfalso; omega)
                                                        | have h := Option.some.inj h
                                                          replace k := Option.some.inj k
                                                          subst h
                                                          subst k
                                                          try dsimp only
                                                          all_goals first
                                                          | exact ⟨rfl, hP2, fun i hi => rfl⟩
                                                          | (exfalso; omega)
                                      · have ch27 := zk_f cc29 ch27
                                        have cc29n := cc29
                                        (try simp only [i32_lt, i32_le, i32_e, z32_0, z32_1] at cc29n)
                                        first
                                        | (exfalso; omega)
                                        | by_cases cc30 : pl_size < x2
                                          · have ch27 := zk_t cc30 ch27
                                            have cc30n := cc30
                                            (try simp only [i32_lt, i32_le, i32_e, z32_0, z32_1] at cc30n)
                                            first
                                            | (exfalso; omega)
                                            | simp only [Option.some.injEq, Prod.mk.injEq] at ch27
                                              obtain ⟨rfl, _⟩ := ch27
                                              replace h := zk_t rfl h
                                              have hjj1 := hj ⟨cc4, cc10⟩
                                              subst hjj1
                                              obtain ⟨⟨hs11, hs21, hs31⟩, he1, hd1⟩ := id hP
                                              have hx5 : 0 ≤ x1.toInt ∧ x1.toInt ≤ 5 := by
                                                have q1 := cc4
                                                have q2 := cc10
                                                rw [i32_lt, z32_0] at q1
                                                rw [i32_le, z32L_6] at q2
                                                omega
                                              have hsz1 : (mod_size x1.toNatClampNeg).toInt = pl_size.toInt := by rw [hs11]
                                              have hq1 : 0 ≤ x5.toInt → (mod_size x1.toNatClampNeg - x5).toInt = (mod_size x1.toNatClampNeg).toInt - x5.toInt := fun q => i32_dd (by omega) q
                                              have hjj2 := hjt ⟨cc19, cc20⟩
                                              subst hjj2
                                              obtain ⟨⟨hs12, hs22, hs32⟩, he2, hd2⟩ := id hP2
                                              have hx7 : 0 ≤ x3.toInt ∧ x3.toInt ≤ 5 := by
                                                have q1 := cc19
                                                have q2 := cc20
                                                rw [i32_lt, z32_0] at q1
                                                rw [i32_le, z32L_6] at q2
                                                omega
                                              have hsz2 : (mod_size x3.toNatClampNeg).toInt = pm_size.toInt := by rw [hs12]
                                              have hq2 : 0 ≤ x5.toInt → (mod_size x3.toNatClampNeg - x5).toInt = (mod_size x3.toNatClampNeg).toInt - x5.toInt := fun q => i32_dd (by omega) q
                                              unfold B_X12_shift_0 at k
                                              replace k := zk_o2 k
                                              obtain ⟨mv157, mv158, mh159, k⟩ := k
                                              unfold f_X12_isShelf at mh159
                                              unfold B_X12_isShelf_0 at mh159
                                              obtain ⟨mv160, mv161, mh162, mh159⟩ := zk_o2 mh159
                                              unfold f_X12_in at mh162
                                              unfold B_X12_in_0 at mh162
                                              have mh162 := zk_f cc4 mh162
                                              have mh162 := zk_f (by (try simp only [i32_lt, i32_le, i32_e, z32_0, z32_1, z32L_5]); omega) mh162
                                              simp only [Option.some.injEq, Prod.mk.injEq] at mh162
                                              obtain ⟨rfl, _⟩ := mh162
                                              obtain ⟨_, mh159⟩ := zk_gd mh159
                                              simp only [Option.some.injEq, Prod.mk.injEq] at mh159
                                              obtain ⟨rfl, _⟩ := mh159
                                              replace k := zk_f (by decide) k
                                              replace k := zk_o2 k
                                              obtain ⟨mv163, mv164, mh165, k⟩ := k
                                              unfold f_X12_isShelf at mh165
                                              unfold B_X12_isShelf_0 at mh165
                                              obtain ⟨mv166, mv167, mh168, mh165⟩ := zk_o2 mh165
                                              unfold f_X12_in at mh168
                                              unfold B_X12_in_0 at mh168
                                              have mh168 := zk_f cc19 mh168
                                              have mh168 := zk_f (by (try simp only [i32_lt, i32_le, i32_e, z32_0, z32_1, z32L_5]); omega) mh168
                                              simp only [Option.some.injEq, Prod.mk.injEq] at mh168
                                              obtain ⟨rfl, _⟩ := mh168
                                              obtain ⟨_, mh165⟩ := zk_gd mh165
                                              simp only [Option.some.injEq, Prod.mk.injEq] at mh165
                                              obtain ⟨rfl, _⟩ := mh165
                                              replace k := zk_f (by decide) k
                                              replace k := zk_gd k
                                              obtain ⟨_, k⟩ := k
                                              by_cases mc169 : (mod_holds x1.toNatClampNeg) = (-1 : Int32)
                                              · replace k := zk_t mc169 k
                                                have mc169n := mc169
                                                (try simp only [i32_lt, i32_le, i32_e, z32_0, z32_1, z32N_1] at mc169n)
                                                first
                                                | (exfalso; omega)
                                                | have h := Option.some.inj h
                                                  replace k := Option.some.inj k
                                                  subst h
                                                  subst k
                                                  try dsimp only
                                                  all_goals first
                                                  | exact ⟨rfl, hP2, fun i hi => rfl⟩
                                                  | (exfalso; omega)
                                              · replace k := zk_f mc169 k
                                                have mc169n := mc169
                                                (try simp only [i32_lt, i32_le, i32_e, z32_0, z32_1, z32N_1] at mc169n)
                                                first
                                                | (exfalso; omega)
                                                | obtain ⟨_, k⟩ := zk_gd k
                                                  by_cases mc170 : (mod_holds x3.toNatClampNeg) = (-1 : Int32)
                                                  · replace k := zk_t mc170 k
                                                    have mc170n := mc170
                                                    (try simp only [i32_lt, i32_le, i32_e, z32_0, z32_1, z32N_1] at mc170n)
                                                    first
                                                    | (exfalso; omega)
                                                    | have h := Option.some.inj h
                                                      replace k := Option.some.inj k
                                                      subst h
                                                      subst k
                                                      try dsimp only
                                                      all_goals first
                                                      | exact ⟨rfl, hP2, fun i hi => rfl⟩
                                                      | (exfalso; omega)
                                                  · replace k := zk_f mc170 k
                                                    have mc170n := mc170
                                                    (try simp only [i32_lt, i32_le, i32_e, z32_0, z32_1, z32N_1] at mc170n)
                                                    first
                                                    | (exfalso; omega)
                                                    | obtain ⟨_, k⟩ := zk_gd k
                                                      by_cases mc171 : 0 ≤ (mod_holds x1.toNatClampNeg)
                                                      · replace k := zk_t mc171 k
                                                        have mc171n := mc171
                                                        (try simp only [i32_lt, i32_le, i32_e, z32_0, z32_1] at mc171n)
                                                        first
                                                        | (exfalso; omega)
                                                        | have h := Option.some.inj h
                                                          replace k := Option.some.inj k
                                                          subst h
                                                          subst k
                                                          try dsimp only
                                                          all_goals first
                                                          | exact ⟨rfl, hP2, fun i hi => rfl⟩
                                                          | (exfalso; omega)
                                                      · replace k := zk_f mc171 k
                                                        have mc171n := mc171
                                                        (try simp only [i32_lt, i32_le, i32_e, z32_0, z32_1] at mc171n)
                                                        first
                                                        | (exfalso; omega)
                                                        | obtain ⟨_, k⟩ := zk_gd k
                                                          replace k := zk_gd k
                                                          obtain ⟨_, k⟩ := k
                                                          by_cases mc172 : (mod_holds x1.toNatClampNeg) = (mod_holds x3.toNatClampNeg)
                                                          · replace k := zk_t mc172 k
                                                            have mc172n := mc172
                                                            (try simp only [i32_lt, i32_le, i32_e, z32_0, z32_1] at mc172n)
                                                            first
                                                            | (exfalso; omega)
                                                            | have k := zk_f cc29 k
                                                              replace k := zk_f cc28 k
                                                              by_cases mc173 : x4 < 0
                                                              · replace k := zk_t mc173 k
                                                                have mc173n := mc173
                                                                (try simp only [i32_lt, i32_le, i32_e, z32_0, z32_1] at mc173n)
                                                                first
                                                                | (exfalso; omega)
                                                                | have h := Option.some.inj h
                                                                  replace k := Option.some.inj k
                                                                  subst h
                                                                  subst k
                                                                  try dsimp only
                                                                  all_goals first
                                                                  | exact ⟨rfl, hP2, fun i hi => rfl⟩
                                                                  | (exfalso; omega)
                                                              · replace k := zk_f mc173 k
                                                                have mc173n := mc173
                                                                (try simp only [i32_lt, i32_le, i32_e, z32_0, z32_1] at mc173n)
                                                                first
                                                                | (exfalso; omega)
                                                                | obtain ⟨_, k⟩ := zk_gd k
                                                                  by_cases mc174 : ((mod_size x1.toNatClampNeg) - x5) < x2
                                                                  · replace k := zk_t mc174 k
                                                                    have mc174n := mc174
                                                                    (try simp only [i32_lt, i32_le, i32_e, z32_0, z32_1] at mc174n)
                                                                    first
                                                                    | (exfalso; omega)
                                                                    | have h := Option.some.inj h
                                                                      replace k := Option.some.inj k
                                                                      subst h
                                                                      subst k
                                                                      try dsimp only
                                                                      all_goals first
                                                                      | exact ⟨rfl, hP2, fun i hi => rfl⟩
                                                                      | (exfalso; omega)
                                                                  · replace k := zk_f mc174 k
                                                                    have mc174n := mc174
                                                                    (try simp only [i32_lt, i32_le, i32_e, z32_0, z32_1] at mc174n)
                                                                    first
                                                                    | (exfalso; omega)
                                                                    | obtain ⟨_, k⟩ := zk_gd k
                                                                      by_cases mc175 : x4 ≤ ((mod_size x3.toNatClampNeg) - x5)
                                                                      · replace k := zk_t mc175 k
                                                                        have mc175n := mc175
                                                                        (try simp only [i32_lt, i32_le, i32_e, z32_0, z32_1] at mc175n)
                                                                        first
                                                                        | (exfalso; omega)
                                                                        | have h := Option.some.inj h
                                                                          subst h
                                                                          exfalso
                                                                          omega
                                                                      · replace k := zk_f mc175 k
                                                                        have mc175n := mc175
                                                                        (try simp only [i32_lt, i32_le, i32_e, z32_0, z32_1] at mc175n)
                                                                        first
                                                                        | (exfalso; omega)
                                                                        | have h := Option.some.inj h
                                                                          replace k := Option.some.inj k
                                                                          subst h
                                                                          subst k
                                                                          try dsimp only
                                                                          all_goals first
                                                                          | exact ⟨rfl, hP2, fun i hi => rfl⟩
                                                                          | (exfalso; omega)
                                                          · replace k := zk_f mc172 k
                                                            have mc172n := mc172
                                                            (try simp only [i32_lt, i32_le, i32_e, z32_0, z32_1] at mc172n)
                                                            first
                                                            | (exfalso; omega)
                                                            | have h := Option.some.inj h
                                                              replace k := Option.some.inj k
                                                              subst h
                                                              subst k
                                                              try dsimp only
                                                              all_goals first
                                                              | exact ⟨rfl, hP2, fun i hi => rfl⟩
                                                              | (exfalso; omega)
                                          · have ch27 := zk_f cc30 ch27
                                            have cc30n := cc30
                                            (try simp only [i32_lt, i32_le, i32_e, z32_0, z32_1] at cc30n)
                                            first
                                            | (exfalso; omega)
                                            | by_cases cc31 : (pl_size - x2) < x5
                                              · have ch27 := zk_t cc31 ch27
                                                have cc31n := cc31
                                                (try simp only [i32_lt, i32_le, i32_e, z32_0, z32_1] at cc31n)
                                                first
                                                | (exfalso; omega)
                                                | simp only [Option.some.injEq, Prod.mk.injEq] at ch27
                                                  obtain ⟨rfl, _⟩ := ch27
                                                  replace h := zk_t rfl h
                                                  have hjj1 := hj ⟨cc4, cc10⟩
                                                  subst hjj1
                                                  obtain ⟨⟨hs11, hs21, hs31⟩, he1, hd1⟩ := id hP
                                                  have hx5 : 0 ≤ x1.toInt ∧ x1.toInt ≤ 5 := by
                                                    have q1 := cc4
                                                    have q2 := cc10
                                                    rw [i32_lt, z32_0] at q1
                                                    rw [i32_le, z32L_6] at q2
                                                    omega
                                                  have hsz1 : (mod_size x1.toNatClampNeg).toInt = pl_size.toInt := by rw [hs11]
                                                  have hq1 : 0 ≤ x5.toInt → (mod_size x1.toNatClampNeg - x5).toInt = (mod_size x1.toNatClampNeg).toInt - x5.toInt := fun q => i32_dd (by omega) q
                                                  have hjj2 := hjt ⟨cc19, cc20⟩
                                                  subst hjj2
                                                  obtain ⟨⟨hs12, hs22, hs32⟩, he2, hd2⟩ := id hP2
                                                  have hx7 : 0 ≤ x3.toInt ∧ x3.toInt ≤ 5 := by
                                                    have q1 := cc19
                                                    have q2 := cc20
                                                    rw [i32_lt, z32_0] at q1
                                                    rw [i32_le, z32L_6] at q2
                                                    omega
                                                  have hsz2 : (mod_size x3.toNatClampNeg).toInt = pm_size.toInt := by rw [hs12]
                                                  have hq2 : 0 ≤ x5.toInt → (mod_size x3.toNatClampNeg - x5).toInt = (mod_size x3.toNatClampNeg).toInt - x5.toInt := fun q => i32_dd (by omega) q
                                                  unfold B_X12_shift_0 at k
                                                  replace k := zk_o2 k
                                                  obtain ⟨mv176, mv177, mh178, k⟩ := k
                                                  unfold f_X12_isShelf at mh178
                                                  unfold B_X12_isShelf_0 at mh178
                                                  obtain ⟨mv179, mv180, mh181, mh178⟩ := zk_o2 mh178
                                                  unfold f_X12_in at mh181
                                                  unfold B_X12_in_0 at mh181
                                                  have mh181 := zk_f cc4 mh181
                                                  have mh181 := zk_f (by (try simp only [i32_lt, i32_le, i32_e, z32_0, z32_1, z32L_5]); omega) mh181
                                                  simp only [Option.some.injEq, Prod.mk.injEq] at mh181
                                                  obtain ⟨rfl, _⟩ := mh181
                                                  obtain ⟨_, mh178⟩ := zk_gd mh178
                                                  simp only [Option.some.injEq, Prod.mk.injEq] at mh178
                                                  obtain ⟨rfl, _⟩ := mh178
                                                  replace k := zk_f (by decide) k
                                                  replace k := zk_o2 k
                                                  obtain ⟨mv182, mv183, mh184, k⟩ := k
                                                  unfold f_X12_isShelf at mh184
                                                  unfold B_X12_isShelf_0 at mh184
                                                  obtain ⟨mv185, mv186, mh187, mh184⟩ := zk_o2 mh184
                                                  unfold f_X12_in at mh187
                                                  unfold B_X12_in_0 at mh187
                                                  have mh187 := zk_f cc19 mh187
                                                  have mh187 := zk_f (by (try simp only [i32_lt, i32_le, i32_e, z32_0, z32_1, z32L_5]); omega) mh187
                                                  simp only [Option.some.injEq, Prod.mk.injEq] at mh187
                                                  obtain ⟨rfl, _⟩ := mh187
                                                  obtain ⟨_, mh184⟩ := zk_gd mh184
                                                  simp only [Option.some.injEq, Prod.mk.injEq] at mh184
                                                  obtain ⟨rfl, _⟩ := mh184
                                                  replace k := zk_f (by decide) k
                                                  replace k := zk_gd k
                                                  obtain ⟨_, k⟩ := k
                                                  by_cases mc188 : (mod_holds x1.toNatClampNeg) = (-1 : Int32)
                                                  · replace k := zk_t mc188 k
                                                    have mc188n := mc188
                                                    (try simp only [i32_lt, i32_le, i32_e, z32_0, z32_1, z32N_1] at mc188n)
                                                    first
                                                    | (exfalso; omega)
                                                    | have h := Option.some.inj h
                                                      replace k := Option.some.inj k
                                                      subst h
                                                      subst k
                                                      try dsimp only
                                                      all_goals first
                                                      | exact ⟨rfl, hP2, fun i hi => rfl⟩
                                                      | (exfalso; omega)
                                                  · replace k := zk_f mc188 k
                                                    have mc188n := mc188
                                                    (try simp only [i32_lt, i32_le, i32_e, z32_0, z32_1, z32N_1] at mc188n)
                                                    first
                                                    | (exfalso; omega)
                                                    | obtain ⟨_, k⟩ := zk_gd k
                                                      by_cases mc189 : (mod_holds x3.toNatClampNeg) = (-1 : Int32)
                                                      · replace k := zk_t mc189 k
                                                        have mc189n := mc189
                                                        (try simp only [i32_lt, i32_le, i32_e, z32_0, z32_1, z32N_1] at mc189n)
                                                        first
                                                        | (exfalso; omega)
                                                        | have h := Option.some.inj h
                                                          replace k := Option.some.inj k
                                                          subst h
                                                          subst k
                                                          try dsimp only
                                                          all_goals first
                                                          | exact ⟨rfl, hP2, fun i hi => rfl⟩
                                                          | (exfalso; omega)
                                                      · replace k := zk_f mc189 k
                                                        have mc189n := mc189
                                                        (try simp only [i32_lt, i32_le, i32_e, z32_0, z32_1, z32N_1] at mc189n)
                                                        first
                                                        | (exfalso; omega)
                                                        | obtain ⟨_, k⟩ := zk_gd k
                                                          by_cases mc190 : 0 ≤ (mod_holds x1.toNatClampNeg)
                                                          · replace k := zk_t mc190 k
                                                            have mc190n := mc190
                                                            (try simp only [i32_lt, i32_le, i32_e, z32_0, z32_1] at mc190n)
                                                            first
                                                            | (exfalso; omega)
                                                            | have h := Option.some.inj h
                                                              replace k := Option.some.inj k
                                                              subst h
                                                              subst k
                                                              try dsimp only
                                                              all_goals first
                                                              | exact ⟨rfl, hP2, fun i hi => rfl⟩
                                                              | (exfalso; omega)
                                                          · replace k := zk_f mc190 k
                                                            have mc190n := mc190
                                                            (try simp only [i32_lt, i32_le, i32_e, z32_0, z32_1] at mc190n)
                                                            first
                                                            | (exfalso; omega)
                                                            | obtain ⟨_, k⟩ := zk_gd k
                                                              replace k := zk_gd k
                                                              obtain ⟨_, k⟩ := k
                                                              by_cases mc191 : (mod_holds x1.toNatClampNeg) = (mod_holds x3.toNatClampNeg)
                                                              · replace k := zk_t mc191 k
                                                                have mc191n := mc191
                                                                (try simp only [i32_lt, i32_le, i32_e, z32_0, z32_1] at mc191n)
                                                                first
                                                                | (exfalso; omega)
                                                                | have k := zk_f cc29 k
                                                                  replace k := zk_f cc28 k
                                                                  by_cases mc192 : x4 < 0
                                                                  · replace k := zk_t mc192 k
                                                                    have mc192n := mc192
                                                                    (try simp only [i32_lt, i32_le, i32_e, z32_0, z32_1] at mc192n)
                                                                    first
                                                                    | (exfalso; omega)
                                                                    | have h := Option.some.inj h
                                                                      replace k := Option.some.inj k
                                                                      subst h
                                                                      subst k
                                                                      try dsimp only
                                                                      all_goals first
                                                                      | exact ⟨rfl, hP2, fun i hi => rfl⟩
                                                                      | (exfalso; omega)
                                                                  · replace k := zk_f mc192 k
                                                                    have mc192n := mc192
                                                                    (try simp only [i32_lt, i32_le, i32_e, z32_0, z32_1] at mc192n)
                                                                    first
                                                                    | (exfalso; omega)
                                                                    | obtain ⟨_, k⟩ := zk_gd k
                                                                      by_cases mc193 : ((mod_size x1.toNatClampNeg) - x5) < x2
                                                                      · replace k := zk_t mc193 k
                                                                        have mc193n := mc193
                                                                        (try simp only [i32_lt, i32_le, i32_e, z32_0, z32_1] at mc193n)
                                                                        first
                                                                        | (exfalso; omega)
                                                                        | have h := Option.some.inj h
                                                                          replace k := Option.some.inj k
                                                                          subst h
                                                                          subst k
                                                                          try dsimp only
                                                                          all_goals first
                                                                          | exact ⟨rfl, hP2, fun i hi => rfl⟩
                                                                          | (exfalso; omega)
                                                                      · replace k := zk_f mc193 k
                                                                        have mc193n := mc193
                                                                        (try simp only [i32_lt, i32_le, i32_e, z32_0, z32_1] at mc193n)
                                                                        first
                                                                        | (exfalso; omega)
                                                                        | obtain ⟨_, k⟩ := zk_gd k
                                                                          by_cases mc194 : x4 ≤ ((mod_size x3.toNatClampNeg) - x5)
                                                                          · replace k := zk_t mc194 k
                                                                            have mc194n := mc194
                                                                            (try simp only [i32_lt, i32_le, i32_e, z32_0, z32_1] at mc194n)
                                                                            first
                                                                            | (exfalso; omega)
                                                                            | have h := Option.some.inj h
                                                                              subst h
                                                                              exfalso
                                                                              omega
                                                                          · replace k := zk_f mc194 k
                                                                            have mc194n := mc194
                                                                            (try simp only [i32_lt, i32_le, i32_e, z32_0, z32_1] at mc194n)
                                                                            first
                                                                            | (exfalso; omega)
                                                                            | have h := Option.some.inj h
                                                                              replace k := Option.some.inj k
                                                                              subst h
                                                                              subst k
                                                                              try dsimp only
                                                                              all_goals first
                                                                              | exact ⟨rfl, hP2, fun i hi => rfl⟩
                                                                              | (exfalso; omega)
                                                              · replace k := zk_f mc191 k
                                                                have mc191n := mc191
                                                                (try simp only [i32_lt, i32_le, i32_e, z32_0, z32_1] at mc191n)
                                                                first
                                                                | (exfalso; omega)
                                                                | have h := Option.some.inj h
                                                                  replace k := Option.some.inj k
                                                                  subst h
                                                                  subst k
                                                                  try dsimp only
                                                                  all_goals first
                                                                  | exact ⟨rfl, hP2, fun i hi => rfl⟩
                                                                  | (exfalso; omega)
                                              · have ch27 := zk_f cc31 ch27
                                                have cc31n := cc31
                                                (try simp only [i32_lt, i32_le, i32_e, z32_0, z32_1] at cc31n)
                                                first
                                                | (exfalso; omega)
                                                | simp only [Option.some.injEq, Prod.mk.injEq] at ch27
                                                  obtain ⟨rfl, _⟩ := ch27
                                                  replace h := zk_f (by decide) h
                                                  replace h := zk_o2 h
                                                  obtain ⟨cv32, cv33, ch34, h⟩ := h
                                                  unfold f_X6_hasRange at ch34
                                                  unfold B_X6_hasRange_0 at ch34
                                                  by_cases cc35 : x4 < 0
                                                  · have ch34 := zk_t cc35 ch34
                                                    have cc35n := cc35
                                                    (try simp only [i32_lt, i32_le, i32_e, z32_0, z32_1] at cc35n)
                                                    first
                                                    | (exfalso; omega)
                                                    | simp only [Option.some.injEq, Prod.mk.injEq] at ch34
                                                      obtain ⟨rfl, _⟩ := ch34
                                                      replace h := zk_t rfl h
                                                      have hjj1 := hj ⟨cc4, cc10⟩
                                                      subst hjj1
                                                      obtain ⟨⟨hs11, hs21, hs31⟩, he1, hd1⟩ := id hP
                                                      have hx5 : 0 ≤ x1.toInt ∧ x1.toInt ≤ 5 := by
                                                        have q1 := cc4
                                                        have q2 := cc10
                                                        rw [i32_lt, z32_0] at q1
                                                        rw [i32_le, z32L_6] at q2
                                                        omega
                                                      have hsz1 : (mod_size x1.toNatClampNeg).toInt = pl_size.toInt := by rw [hs11]
                                                      have hq1 : 0 ≤ x5.toInt → (mod_size x1.toNatClampNeg - x5).toInt = (mod_size x1.toNatClampNeg).toInt - x5.toInt := fun q => i32_dd (by omega) q
                                                      have hjj2 := hjt ⟨cc19, cc20⟩
                                                      subst hjj2
                                                      obtain ⟨⟨hs12, hs22, hs32⟩, he2, hd2⟩ := id hP2
                                                      have hx7 : 0 ≤ x3.toInt ∧ x3.toInt ≤ 5 := by
                                                        have q1 := cc19
                                                        have q2 := cc20
                                                        rw [i32_lt, z32_0] at q1
                                                        rw [i32_le, z32L_6] at q2
                                                        omega
                                                      have hsz2 : (mod_size x3.toNatClampNeg).toInt = pm_size.toInt := by rw [hs12]
                                                      have hq2 : 0 ≤ x5.toInt → (mod_size x3.toNatClampNeg - x5).toInt = (mod_size x3.toNatClampNeg).toInt - x5.toInt := fun q => i32_dd (by omega) q
                                                      unfold B_X12_shift_0 at k
                                                      replace k := zk_o2 k
                                                      obtain ⟨mv195, mv196, mh197, k⟩ := k
                                                      unfold f_X12_isShelf at mh197
                                                      unfold B_X12_isShelf_0 at mh197
                                                      obtain ⟨mv198, mv199, mh200, mh197⟩ := zk_o2 mh197
                                                      unfold f_X12_in at mh200
                                                      unfold B_X12_in_0 at mh200
                                                      have mh200 := zk_f cc4 mh200
                                                      have mh200 := zk_f (by (try simp only [i32_lt, i32_le, i32_e, z32_0, z32_1, z32L_5]); omega) mh200
                                                      simp only [Option.some.injEq, Prod.mk.injEq] at mh200
                                                      obtain ⟨rfl, _⟩ := mh200
                                                      obtain ⟨_, mh197⟩ := zk_gd mh197
                                                      simp only [Option.some.injEq, Prod.mk.injEq] at mh197
                                                      obtain ⟨rfl, _⟩ := mh197
                                                      replace k := zk_f (by decide) k
                                                      replace k := zk_o2 k
                                                      obtain ⟨mv201, mv202, mh203, k⟩ := k
                                                      unfold f_X12_isShelf at mh203
                                                      unfold B_X12_isShelf_0 at mh203
                                                      obtain ⟨mv204, mv205, mh206, mh203⟩ := zk_o2 mh203
                                                      unfold f_X12_in at mh206
                                                      unfold B_X12_in_0 at mh206
                                                      have mh206 := zk_f cc19 mh206
                                                      have mh206 := zk_f (by (try simp only [i32_lt, i32_le, i32_e, z32_0, z32_1, z32L_5]); omega) mh206
                                                      simp only [Option.some.injEq, Prod.mk.injEq] at mh206
                                                      obtain ⟨rfl, _⟩ := mh206
                                                      obtain ⟨_, mh203⟩ := zk_gd mh203
                                                      simp only [Option.some.injEq, Prod.mk.injEq] at mh203
                                                      obtain ⟨rfl, _⟩ := mh203
                                                      replace k := zk_f (by decide) k
                                                      replace k := zk_gd k
                                                      obtain ⟨_, k⟩ := k
                                                      by_cases mc207 : (mod_holds x1.toNatClampNeg) = (-1 : Int32)
                                                      · replace k := zk_t mc207 k
                                                        have mc207n := mc207
                                                        (try simp only [i32_lt, i32_le, i32_e, z32_0, z32_1, z32N_1] at mc207n)
                                                        first
                                                        | (exfalso; omega)
                                                        | have h := Option.some.inj h
                                                          replace k := Option.some.inj k
                                                          subst h
                                                          subst k
                                                          try dsimp only
                                                          all_goals first
                                                          | exact ⟨rfl, hP2, fun i hi => rfl⟩
                                                          | (exfalso; omega)
                                                      · replace k := zk_f mc207 k
                                                        have mc207n := mc207
                                                        (try simp only [i32_lt, i32_le, i32_e, z32_0, z32_1, z32N_1] at mc207n)
                                                        first
                                                        | (exfalso; omega)
                                                        | obtain ⟨_, k⟩ := zk_gd k
                                                          by_cases mc208 : (mod_holds x3.toNatClampNeg) = (-1 : Int32)
                                                          · replace k := zk_t mc208 k
                                                            have mc208n := mc208
                                                            (try simp only [i32_lt, i32_le, i32_e, z32_0, z32_1, z32N_1] at mc208n)
                                                            first
                                                            | (exfalso; omega)
                                                            | have h := Option.some.inj h
                                                              replace k := Option.some.inj k
                                                              subst h
                                                              subst k
                                                              try dsimp only
                                                              all_goals first
                                                              | exact ⟨rfl, hP2, fun i hi => rfl⟩
                                                              | (exfalso; omega)
                                                          · replace k := zk_f mc208 k
                                                            have mc208n := mc208
                                                            (try simp only [i32_lt, i32_le, i32_e, z32_0, z32_1, z32N_1] at mc208n)
                                                            first
                                                            | (exfalso; omega)
                                                            | obtain ⟨_, k⟩ := zk_gd k
                                                              by_cases mc209 : 0 ≤ (mod_holds x1.toNatClampNeg)
                                                              · replace k := zk_t mc209 k
                                                                have mc209n := mc209
                                                                (try simp only [i32_lt, i32_le, i32_e, z32_0, z32_1] at mc209n)
                                                                first
                                                                | (exfalso; omega)
                                                                | have h := Option.some.inj h
                                                                  replace k := Option.some.inj k
                                                                  subst h
                                                                  subst k
                                                                  try dsimp only
                                                                  all_goals first
                                                                  | exact ⟨rfl, hP2, fun i hi => rfl⟩
                                                                  | (exfalso; omega)
                                                              · replace k := zk_f mc209 k
                                                                have mc209n := mc209
                                                                (try simp only [i32_lt, i32_le, i32_e, z32_0, z32_1] at mc209n)
                                                                first
                                                                | (exfalso; omega)
                                                                | obtain ⟨_, k⟩ := zk_gd k
                                                                  replace k := zk_gd k
                                                                  obtain ⟨_, k⟩ := k
                                                                  by_cases mc210 : (mod_holds x1.toNatClampNeg) = (mod_holds x3.toNatClampNeg)
                                                                  · replace k := zk_t mc210 k
                                                                    have mc210n := mc210
                                                                    (try simp only [i32_lt, i32_le, i32_e, z32_0, z32_1] at mc210n)
                                                                    first
                                                                    | (exfalso; omega)
                                                                    | have k := zk_f cc29 k
                                                                      replace k := zk_f cc28 k
                                                                      replace k := zk_t cc35 k
                                                                      replace h := Option.some.inj h
                                                                      replace k := Option.some.inj k
                                                                      subst h
                                                                      subst k
                                                                      try dsimp only
                                                                      all_goals first
                                                                      | exact ⟨rfl, hP2, fun i hi => rfl⟩
                                                                      | (exfalso; omega)
                                                                  · replace k := zk_f mc210 k
                                                                    have mc210n := mc210
                                                                    (try simp only [i32_lt, i32_le, i32_e, z32_0, z32_1] at mc210n)
                                                                    first
                                                                    | (exfalso; omega)
                                                                    | have h := Option.some.inj h
                                                                      replace k := Option.some.inj k
                                                                      subst h
                                                                      subst k
                                                                      try dsimp only
                                                                      all_goals first
                                                                      | exact ⟨rfl, hP2, fun i hi => rfl⟩
                                                                      | (exfalso; omega)
                                                  · have ch34 := zk_f cc35 ch34
                                                    have cc35n := cc35
                                                    (try simp only [i32_lt, i32_le, i32_e, z32_0, z32_1] at cc35n)
                                                    first
                                                    | (exfalso; omega)
                                                    | have ch34 := zk_f cc29 ch34
                                                      by_cases cc36 : pm_size < x4
                                                      · have ch34 := zk_t cc36 ch34
                                                        have cc36n := cc36
                                                        (try simp only [i32_lt, i32_le, i32_e, z32_0, z32_1] at cc36n)
                                                        first
                                                        | (exfalso; omega)
                                                        | simp only [Option.some.injEq, Prod.mk.injEq] at ch34
                                                          obtain ⟨rfl, _⟩ := ch34
                                                          replace h := zk_t rfl h
                                                          have hjj1 := hj ⟨cc4, cc10⟩
                                                          subst hjj1
                                                          obtain ⟨⟨hs11, hs21, hs31⟩, he1, hd1⟩ := id hP
                                                          have hx5 : 0 ≤ x1.toInt ∧ x1.toInt ≤ 5 := by
                                                            have q1 := cc4
                                                            have q2 := cc10
                                                            rw [i32_lt, z32_0] at q1
                                                            rw [i32_le, z32L_6] at q2
                                                            omega
                                                          have hsz1 : (mod_size x1.toNatClampNeg).toInt = pl_size.toInt := by rw [hs11]
                                                          have hq1 : 0 ≤ x5.toInt → (mod_size x1.toNatClampNeg - x5).toInt = (mod_size x1.toNatClampNeg).toInt - x5.toInt := fun q => i32_dd (by omega) q
                                                          have hjj2 := hjt ⟨cc19, cc20⟩
                                                          subst hjj2
                                                          obtain ⟨⟨hs12, hs22, hs32⟩, he2, hd2⟩ := id hP2
                                                          have hx7 : 0 ≤ x3.toInt ∧ x3.toInt ≤ 5 := by
                                                            have q1 := cc19
                                                            have q2 := cc20
                                                            rw [i32_lt, z32_0] at q1
                                                            rw [i32_le, z32L_6] at q2
                                                            omega
                                                          have hsz2 : (mod_size x3.toNatClampNeg).toInt = pm_size.toInt := by rw [hs12]
                                                          have hq2 : 0 ≤ x5.toInt → (mod_size x3.toNatClampNeg - x5).toInt = (mod_size x3.toNatClampNeg).toInt - x5.toInt := fun q => i32_dd (by omega) q
                                                          unfold B_X12_shift_0 at k
                                                          replace k := zk_o2 k
                                                          obtain ⟨mv211, mv212, mh213, k⟩ := k
                                                          unfold f_X12_isShelf at mh213
                                                          unfold B_X12_isShelf_0 at mh213
                                                          obtain ⟨mv214, mv215, mh216, mh213⟩ := zk_o2 mh213
                                                          unfold f_X12_in at mh216
                                                          unfold B_X12_in_0 at mh216
                                                          have mh216 := zk_f cc4 mh216
                                                          have mh216 := zk_f (by (try simp only [i32_lt, i32_le, i32_e, z32_0, z32_1, z32L_5]); omega) mh216
                                                          simp only [Option.some.injEq, Prod.mk.injEq] at mh216
                                                          obtain ⟨rfl, _⟩ := mh216
                                                          obtain ⟨_, mh213⟩ := zk_gd mh213
                                                          simp only [Option.some.injEq, Prod.mk.injEq] at mh213
                                                          obtain ⟨rfl, _⟩ := mh213
                                                          replace k := zk_f (by decide) k
                                                          replace k := zk_o2 k
                                                          obtain ⟨mv217, mv218, mh219, k⟩ := k
                                                          unfold f_X12_isShelf at mh219
                                                          unfold B_X12_isShelf_0 at mh219
                                                          obtain ⟨mv220, mv221, mh222, mh219⟩ := zk_o2 mh219
                                                          unfold f_X12_in at mh222
                                                          unfold B_X12_in_0 at mh222
                                                          have mh222 := zk_f cc19 mh222
                                                          have mh222 := zk_f (by (try simp only [i32_lt, i32_le, i32_e, z32_0, z32_1, z32L_5]); omega) mh222
                                                          simp only [Option.some.injEq, Prod.mk.injEq] at mh222
                                                          obtain ⟨rfl, _⟩ := mh222
                                                          obtain ⟨_, mh219⟩ := zk_gd mh219
                                                          simp only [Option.some.injEq, Prod.mk.injEq] at mh219
                                                          obtain ⟨rfl, _⟩ := mh219
                                                          replace k := zk_f (by decide) k
                                                          replace k := zk_gd k
                                                          obtain ⟨_, k⟩ := k
                                                          by_cases mc223 : (mod_holds x1.toNatClampNeg) = (-1 : Int32)
                                                          · replace k := zk_t mc223 k
                                                            have mc223n := mc223
                                                            (try simp only [i32_lt, i32_le, i32_e, z32_0, z32_1, z32N_1] at mc223n)
                                                            first
                                                            | (exfalso; omega)
                                                            | have h := Option.some.inj h
                                                              replace k := Option.some.inj k
                                                              subst h
                                                              subst k
                                                              try dsimp only
                                                              all_goals first
                                                              | exact ⟨rfl, hP2, fun i hi => rfl⟩
                                                              | (exfalso; omega)
                                                          · replace k := zk_f mc223 k
                                                            have mc223n := mc223
                                                            (try simp only [i32_lt, i32_le, i32_e, z32_0, z32_1, z32N_1] at mc223n)
                                                            first
                                                            | (exfalso; omega)
                                                            | obtain ⟨_, k⟩ := zk_gd k
                                                              by_cases mc224 : (mod_holds x3.toNatClampNeg) = (-1 : Int32)
                                                              · replace k := zk_t mc224 k
                                                                have mc224n := mc224
                                                                (try simp only [i32_lt, i32_le, i32_e, z32_0, z32_1, z32N_1] at mc224n)
                                                                first
                                                                | (exfalso; omega)
                                                                | have h := Option.some.inj h
                                                                  replace k := Option.some.inj k
                                                                  subst h
                                                                  subst k
                                                                  try dsimp only
                                                                  all_goals first
                                                                  | exact ⟨rfl, hP2, fun i hi => rfl⟩
                                                                  | (exfalso; omega)
                                                              · replace k := zk_f mc224 k
                                                                have mc224n := mc224
                                                                (try simp only [i32_lt, i32_le, i32_e, z32_0, z32_1, z32N_1] at mc224n)
                                                                first
                                                                | (exfalso; omega)
                                                                | obtain ⟨_, k⟩ := zk_gd k
                                                                  by_cases mc225 : 0 ≤ (mod_holds x1.toNatClampNeg)
                                                                  · replace k := zk_t mc225 k
                                                                    have mc225n := mc225
                                                                    (try simp only [i32_lt, i32_le, i32_e, z32_0, z32_1] at mc225n)
                                                                    first
                                                                    | (exfalso; omega)
                                                                    | have h := Option.some.inj h
                                                                      replace k := Option.some.inj k
                                                                      subst h
                                                                      subst k
                                                                      try dsimp only
                                                                      all_goals first
                                                                      | exact ⟨rfl, hP2, fun i hi => rfl⟩
                                                                      | (exfalso; omega)
                                                                  · replace k := zk_f mc225 k
                                                                    have mc225n := mc225
                                                                    (try simp only [i32_lt, i32_le, i32_e, z32_0, z32_1] at mc225n)
                                                                    first
                                                                    | (exfalso; omega)
                                                                    | obtain ⟨_, k⟩ := zk_gd k
                                                                      replace k := zk_gd k
                                                                      obtain ⟨_, k⟩ := k
                                                                      by_cases mc226 : (mod_holds x1.toNatClampNeg) = (mod_holds x3.toNatClampNeg)
                                                                      · replace k := zk_t mc226 k
                                                                        have mc226n := mc226
                                                                        (try simp only [i32_lt, i32_le, i32_e, z32_0, z32_1] at mc226n)
                                                                        first
                                                                        | (exfalso; omega)
                                                                        | have k := zk_f cc29 k
                                                                          replace k := zk_f cc28 k
                                                                          replace k := zk_f cc35 k
                                                                          replace k := zk_gd k
                                                                          obtain ⟨_, k⟩ := k
                                                                          by_cases mc227 : ((mod_size x1.toNatClampNeg) - x5) < x2
                                                                          · replace k := zk_t mc227 k
                                                                            have mc227n := mc227
                                                                            (try simp only [i32_lt, i32_le, i32_e, z32_0, z32_1] at mc227n)
                                                                            first
                                                                            | (exfalso; omega)
                                                                            | have h := Option.some.inj h
                                                                              replace k := Option.some.inj k
                                                                              subst h
                                                                              subst k
                                                                              try dsimp only
                                                                              all_goals first
                                                                              | exact ⟨rfl, hP2, fun i hi => rfl⟩
                                                                              | (exfalso; omega)
                                                                          · replace k := zk_f mc227 k
                                                                            have mc227n := mc227
                                                                            (try simp only [i32_lt, i32_le, i32_e, z32_0, z32_1] at mc227n)
                                                                            first
                                                                            | (exfalso; omega)
                                                                            | obtain ⟨_, k⟩ := zk_gd k
                                                                              by_cases mc228 : x4 ≤ ((mod_size x3.toNatClampNeg) - x5)
                                                                              · replace k := zk_t mc228 k
                                                                                have mc228n := mc228
                                                                                (try simp only [i32_lt, i32_le, i32_e, z32_0, z32_1] at mc228n)
                                                                                first
                                                                                | (exfalso; omega)
                                                                                | have h := Option.some.inj h
                                                                                  subst h
                                                                                  exfalso
                                                                                  omega
                                                                              · replace k := zk_f mc228 k
                                                                                have mc228n := mc228
                                                                                (try simp only [i32_lt, i32_le, i32_e, z32_0, z32_1] at mc228n)
                                                                                first
                                                                                | (exfalso; omega)
                                                                                | have h := Option.some.inj h
                                                                                  replace k := Option.some.inj k
                                                                                  subst h
                                                                                  subst k
                                                                                  try dsimp only
                                                                                  all_goals first
                                                                                  | exact ⟨rfl, hP2, fun i hi => rfl⟩
                                                                                  | (exfalso; omega)
                                                                      · replace k := zk_f mc226 k
                                                                        have mc226n := mc226
                                                                        (try simp only [i32_lt, i32_le, i32_e, z32_0, z32_1] at mc226n)
                                                                        first
                                                                        | (exfalso; omega)
                                                                        | have h := Option.some.inj h
                                                                          replace k := Option.some.inj k
                                                                          subst h
                                                                          subst k
                                                                          try dsimp only
                                                                          all_goals first
                                                                          | exact ⟨rfl, hP2, fun i hi => rfl⟩
                                                                          | (exfalso; omega)
                                                      · have ch34 := zk_f cc36 ch34
                                                        have cc36n := cc36
                                                        (try simp only [i32_lt, i32_le, i32_e, z32_0, z32_1] at cc36n)
                                                        first
                                                        | (exfalso; omega)
                                                        | by_cases cc37 : (pm_size - x4) < x5
                                                          · have ch34 := zk_t cc37 ch34
                                                            have cc37n := cc37
                                                            (try simp only [i32_lt, i32_le, i32_e, z32_0, z32_1] at cc37n)
                                                            first
                                                            | (exfalso; omega)
                                                            | simp only [Option.some.injEq, Prod.mk.injEq] at ch34
                                                              obtain ⟨rfl, _⟩ := ch34
                                                              replace h := zk_t rfl h
                                                              have hjj1 := hj ⟨cc4, cc10⟩
                                                              subst hjj1
                                                              obtain ⟨⟨hs11, hs21, hs31⟩, he1, hd1⟩ := id hP
                                                              have hx5 : 0 ≤ x1.toInt ∧ x1.toInt ≤ 5 := by
                                                                have q1 := cc4
                                                                have q2 := cc10
                                                                rw [i32_lt, z32_0] at q1
                                                                rw [i32_le, z32L_6] at q2
                                                                omega
                                                              have hsz1 : (mod_size x1.toNatClampNeg).toInt = pl_size.toInt := by rw [hs11]
                                                              have hq1 : 0 ≤ x5.toInt → (mod_size x1.toNatClampNeg - x5).toInt = (mod_size x1.toNatClampNeg).toInt - x5.toInt := fun q => i32_dd (by omega) q
                                                              have hjj2 := hjt ⟨cc19, cc20⟩
                                                              subst hjj2
                                                              obtain ⟨⟨hs12, hs22, hs32⟩, he2, hd2⟩ := id hP2
                                                              have hx7 : 0 ≤ x3.toInt ∧ x3.toInt ≤ 5 := by
                                                                have q1 := cc19
                                                                have q2 := cc20
                                                                rw [i32_lt, z32_0] at q1
                                                                rw [i32_le, z32L_6] at q2
                                                                omega
                                                              have hsz2 : (mod_size x3.toNatClampNeg).toInt = pm_size.toInt := by rw [hs12]
                                                              have hq2 : 0 ≤ x5.toInt → (mod_size x3.toNatClampNeg - x5).toInt = (mod_size x3.toNatClampNeg).toInt - x5.toInt := fun q => i32_dd (by omega) q
                                                              unfold B_X12_shift_0 at k
                                                              replace k := zk_o2 k
                                                              obtain ⟨mv229, mv230, mh231, k⟩ := k
                                                              unfold f_X12_isShelf at mh231
                                                              unfold B_X12_isShelf_0 at mh231
                                                              obtain ⟨mv232, mv233, mh234, mh231⟩ := zk_o2 mh231
                                                              unfold f_X12_in at mh234
                                                              unfold B_X12_in_0 at mh234
                                                              have mh234 := zk_f cc4 mh234
                                                              have mh234 := zk_f (by (try simp only [i32_lt, i32_le, i32_e, z32_0, z32_1, z32L_5]); omega) mh234
                                                              simp only [Option.some.injEq, Prod.mk.injEq] at mh234
                                                              obtain ⟨rfl, _⟩ := mh234
                                                              obtain ⟨_, mh231⟩ := zk_gd mh231
                                                              simp only [Option.some.injEq, Prod.mk.injEq] at mh231
                                                              obtain ⟨rfl, _⟩ := mh231
                                                              replace k := zk_f (by decide) k
                                                              replace k := zk_o2 k
                                                              obtain ⟨mv235, mv236, mh237, k⟩ := k
                                                              unfold f_X12_isShelf at mh237
                                                              unfold B_X12_isShelf_0 at mh237
                                                              obtain ⟨mv238, mv239, mh240, mh237⟩ := zk_o2 mh237
                                                              unfold f_X12_in at mh240
                                                              unfold B_X12_in_0 at mh240
                                                              have mh240 := zk_f cc19 mh240
                                                              have mh240 := zk_f (by (try simp only [i32_lt, i32_le, i32_e, z32_0, z32_1, z32L_5]); omega) mh240
                                                              simp only [Option.some.injEq, Prod.mk.injEq] at mh240
                                                              obtain ⟨rfl, _⟩ := mh240
                                                              obtain ⟨_, mh237⟩ := zk_gd mh237
                                                              simp only [Option.some.injEq, Prod.mk.injEq] at mh237
                                                              obtain ⟨rfl, _⟩ := mh237
                                                              replace k := zk_f (by decide) k
                                                              replace k := zk_gd k
                                                              obtain ⟨_, k⟩ := k
                                                              by_cases mc241 : (mod_holds x1.toNatClampNeg) = (-1 : Int32)
                                                              · replace k := zk_t mc241 k
                                                                have mc241n := mc241
                                                                (try simp only [i32_lt, i32_le, i32_e, z32_0, z32_1, z32N_1] at mc241n)
                                                                first
                                                                | (exfalso; omega)
                                                                | have h := Option.some.inj h
                                                                  replace k := Option.some.inj k
                                                                  subst h
                                                                  subst k
                                                                  try dsimp only
                                                                  all_goals first
                                                                  | exact ⟨rfl, hP2, fun i hi => rfl⟩
                                                                  | (exfalso; omega)
                                                              · replace k := zk_f mc241 k
                                                                have mc241n := mc241
                                                                (try simp only [i32_lt, i32_le, i32_e, z32_0, z32_1, z32N_1] at mc241n)
                                                                first
                                                                | (exfalso; omega)
                                                                | obtain ⟨_, k⟩ := zk_gd k
                                                                  by_cases mc242 : (mod_holds x3.toNatClampNeg) = (-1 : Int32)
                                                                  · replace k := zk_t mc242 k
                                                                    have mc242n := mc242
                                                                    (try simp only [i32_lt, i32_le, i32_e, z32_0, z32_1, z32N_1] at mc242n)
                                                                    first
                                                                    | (exfalso; omega)
                                                                    | have h := Option.some.inj h
                                                                      replace k := Option.some.inj k
                                                                      subst h
                                                                      subst k
                                                                      try dsimp only
                                                                      all_goals first
                                                                      | exact ⟨rfl, hP2, fun i hi => rfl⟩
                                                                      | (exfalso; omega)
                                                                  · replace k := zk_f mc242 k
                                                                    have mc242n := mc242
                                                                    (try simp only [i32_lt, i32_le, i32_e, z32_0, z32_1, z32N_1] at mc242n)
                                                                    first
                                                                    | (exfalso; omega)
                                                                    | obtain ⟨_, k⟩ := zk_gd k
                                                                      by_cases mc243 : 0 ≤ (mod_holds x1.toNatClampNeg)
                                                                      · replace k := zk_t mc243 k
                                                                        have mc243n := mc243
                                                                        (try simp only [i32_lt, i32_le, i32_e, z32_0, z32_1] at mc243n)
                                                                        first
                                                                        | (exfalso; omega)
                                                                        | have h := Option.some.inj h
                                                                          replace k := Option.some.inj k
                                                                          subst h
                                                                          subst k
                                                                          try dsimp only
                                                                          all_goals first
                                                                          | exact ⟨rfl, hP2, fun i hi => rfl⟩
                                                                          | (exfalso; omega)
                                                                      · replace k := zk_f mc243 k
                                                                        have mc243n := mc243
                                                                        (try simp only [i32_lt, i32_le, i32_e, z32_0, z32_1] at mc243n)
                                                                        first
                                                                        | (exfalso; omega)
                                                                        | obtain ⟨_, k⟩ := zk_gd k
                                                                          replace k := zk_gd k
                                                                          obtain ⟨_, k⟩ := k
                                                                          by_cases mc244 : (mod_holds x1.toNatClampNeg) = (mod_holds x3.toNatClampNeg)
                                                                          · replace k := zk_t mc244 k
                                                                            have mc244n := mc244
                                                                            (try simp only [i32_lt, i32_le, i32_e, z32_0, z32_1] at mc244n)
                                                                            first
                                                                            | (exfalso; omega)
                                                                            | have k := zk_f cc29 k
                                                                              replace k := zk_f cc28 k
                                                                              replace k := zk_f cc35 k
                                                                              replace k := zk_gd k
                                                                              obtain ⟨_, k⟩ := k
                                                                              by_cases mc245 : ((mod_size x1.toNatClampNeg) - x5) < x2
                                                                              · replace k := zk_t mc245 k
                                                                                have mc245n := mc245
                                                                                (try simp only [i32_lt, i32_le, i32_e, z32_0, z32_1] at mc245n)
                                                                                first
                                                                                | (exfalso; omega)
                                                                                | have h := Option.some.inj h
                                                                                  replace k := Option.some.inj k
                                                                                  subst h
                                                                                  subst k
                                                                                  try dsimp only
                                                                                  all_goals first
                                                                                  | exact ⟨rfl, hP2, fun i hi => rfl⟩
                                                                                  | (exfalso; omega)
                                                                              · replace k := zk_f mc245 k
                                                                                have mc245n := mc245
                                                                                (try simp only [i32_lt, i32_le, i32_e, z32_0, z32_1] at mc245n)
                                                                                first
                                                                                | (exfalso; omega)
                                                                                | obtain ⟨_, k⟩ := zk_gd k
                                                                                  by_cases mc246 : x4 ≤ ((mod_size x3.toNatClampNeg) - x5)
                                                                                  · replace k := zk_t mc246 k
                                                                                    have mc246n := mc246
                                                                                    (try simp only [i32_lt, i32_le, i32_e, z32_0, z32_1] at mc246n)
                                                                                    first
                                                                                    | (exfalso; omega)
                                                                                    | have h := Option.some.inj h
                                                                                      subst h
                                                                                      exfalso
                                                                                      omega
                                                                                  · replace k := zk_f mc246 k
                                                                                    have mc246n := mc246
                                                                                    (try simp only [i32_lt, i32_le, i32_e, z32_0, z32_1] at mc246n)
                                                                                    first
                                                                                    | (exfalso; omega)
                                                                                    | have h := Option.some.inj h
                                                                                      replace k := Option.some.inj k
                                                                                      subst h
                                                                                      subst k
                                                                                      try dsimp only
                                                                                      all_goals first
                                                                                      | exact ⟨rfl, hP2, fun i hi => rfl⟩
                                                                                      | (exfalso; omega)
                                                                          · replace k := zk_f mc244 k
                                                                            have mc244n := mc244
                                                                            (try simp only [i32_lt, i32_le, i32_e, z32_0, z32_1] at mc244n)
                                                                            first
                                                                            | (exfalso; omega)
                                                                            | have h := Option.some.inj h
                                                                              replace k := Option.some.inj k
                                                                              subst h
                                                                              subst k
                                                                              try dsimp only
                                                                              all_goals first
                                                                              | exact ⟨rfl, hP2, fun i hi => rfl⟩
                                                                              | (exfalso; omega)
                                                          · have ch34 := zk_f cc37 ch34
                                                            have cc37n := cc37
                                                            (try simp only [i32_lt, i32_le, i32_e, z32_0, z32_1] at cc37n)
                                                            first
                                                            | (exfalso; omega)
                                                            | simp only [Option.some.injEq, Prod.mk.injEq] at ch34
                                                              obtain ⟨rfl, _⟩ := ch34
                                                              replace h := zk_f (by decide) h
                                                              replace h := zk_gd h
                                                              obtain ⟨_, h⟩ := h
                                                              replace h := zk_lt h
                                                              obtain ⟨cv38, ce39, h⟩ := h
                                                              subst ce39
                                                              have hjj1 := hj ⟨cc4, cc10⟩
                                                              subst hjj1
                                                              obtain ⟨⟨hs11, hs21, hs31⟩, he1, hd1⟩ := id hP
                                                              have hx5 : 0 ≤ x1.toInt ∧ x1.toInt ≤ 5 := by
                                                                have q1 := cc4
                                                                have q2 := cc10
                                                                rw [i32_lt, z32_0] at q1
                                                                rw [i32_le, z32L_6] at q2
                                                                omega
                                                              have hsz1 : (mod_size x1.toNatClampNeg).toInt = pl_size.toInt := by rw [hs11]
                                                              have hq1 : 0 ≤ x5.toInt → (mod_size x1.toNatClampNeg - x5).toInt = (mod_size x1.toNatClampNeg).toInt - x5.toInt := fun q => i32_dd (by omega) q
                                                              have hjj2 := hjt ⟨cc19, cc20⟩
                                                              subst hjj2
                                                              obtain ⟨⟨hs12, hs22, hs32⟩, he2, hd2⟩ := id hP2
                                                              have hx7 : 0 ≤ x3.toInt ∧ x3.toInt ≤ 5 := by
                                                                have q1 := cc19
                                                                have q2 := cc20
                                                                rw [i32_lt, z32_0] at q1
                                                                rw [i32_le, z32L_6] at q2
                                                                omega
                                                              have hsz2 : (mod_size x3.toNatClampNeg).toInt = pm_size.toInt := by rw [hs12]
                                                              have hq2 : 0 ≤ x5.toInt → (mod_size x3.toNatClampNeg - x5).toInt = (mod_size x3.toNatClampNeg).toInt - x5.toInt := fun q => i32_dd (by omega) q
                                                              unfold B_X12_shift_0 at k
                                                              replace k := zk_o2 k
                                                              obtain ⟨mv247, mv248, mh249, k⟩ := k
                                                              unfold f_X12_isShelf at mh249
                                                              unfold B_X12_isShelf_0 at mh249
                                                              obtain ⟨mv250, mv251, mh252, mh249⟩ := zk_o2 mh249
                                                              unfold f_X12_in at mh252
                                                              unfold B_X12_in_0 at mh252
                                                              have mh252 := zk_f cc4 mh252
                                                              have mh252 := zk_f (by (try simp only [i32_lt, i32_le, i32_e, z32_0, z32_1, z32L_5]); omega) mh252
                                                              simp only [Option.some.injEq, Prod.mk.injEq] at mh252
                                                              obtain ⟨rfl, _⟩ := mh252
                                                              obtain ⟨_, mh249⟩ := zk_gd mh249
                                                              simp only [Option.some.injEq, Prod.mk.injEq] at mh249
                                                              obtain ⟨rfl, _⟩ := mh249
                                                              replace k := zk_f (by decide) k
                                                              replace k := zk_o2 k
                                                              obtain ⟨mv253, mv254, mh255, k⟩ := k
                                                              unfold f_X12_isShelf at mh255
                                                              unfold B_X12_isShelf_0 at mh255
                                                              obtain ⟨mv256, mv257, mh258, mh255⟩ := zk_o2 mh255
                                                              unfold f_X12_in at mh258
                                                              unfold B_X12_in_0 at mh258
                                                              have mh258 := zk_f cc19 mh258
                                                              have mh258 := zk_f (by (try simp only [i32_lt, i32_le, i32_e, z32_0, z32_1, z32L_5]); omega) mh258
                                                              simp only [Option.some.injEq, Prod.mk.injEq] at mh258
                                                              obtain ⟨rfl, _⟩ := mh258
                                                              obtain ⟨_, mh255⟩ := zk_gd mh255
                                                              simp only [Option.some.injEq, Prod.mk.injEq] at mh255
                                                              obtain ⟨rfl, _⟩ := mh255
                                                              replace k := zk_f (by decide) k
                                                              replace k := zk_gd k
                                                              obtain ⟨_, k⟩ := k
                                                              by_cases mc259 : (mod_holds x1.toNatClampNeg) = (-1 : Int32)
                                                              · replace k := zk_t mc259 k
                                                                have mc259n := mc259
                                                                (try simp only [i32_lt, i32_le, i32_e, z32_0, z32_1, z32N_1] at mc259n)
                                                                first
                                                                | (exfalso; omega)
                                                                | have h := Option.some.inj h
                                                                  replace k := Option.some.inj k
                                                                  subst h
                                                                  subst k
                                                                  try dsimp only
                                                                  all_goals first
                                                                  | exact ⟨rfl, hP2, fun i hi => rfl⟩
                                                                  | (exfalso; omega)
                                                              · replace k := zk_f mc259 k
                                                                have mc259n := mc259
                                                                (try simp only [i32_lt, i32_le, i32_e, z32_0, z32_1, z32N_1] at mc259n)
                                                                first
                                                                | (exfalso; omega)
                                                                | obtain ⟨_, k⟩ := zk_gd k
                                                                  by_cases mc260 : (mod_holds x3.toNatClampNeg) = (-1 : Int32)
                                                                  · replace k := zk_t mc260 k
                                                                    have mc260n := mc260
                                                                    (try simp only [i32_lt, i32_le, i32_e, z32_0, z32_1, z32N_1] at mc260n)
                                                                    first
                                                                    | (exfalso; omega)
                                                                    | have h := Option.some.inj h
                                                                      replace k := Option.some.inj k
                                                                      subst h
                                                                      subst k
                                                                      try dsimp only
                                                                      all_goals first
                                                                      | exact ⟨rfl, hP2, fun i hi => rfl⟩
                                                                      | (exfalso; omega)
                                                                  · replace k := zk_f mc260 k
                                                                    have mc260n := mc260
                                                                    (try simp only [i32_lt, i32_le, i32_e, z32_0, z32_1, z32N_1] at mc260n)
                                                                    first
                                                                    | (exfalso; omega)
                                                                    | obtain ⟨_, k⟩ := zk_gd k
                                                                      by_cases mc261 : 0 ≤ (mod_holds x1.toNatClampNeg)
                                                                      · replace k := zk_t mc261 k
                                                                        have mc261n := mc261
                                                                        (try simp only [i32_lt, i32_le, i32_e, z32_0, z32_1] at mc261n)
                                                                        first
                                                                        | (exfalso; omega)
                                                                        | have h := Option.some.inj h
                                                                          replace k := Option.some.inj k
                                                                          subst h
                                                                          subst k
                                                                          try dsimp only
                                                                          all_goals first
                                                                          | exact ⟨rfl, hP2, fun i hi => rfl⟩
                                                                          | (exfalso; omega)
                                                                      · replace k := zk_f mc261 k
                                                                        have mc261n := mc261
                                                                        (try simp only [i32_lt, i32_le, i32_e, z32_0, z32_1] at mc261n)
                                                                        first
                                                                        | (exfalso; omega)
                                                                        | obtain ⟨_, k⟩ := zk_gd k
                                                                          replace k := zk_gd k
                                                                          obtain ⟨_, k⟩ := k
                                                                          by_cases mc262 : (mod_holds x1.toNatClampNeg) = (mod_holds x3.toNatClampNeg)
                                                                          · replace k := zk_t mc262 k
                                                                            have mc262n := mc262
                                                                            (try simp only [i32_lt, i32_le, i32_e, z32_0, z32_1] at mc262n)
                                                                            first
                                                                            | (exfalso; omega)
                                                                            | have k := zk_f cc29 k
                                                                              replace k := zk_f cc28 k
                                                                              replace k := zk_f cc35 k
                                                                              replace k := zk_gd k
                                                                              obtain ⟨_, k⟩ := k
                                                                              by_cases mc263 : ((mod_size x1.toNatClampNeg) - x5) < x2
                                                                              · replace k := zk_t mc263 k
                                                                                have mc263n := mc263
                                                                                (try simp only [i32_lt, i32_le, i32_e, z32_0, z32_1] at mc263n)
                                                                                first
                                                                                | (exfalso; omega)
                                                                                | have h := Option.some.inj h
                                                                                  replace k := Option.some.inj k
                                                                                  subst h
                                                                                  subst k
                                                                                  try dsimp only
                                                                                  all_goals first
                                                                                  | exact ⟨rfl, hP2, fun i hi => rfl⟩
                                                                                  | (exfalso; omega)
                                                                              · replace k := zk_f mc263 k
                                                                                have mc263n := mc263
                                                                                (try simp only [i32_lt, i32_le, i32_e, z32_0, z32_1] at mc263n)
                                                                                first
                                                                                | (exfalso; omega)
                                                                                | obtain ⟨_, k⟩ := zk_gd k
                                                                                  by_cases mc264 : x4 ≤ ((mod_size x3.toNatClampNeg) - x5)
                                                                                  · replace k := zk_t mc264 k
                                                                                    have mc264n := mc264
                                                                                    (try simp only [i32_lt, i32_le, i32_e, z32_0, z32_1] at mc264n)
                                                                                    first
                                                                                    | (exfalso; omega)
                                                                                    | have h := Option.some.inj h
                                                                                      subst h
                                                                                      obtain ⟨w1, w2⟩ := sh113 hx5 (by omega) hx7 (by omega) (by omega) _ _ _ _ Q (by decide) (by rw [z32_0]; omega) (fun k hk => absurd hk (by rw [z32_0]; exact Nat.not_lt_zero k)) k
                                                                                      have e1 : x1.toNatClampNeg = x1.toInt.toNat := rfl
                                                                                      have e2 : x2.toNatClampNeg = x2.toInt.toNat := rfl
                                                                                      have e3 : x3.toNatClampNeg = x3.toInt.toNat := rfl
                                                                                      have e4 : x4.toNatClampNeg = x4.toInt.toNat := rfl
                                                                                      have e5 : x5.toNatClampNeg = x5.toInt.toNat := rfl
                                                                                      refine ⟨w1.symm, ⟨⟨hs12, hs22, hs32⟩, fun k hk => ?_, hd2⟩, fun i hi => by rw [w2 i, if_neg (by omega)]⟩
                                                                                      rw [w2]
                                                                                      show _ = va_cpy pl_elements pm_elements x2.toNatClampNeg x4.toNatClampNeg x5.toNatClampNeg k
                                                                                      unfold va_cpy
                                                                                      by_cases ck : x4.toNatClampNeg ≤ k ∧ k < x4.toNatClampNeg + x5.toNatClampNeg
                                                                                      · rw [if_pos ck, if_pos (by omega), ← he1 _ (by omega)]
                                                                                        congr 1
                                                                                        omega
                                                                                      · rw [if_neg ck, if_neg (by omega)]
                                                                                        exact he2 k hk
                                                                                  · replace k := zk_f mc264 k
                                                                                    have mc264n := mc264
                                                                                    (try simp only [i32_lt, i32_le, i32_e, z32_0, z32_1] at mc264n)
                                                                                    first
                                                                                    | (exfalso; omega)
                                                                                    | have h := Option.some.inj h
                                                                                      replace k := Option.some.inj k
                                                                                      subst h
                                                                                      subst k
                                                                                      try dsimp only
                                                                                      all_goals first
                                                                                      | exact ⟨rfl, hP2, fun i hi => rfl⟩
                                                                                      | (exfalso; omega)
                                                                          · replace k := zk_f mc262 k
                                                                            have mc262n := mc262
                                                                            (try simp only [i32_lt, i32_le, i32_e, z32_0, z32_1] at mc262n)
                                                                            first
                                                                            | (exfalso; omega)
                                                                            | have h := Option.some.inj h
                                                                              replace k := Option.some.inj k
                                                                              subst h
                                                                              subst k
                                                                              try dsimp only
                                                                              all_goals first
                                                                              | exact ⟨rfl, hP2, fun i hi => rfl⟩
                                                                              | (exfalso; omega)
                              · replace h := zk_f cc24 h
                                have cc24n := cc24
                                (try simp only [i32_lt, i32_le, i32_e, z32_0, z32_1] at cc24n)
                                first
                                | (exfalso; omega)
                                | have hjj1 := hj ⟨cc4, cc10⟩
                                  subst hjj1
                                  obtain ⟨⟨hs11, hs21, hs31⟩, he1, hd1⟩ := id hP
                                  have hx5 : 0 ≤ x1.toInt ∧ x1.toInt ≤ 5 := by
                                    have q1 := cc4
                                    have q2 := cc10
                                    rw [i32_lt, z32_0] at q1
                                    rw [i32_le, z32L_6] at q2
                                    omega
                                  have hsz1 : (mod_size x1.toNatClampNeg).toInt = pl_size.toInt := by rw [hs11]
                                  have hq1 : 0 ≤ x5.toInt → (mod_size x1.toNatClampNeg - x5).toInt = (mod_size x1.toNatClampNeg).toInt - x5.toInt := fun q => i32_dd (by omega) q
                                  have hjj2 := hjt ⟨cc19, cc20⟩
                                  subst hjj2
                                  obtain ⟨⟨hs12, hs22, hs32⟩, he2, hd2⟩ := id hP2
                                  have hx7 : 0 ≤ x3.toInt ∧ x3.toInt ≤ 5 := by
                                    have q1 := cc19
                                    have q2 := cc20
                                    rw [i32_lt, z32_0] at q1
                                    rw [i32_le, z32L_6] at q2
                                    omega
                                  have hsz2 : (mod_size x3.toNatClampNeg).toInt = pm_size.toInt := by rw [hs12]
                                  have hq2 : 0 ≤ x5.toInt → (mod_size x3.toNatClampNeg - x5).toInt = (mod_size x3.toNatClampNeg).toInt - x5.toInt := fun q => i32_dd (by omega) q
                                  unfold B_X12_shift_0 at k
                                  replace k := zk_o2 k
                                  obtain ⟨mv265, mv266, mh267, k⟩ := k
                                  unfold f_X12_isShelf at mh267
                                  unfold B_X12_isShelf_0 at mh267
                                  obtain ⟨mv268, mv269, mh270, mh267⟩ := zk_o2 mh267
                                  unfold f_X12_in at mh270
                                  unfold B_X12_in_0 at mh270
                                  have mh270 := zk_f cc4 mh270
                                  have mh270 := zk_f (by (try simp only [i32_lt, i32_le, i32_e, z32_0, z32_1, z32L_5]); omega) mh270
                                  simp only [Option.some.injEq, Prod.mk.injEq] at mh270
                                  obtain ⟨rfl, _⟩ := mh270
                                  obtain ⟨_, mh267⟩ := zk_gd mh267
                                  simp only [Option.some.injEq, Prod.mk.injEq] at mh267
                                  obtain ⟨rfl, _⟩ := mh267
                                  replace k := zk_f (by decide) k
                                  replace k := zk_o2 k
                                  obtain ⟨mv271, mv272, mh273, k⟩ := k
                                  unfold f_X12_isShelf at mh273
                                  unfold B_X12_isShelf_0 at mh273
                                  obtain ⟨mv274, mv275, mh276, mh273⟩ := zk_o2 mh273
                                  unfold f_X12_in at mh276
                                  unfold B_X12_in_0 at mh276
                                  have mh276 := zk_f cc19 mh276
                                  have mh276 := zk_f (by (try simp only [i32_lt, i32_le, i32_e, z32_0, z32_1, z32L_5]); omega) mh276
                                  simp only [Option.some.injEq, Prod.mk.injEq] at mh276
                                  obtain ⟨rfl, _⟩ := mh276
                                  obtain ⟨_, mh273⟩ := zk_gd mh273
                                  simp only [Option.some.injEq, Prod.mk.injEq] at mh273
                                  obtain ⟨rfl, _⟩ := mh273
                                  replace k := zk_f (by decide) k
                                  replace k := zk_gd k
                                  obtain ⟨_, k⟩ := k
                                  by_cases mc277 : (mod_holds x1.toNatClampNeg) = (-1 : Int32)
                                  · replace k := zk_t mc277 k
                                    have mc277n := mc277
                                    (try simp only [i32_lt, i32_le, i32_e, z32_0, z32_1, z32N_1] at mc277n)
                                    first
                                    | (exfalso; omega)
                                    | have h := Option.some.inj h
                                      replace k := Option.some.inj k
                                      subst h
                                      subst k
                                      try dsimp only
                                      all_goals first
                                      | exact ⟨rfl, hP2, fun i hi => rfl⟩
                                      | (exfalso; omega)
                                  · replace k := zk_f mc277 k
                                    have mc277n := mc277
                                    (try simp only [i32_lt, i32_le, i32_e, z32_0, z32_1, z32N_1] at mc277n)
                                    first
                                    | (exfalso; omega)
                                    | obtain ⟨_, k⟩ := zk_gd k
                                      by_cases mc278 : (mod_holds x3.toNatClampNeg) = (-1 : Int32)
                                      · replace k := zk_t mc278 k
                                        have mc278n := mc278
                                        (try simp only [i32_lt, i32_le, i32_e, z32_0, z32_1, z32N_1] at mc278n)
                                        first
                                        | (exfalso; omega)
                                        | have h := Option.some.inj h
                                          replace k := Option.some.inj k
                                          subst h
                                          subst k
                                          try dsimp only
                                          all_goals first
                                          | exact ⟨rfl, hP2, fun i hi => rfl⟩
                                          | (exfalso; omega)
                                      · replace k := zk_f mc278 k
                                        have mc278n := mc278
                                        (try simp only [i32_lt, i32_le, i32_e, z32_0, z32_1, z32N_1] at mc278n)
                                        first
                                        | (exfalso; omega)
                                        | obtain ⟨_, k⟩ := zk_gd k
                                          by_cases mc279 : 0 ≤ (mod_holds x1.toNatClampNeg)
                                          · replace k := zk_t mc279 k
                                            have mc279n := mc279
                                            (try simp only [i32_lt, i32_le, i32_e, z32_0, z32_1] at mc279n)
                                            first
                                            | (exfalso; omega)
                                            | have h := Option.some.inj h
                                              replace k := Option.some.inj k
                                              subst h
                                              subst k
                                              try dsimp only
                                              all_goals first
                                              | exact ⟨rfl, hP2, fun i hi => rfl⟩
                                              | (exfalso; omega)
                                          · replace k := zk_f mc279 k
                                            have mc279n := mc279
                                            (try simp only [i32_lt, i32_le, i32_e, z32_0, z32_1] at mc279n)
                                            first
                                            | (exfalso; omega)
                                            | obtain ⟨_, k⟩ := zk_gd k
                                              replace k := zk_gd k
                                              obtain ⟨_, k⟩ := k
                                              by_cases mc280 : (mod_holds x1.toNatClampNeg) = (mod_holds x3.toNatClampNeg)
                                              · replace k := zk_t mc280 k
                                                have mc280n := mc280
                                                (try simp only [i32_lt, i32_le, i32_e, z32_0, z32_1] at mc280n)
                                                first
                                                | (exfalso; omega)
                                                | by_cases mc281 : x5 < 0
                                                  · replace k := zk_t mc281 k
                                                    have mc281n := mc281
                                                    (try simp only [i32_lt, i32_le, i32_e, z32_0, z32_1] at mc281n)
                                                    first
                                                    | (exfalso; omega)
                                                    | have h := Option.some.inj h
                                                      replace k := Option.some.inj k
                                                      subst h
                                                      subst k
                                                      try dsimp only
                                                      all_goals first
                                                      | exact ⟨rfl, hP2, fun i hi => rfl⟩
                                                      | (exfalso; omega)
                                                  · replace k := zk_f mc281 k
                                                    have mc281n := mc281
                                                    (try simp only [i32_lt, i32_le, i32_e, z32_0, z32_1] at mc281n)
                                                    first
                                                    | (exfalso; omega)
                                                    | by_cases mc282 : x2 < 0
                                                      · replace k := zk_t mc282 k
                                                        have mc282n := mc282
                                                        (try simp only [i32_lt, i32_le, i32_e, z32_0, z32_1] at mc282n)
                                                        first
                                                        | (exfalso; omega)
                                                        | have h := Option.some.inj h
                                                          replace k := Option.some.inj k
                                                          subst h
                                                          subst k
                                                          try dsimp only
                                                          all_goals first
                                                          | exact ⟨rfl, hP2, fun i hi => rfl⟩
                                                          | (exfalso; omega)
                                                      · replace k := zk_f mc282 k
                                                        have mc282n := mc282
                                                        (try simp only [i32_lt, i32_le, i32_e, z32_0, z32_1] at mc282n)
                                                        first
                                                        | (exfalso; omega)
                                                        | by_cases mc283 : x4 < 0
                                                          · replace k := zk_t mc283 k
                                                            have mc283n := mc283
                                                            (try simp only [i32_lt, i32_le, i32_e, z32_0, z32_1] at mc283n)
                                                            first
                                                            | (exfalso; omega)
                                                            | have h := Option.some.inj h
                                                              replace k := Option.some.inj k
                                                              subst h
                                                              subst k
                                                              try dsimp only
                                                              all_goals first
                                                              | exact ⟨rfl, hP2, fun i hi => rfl⟩
                                                              | (exfalso; omega)
                                                          · replace k := zk_f mc283 k
                                                            have mc283n := mc283
                                                            (try simp only [i32_lt, i32_le, i32_e, z32_0, z32_1] at mc283n)
                                                            first
                                                            | (exfalso; omega)
                                                            | obtain ⟨_, k⟩ := zk_gd k
                                                              by_cases mc284 : ((mod_size x1.toNatClampNeg) - x5) < x2
                                                              · replace k := zk_t mc284 k
                                                                have mc284n := mc284
                                                                (try simp only [i32_lt, i32_le, i32_e, z32_0, z32_1] at mc284n)
                                                                first
                                                                | (exfalso; omega)
                                                                | have h := Option.some.inj h
                                                                  replace k := Option.some.inj k
                                                                  subst h
                                                                  subst k
                                                                  try dsimp only
                                                                  all_goals first
                                                                  | exact ⟨rfl, hP2, fun i hi => rfl⟩
                                                                  | (exfalso; omega)
                                                              · replace k := zk_f mc284 k
                                                                have mc284n := mc284
                                                                (try simp only [i32_lt, i32_le, i32_e, z32_0, z32_1] at mc284n)
                                                                first
                                                                | (exfalso; omega)
                                                                | obtain ⟨_, k⟩ := zk_gd k
                                                                  by_cases mc285 : x4 ≤ ((mod_size x3.toNatClampNeg) - x5)
                                                                  · replace k := zk_t mc285 k
                                                                    have mc285n := mc285
                                                                    (try simp only [i32_lt, i32_le, i32_e, z32_0, z32_1] at mc285n)
                                                                    first
                                                                    | (exfalso; omega)
                                                                    | have h := Option.some.inj h
                                                                      subst h
                                                                      exfalso
                                                                      omega
                                                                  · replace k := zk_f mc285 k
                                                                    have mc285n := mc285
                                                                    (try simp only [i32_lt, i32_le, i32_e, z32_0, z32_1] at mc285n)
                                                                    first
                                                                    | (exfalso; omega)
                                                                    | have h := Option.some.inj h
                                                                      replace k := Option.some.inj k
                                                                      subst h
                                                                      subst k
                                                                      try dsimp only
                                                                      all_goals first
                                                                      | exact ⟨rfl, hP2, fun i hi => rfl⟩
                                                                      | (exfalso; omega)
                                              · replace k := zk_f mc280 k
                                                have mc280n := mc280
                                                (try simp only [i32_lt, i32_le, i32_e, z32_0, z32_1] at mc280n)
                                                first
                                                | (exfalso; omega)
                                                | have h := Option.some.inj h
                                                  replace k := Option.some.inj k
                                                  subst h
                                                  subst k
                                                  try dsimp only
                                                  all_goals first
                                                  | exact ⟨rfl, hP2, fun i hi => rfl⟩
                                                  | (exfalso; omega)
