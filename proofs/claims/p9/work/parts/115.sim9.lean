
theorem ix603 {x y k : Int32} (hx : 0 ≤ x.toInt ∧ x.toInt ≤ 5) (hy : 0 ≤ y.toInt ∧ y.toInt ≤ 100) (hk : 0 ≤ k.toInt ∧ k.toInt ≤ 100) : (((60 : Int32) * x + y) + k).toNatClampNeg = 60 * x.toInt.toNat + y.toInt.toNat + k.toInt.toNat := by
  have e60 : (60 : Int32).toInt = 60 := by decide
  have e : (((60 : Int32) * x + y) + k).toInt = 60 * x.toInt + y.toInt + k.toInt := by
    rw [Int32.toInt_add, Int32.toInt_add, Int32.toInt_mul, e60, zi_bm2 (e := 60 * x.toInt) (by omega) (by omega), zi_bm2 (e := 60 * x.toInt + y.toInt) (by omega) (by omega), zi_bm2 (by omega) (by omega)]
  rw [tcn, e]
  omega
set_option maxHeartbeats 4000000 in
set_option maxRecDepth 20000 in
theorem sh150 {mod_code : Int32} {court_shoeCount : Int32} {mod_claims : Int32} {ts : Int32} {at_ : Int32} {f : Int32} {court_suitCount : Int32} {mod_doneMany : Int32} {mod_undoneMany : Int32} {mod_open : Int32} {mod_laid : Int32} {mod_isBoth : Int32} {mod_wished : Int32} {mod_bestMany : Int32} {mod_bestRow : Int32} {mod_ringDigits : Int32} {mod_traces : Int32} {mod_holds : Nat → Int32} {mod_size : Nat → Int32} {x3 x4 x5 : Int32} (h3 : 0 ≤ x3.toInt ∧ x3.toInt ≤ 5) (h4 : 0 ≤ x4.toInt ∧ x4.toInt ≤ 60) (h5 : 0 ≤ x5.toInt ∧ x5.toInt ≤ 60) : ∀ (n : Nat) (x6 : Int32) (mod_elements mod_shifted : Nat → Int64) (Q : Int32 × (Nat → Int64) × (Nat → Int64)), 0 ≤ x6.toInt → x6.toInt ≤ x5.toInt → (G_X12_shift mod_code court_shoeCount mod_claims ts at_ f court_suitCount mod_doneMany mod_undoneMany mod_open mod_laid mod_isBoth mod_wished mod_bestMany mod_bestRow mod_ringDigits mod_traces mod_holds mod_size n).2 x3 x4 x5 x6 mod_elements mod_shifted = some Q → Q.1 = x5 ∧ ∀ k, Q.2.1 k = if 60 * x3.toInt.toNat + x4.toInt.toNat + x6.toInt.toNat ≤ k ∧ k < 60 * x3.toInt.toNat + x4.toInt.toNat + x5.toInt.toNat then mod_shifted (k - (60 * x3.toInt.toNat + x4.toInt.toNat)) else mod_elements k := by
  intro n
  induction n with
  | zero =>
    intro x6 mod_elements mod_shifted Q _ _ h
    cases h
  | succ n ih =>
    intro x6 mod_elements mod_shifted Q h6 h7 h
    replace h : B_X12_shift_150 ((G_X12_shift mod_code court_shoeCount mod_claims ts at_ f court_suitCount mod_doneMany mod_undoneMany mod_open mod_laid mod_isBoth mod_wished mod_bestMany mod_bestRow mod_ringDigits mod_traces mod_holds mod_size n).1) ((G_X12_shift mod_code court_shoeCount mod_claims ts at_ f court_suitCount mod_doneMany mod_undoneMany mod_open mod_laid mod_isBoth mod_wished mod_bestMany mod_bestRow mod_ringDigits mod_traces mod_holds mod_size n).2) mod_code court_shoeCount mod_claims ts at_ f court_suitCount mod_doneMany mod_undoneMany mod_open mod_laid mod_isBoth mod_wished mod_bestMany mod_bestRow mod_ringDigits mod_traces mod_holds mod_size x3 x4 x5 x6 mod_elements mod_shifted = some Q := h
    unfold B_X12_shift_150 at h
    by_cases c : x5 ≤ x6
    · replace h := Option.some.inj (zk_t c h)
      rw [i32_le] at c
      subst h
      exact ⟨rfl, fun k => by rw [if_neg (by omega)]⟩
    · replace h := zk_f c h
      rw [i32_le] at c
      replace h := zk_gd h
      obtain ⟨_, h⟩ := h
      replace h := zk_lt h
      obtain ⟨f1, e1, h⟩ := h
      replace h := zk_gd h
      obtain ⟨_, h⟩ := h
      replace h := zk_lt h
      obtain ⟨f2, e2, h⟩ := h
      replace h := zk_lt h
      obtain ⟨f3, e3, h⟩ := h
      subst e1
      subst e2
      subst e3
      have s3 := i32_s (a := x6) (by omega)
      obtain ⟨q1, q2⟩ := ih _ _ _ Q (by omega) (by omega) h
      refine ⟨q1, fun k => ?_⟩
      rw [q2 k, ix603 h3 (by omega) (by omega), s3]
      unfold vp_updL
      by_cases ck : k = 60 * x3.toInt.toNat + x4.toInt.toNat + x6.toInt.toNat
      · rw [if_neg (by omega), if_pos ck, if_pos (by omega)]
        have e6 : x6.toNatClampNeg = x6.toInt.toNat := rfl
        rw [e6]
        congr 1
        omega
      · rw [if_neg ck]
        by_cases c2 : 60 * x3.toInt.toNat + x4.toInt.toNat + (x6.toInt + 1).toNat ≤ k ∧ k < 60 * x3.toInt.toNat + x4.toInt.toNat + x5.toInt.toNat
        · rw [if_pos c2, if_pos (by omega)]
        · rw [if_neg c2, if_neg (by omega)]
set_option maxHeartbeats 4000000 in
set_option maxRecDepth 20000 in
theorem sh113 {mod_code : Int32} {court_shoeCount : Int32} {mod_claims : Int32} {ts : Int32} {at_ : Int32} {f : Int32} {court_suitCount : Int32} {mod_doneMany : Int32} {mod_undoneMany : Int32} {mod_open : Int32} {mod_laid : Int32} {mod_isBoth : Int32} {mod_wished : Int32} {mod_bestMany : Int32} {mod_bestRow : Int32} {mod_ringDigits : Int32} {mod_traces : Int32} {mod_holds : Nat → Int32} {mod_size : Nat → Int32} {x1 x2 x3 x4 x5 : Int32} (h1 : 0 ≤ x1.toInt ∧ x1.toInt ≤ 5) (h2 : 0 ≤ x2.toInt ∧ x2.toInt ≤ 60) (h3 : 0 ≤ x3.toInt ∧ x3.toInt ≤ 5) (h4 : 0 ≤ x4.toInt ∧ x4.toInt ≤ 60) (h5 : 0 ≤ x5.toInt ∧ x5.toInt ≤ 60) : ∀ (n : Nat) (x6 : Int32) (mod_elements mod_shifted : Nat → Int64) (Q : Int32 × (Nat → Int64) × (Nat → Int64)), 0 ≤ x6.toInt → x6.toInt ≤ x5.toInt → (∀ k, k < x6.toInt.toNat → mod_shifted k = mod_elements (60 * x1.toInt.toNat + x2.toInt.toNat + k)) → (G_X12_shift mod_code court_shoeCount mod_claims ts at_ f court_suitCount mod_doneMany mod_undoneMany mod_open mod_laid mod_isBoth mod_wished mod_bestMany mod_bestRow mod_ringDigits mod_traces mod_holds mod_size n).1 x1 x2 x3 x4 x5 x6 mod_elements mod_shifted = some Q → Q.1 = x5 ∧ ∀ k, Q.2.1 k = if 60 * x3.toInt.toNat + x4.toInt.toNat ≤ k ∧ k < 60 * x3.toInt.toNat + x4.toInt.toNat + x5.toInt.toNat then mod_elements (60 * x1.toInt.toNat + x2.toInt.toNat + (k - (60 * x3.toInt.toNat + x4.toInt.toNat))) else mod_elements k := by
  intro n
  induction n with
  | zero =>
    intro x6 mod_elements mod_shifted Q _ _ _ h
    cases h
  | succ n ih =>
    intro x6 mod_elements mod_shifted Q h6 h7 hs h
    replace h : B_X12_shift_113 ((G_X12_shift mod_code court_shoeCount mod_claims ts at_ f court_suitCount mod_doneMany mod_undoneMany mod_open mod_laid mod_isBoth mod_wished mod_bestMany mod_bestRow mod_ringDigits mod_traces mod_holds mod_size n).1) ((G_X12_shift mod_code court_shoeCount mod_claims ts at_ f court_suitCount mod_doneMany mod_undoneMany mod_open mod_laid mod_isBoth mod_wished mod_bestMany mod_bestRow mod_ringDigits mod_traces mod_holds mod_size n).2) mod_code court_shoeCount mod_claims ts at_ f court_suitCount mod_doneMany mod_undoneMany mod_open mod_laid mod_isBoth mod_wished mod_bestMany mod_bestRow mod_ringDigits mod_traces mod_holds mod_size x1 x2 x3 x4 x5 x6 mod_elements mod_shifted = some Q := h
    unfold B_X12_shift_113 at h
    by_cases c : x5 ≤ x6
    · replace h := zk_t c h
      rw [i32_le] at c
      obtain ⟨q1, q2⟩ := sh150 h3 h4 h5 n _ _ _ Q (by decide) (by rw [z32_0]; omega) h
      refine ⟨q1, fun k => ?_⟩
      rw [q2 k, z32_0]
      by_cases c2 : 60 * x3.toInt.toNat + x4.toInt.toNat ≤ k ∧ k < 60 * x3.toInt.toNat + x4.toInt.toNat + x5.toInt.toNat
      · rw [if_pos c2, if_pos (by omega), hs _ (by omega)]
      · rw [if_neg c2, if_neg (by omega)]
    · replace h := zk_f c h
      rw [i32_le] at c
      replace h := zk_gd h
      obtain ⟨_, h⟩ := h
      replace h := zk_lt h
      obtain ⟨f1, e1, h⟩ := h
      replace h := zk_gd h
      obtain ⟨_, h⟩ := h
      replace h := zk_lt h
      obtain ⟨f2, e2, h⟩ := h
      replace h := zk_lt h
      obtain ⟨f3, e3, h⟩ := h
      subst e1
      subst e2
      subst e3
      have s3 := i32_s (a := x6) (by omega)
      have e6 : x6.toNatClampNeg = x6.toInt.toNat := rfl
      refine ih _ _ _ Q (by omega) (by omega) (fun k hk => ?_) h
      rw [ix603 h1 (by omega) (by omega)]
      unfold vp_updL
      by_cases ck : k = x6.toNatClampNeg
      · rw [if_pos ck, ck, e6]
      · rw [if_neg ck]
        exact hs k (by omega)
set_option maxHeartbeats 4000000 in
set_option maxRecDepth 20000 in
theorem pw_shiftB {mod_code : Int32} {court_shoeCount : Int32} {mod_claims : Int32} {ts : Int32} {at_ : Int32} {f : Int32} {court_suitCount : Int32} {mod_doneMany : Int32} {mod_undoneMany : Int32} {mod_open : Int32} {mod_laid : Int32} {mod_isBoth : Int32} {mod_wished : Int32} {mod_bestMany : Int32} {mod_bestRow : Int32} {mod_ringDigits : Int32} {mod_traces : Int32} {mod_holds : Nat → Int32} {mod_size : Nat → Int32} {mod_elements : Nat → Int64} {mod_shifted : Nat → Int64} {pl_suit : Int32} {pl_holds : Int32} {pl_size : Int32} {pl_elements : Nat → Int64} {root_places : Nat → Option Nat} {pm_holds : Int32} {pm_suit : Int32} {pm_size : Int32} {pm_elements : Nat → Int64} {m : Nat} {x1 x2 x3 x4 x5 : Int32} {j jt h_pl h_pm : Nat} (hj : (¬ x1 < 0 ∧ ¬ 6 ≤ x1) → x1.toNatClampNeg = j) (hjt : (¬ x3 < 0 ∧ ¬ 6 ≤ x3) → x3.toNatClampNeg = jt) (hP : PLR court_suitCount j pl_holds pl_suit pl_size pl_elements mod_holds mod_size mod_elements) (hP2 : PLR court_suitCount jt pm_holds pm_suit pm_size pm_elements mod_holds mod_size mod_elements) {R : Int32 × (Nat → Int64)} {Q : Int32 × (Nat → Int64) × (Nat → Int64)} (h : f_X11_shiftB h_pl h_pm x1 x2 x3 x4 x5 root_places pl_holds pl_suit pl_size pl_elements pm_holds pm_suit pm_size pm_elements = some R) (k : f_X12_shift m x1 x2 x3 x4 x5 mod_code court_shoeCount mod_claims ts at_ f court_suitCount mod_doneMany mod_undoneMany mod_open mod_laid mod_isBoth mod_wished mod_bestMany mod_bestRow mod_ringDigits mod_traces mod_holds mod_size mod_elements mod_shifted = some Q) : R.1 = Q.1 ∧ PLR court_suitCount jt pm_holds pm_suit pm_size R.2 mod_holds mod_size Q.2.1 ∧ (∀ i, (i < 60 * jt ∨ 60 * jt + 60 ≤ i) → Q.2.1 i = mod_elements i) := by
  have hsb1 : 0 ≤ pl_size.toInt → pl_size.toInt ≤ 60 → 0 ≤ x2.toInt → x2.toInt ≤ 60 → (pl_size - x2).toInt = pl_size.toInt - x2.toInt := fun _ _ q1 q2 => i32_d (by omega) (by omega)
  have hsb2 : 0 ≤ pm_size.toInt → pm_size.toInt ≤ 60 → 0 ≤ x4.toInt → x4.toInt ≤ 60 → (pm_size - x4).toInt = pm_size.toInt - x4.toInt := fun _ _ q1 q2 => i32_d (by omega) (by omega)
  have hsz01 := hP.1
  have hsz02 := hP2.1
  unfold f_X11_shiftB at h
  unfold f_X12_shift at k
  unfold B_X11_shiftB_0 at h
  replace h := zk_o2 h
  obtain ⟨cv1, cv2, ch3, h⟩ := h
  unfold f_X11_placeAt at ch3
  unfold B_X11_placeAt_0 at ch3
  by_cases cc4 : x1 < 0
  · have ch3 := zk_t cc4 ch3
    have cc4n := cc4
    (try simp only [i32_lt, i32_le, i32_e, z32_0, z32_1] at cc4n)
    first
    | (exfalso; omega)
    | simp only [Option.some.injEq, Prod.mk.injEq] at ch3
      obtain ⟨rfl, _⟩ := ch3
      replace h := zk_f (by decide) h
      replace h := zk_o2 h
      obtain ⟨cv5, cv6, ch7, h⟩ := h
      unfold f_X11_placeAt at ch7
      unfold B_X11_placeAt_0 at ch7
      by_cases cc8 : x3 < 0
      · have ch7 := zk_t cc8 ch7
        have cc8n := cc8
        (try simp only [i32_lt, i32_le, i32_e, z32_0, z32_1] at cc8n)
        first
        | (exfalso; omega)
        | simp only [Option.some.injEq, Prod.mk.injEq] at ch7
          obtain ⟨rfl, _⟩ := ch7
          replace h := zk_f (by decide) h
          unfold B_X12_shift_0 at k
          replace k := zk_o2 k
          obtain ⟨mv1, mv2, mh3, k⟩ := k
          unfold f_X12_isShelf at mh3
          unfold B_X12_isShelf_0 at mh3
          obtain ⟨mv4, mv5, mh6, mh3⟩ := zk_o2 mh3
          unfold f_X12_in at mh6
          unfold B_X12_in_0 at mh6
          have mh6 := zk_t cc4 mh6
          simp only [Option.some.injEq, Prod.mk.injEq] at mh6
          obtain ⟨rfl, _⟩ := mh6
          obtain ⟨_, mh3⟩ := zk_gd mh3
          simp only [Option.some.injEq, Prod.mk.injEq] at mh3
          obtain ⟨rfl, _⟩ := mh3
          replace k := zk_t rfl k
          replace h := Option.some.inj h
          replace k := Option.some.inj k
          subst h
          subst k
          try dsimp only
          all_goals first
          | exact ⟨rfl, hP2, fun i hi => rfl⟩
          | (exfalso; omega)
      · have ch7 := zk_f cc8 ch7
        have cc8n := cc8
        (try simp only [i32_lt, i32_le, i32_e, z32_0, z32_1] at cc8n)
        first
        | (exfalso; omega)
        | by_cases cc9 : (6 : Int32) ≤ x3
          · have ch7 := zk_t cc9 ch7
            have cc9n := cc9
            (try simp only [i32_lt, i32_le, i32_e, z32_0, z32_1, z32L_6] at cc9n)
            first
            | (exfalso; omega)
            | simp only [Option.some.injEq, Prod.mk.injEq] at ch7
              obtain ⟨rfl, _⟩ := ch7
              replace h := zk_f (by decide) h
              unfold B_X12_shift_0 at k
              replace k := zk_o2 k
              obtain ⟨mv7, mv8, mh9, k⟩ := k
              unfold f_X12_isShelf at mh9
              unfold B_X12_isShelf_0 at mh9
              obtain ⟨mv10, mv11, mh12, mh9⟩ := zk_o2 mh9
              unfold f_X12_in at mh12
              unfold B_X12_in_0 at mh12
              have mh12 := zk_t cc4 mh12
              simp only [Option.some.injEq, Prod.mk.injEq] at mh12
              obtain ⟨rfl, _⟩ := mh12
              obtain ⟨_, mh9⟩ := zk_gd mh9
              simp only [Option.some.injEq, Prod.mk.injEq] at mh9
              obtain ⟨rfl, _⟩ := mh9
              replace k := zk_t rfl k
              replace h := Option.some.inj h
              replace k := Option.some.inj k
              subst h
              subst k
              try dsimp only
              all_goals first
              | exact ⟨rfl, hP2, fun i hi => rfl⟩
              | (exfalso; omega)
          · have ch7 := zk_f cc9 ch7
            have cc9n := cc9
            (try simp only [i32_lt, i32_le, i32_e, z32_0, z32_1, z32L_6] at cc9n)
            first
            | (exfalso; omega)
            | obtain ⟨_, ch7⟩ := zk_gd ch7
              obtain ⟨_, ch7⟩ := zk_gd ch7
              simp only [Option.some.injEq, Prod.mk.injEq] at ch7
              obtain ⟨rfl, _⟩ := ch7
              replace h := zk_t (by decide) h
              unfold B_X12_shift_0 at k
              replace k := zk_o2 k
              obtain ⟨mv13, mv14, mh15, k⟩ := k
              unfold f_X12_isShelf at mh15
              unfold B_X12_isShelf_0 at mh15
              obtain ⟨mv16, mv17, mh18, mh15⟩ := zk_o2 mh15
              unfold f_X12_in at mh18
              unfold B_X12_in_0 at mh18
              have mh18 := zk_t cc4 mh18
              simp only [Option.some.injEq, Prod.mk.injEq] at mh18
              obtain ⟨rfl, _⟩ := mh18
              obtain ⟨_, mh15⟩ := zk_gd mh15
              simp only [Option.some.injEq, Prod.mk.injEq] at mh15
              obtain ⟨rfl, _⟩ := mh15
              replace k := zk_t rfl k
              replace h := Option.some.inj h
              replace k := Option.some.inj k
              subst h
              subst k
              try dsimp only
              all_goals first
              | exact ⟨rfl, hP2, fun i hi => rfl⟩
              | (exfalso; omega)
  · have ch3 := zk_f cc4 ch3
    have cc4n := cc4
    (try simp only [i32_lt, i32_le, i32_e, z32_0, z32_1] at cc4n)
    first
    | (exfalso; omega)
    | by_cases cc10 : (6 : Int32) ≤ x1
      · have ch3 := zk_t cc10 ch3
        have cc10n := cc10
        (try simp only [i32_lt, i32_le, i32_e, z32_0, z32_1, z32L_6] at cc10n)
        first
        | (exfalso; omega)
        | simp only [Option.some.injEq, Prod.mk.injEq] at ch3
          obtain ⟨rfl, _⟩ := ch3
          replace h := zk_f (by decide) h
          replace h := zk_o2 h
          obtain ⟨cv11, cv12, ch13, h⟩ := h
          unfold f_X11_placeAt at ch13
          unfold B_X11_placeAt_0 at ch13
          by_cases cc14 : x3 < 0
          · have ch13 := zk_t cc14 ch13
            have cc14n := cc14
            (try simp only [i32_lt, i32_le, i32_e, z32_0, z32_1] at cc14n)
            first
            | (exfalso; omega)
            | simp only [Option.some.injEq, Prod.mk.injEq] at ch13
              obtain ⟨rfl, _⟩ := ch13
              replace h := zk_f (by decide) h
              unfold B_X12_shift_0 at k
              replace k := zk_o2 k
              obtain ⟨mv19, mv20, mh21, k⟩ := k
              unfold f_X12_isShelf at mh21
              unfold B_X12_isShelf_0 at mh21
              obtain ⟨mv22, mv23, mh24, mh21⟩ := zk_o2 mh21
              unfold f_X12_in at mh24
              unfold B_X12_in_0 at mh24
              have mh24 := zk_f cc4 mh24
              have mh24 := zk_t (by (try simp only [i32_lt, i32_le, i32_e, z32_0, z32_1, z32L_5]); omega) mh24
              simp only [Option.some.injEq, Prod.mk.injEq] at mh24
              obtain ⟨rfl, _⟩ := mh24
              obtain ⟨_, mh21⟩ := zk_gd mh21
              simp only [Option.some.injEq, Prod.mk.injEq] at mh21
              obtain ⟨rfl, _⟩ := mh21
              replace k := zk_t rfl k
              replace h := Option.some.inj h
              replace k := Option.some.inj k
              subst h
              subst k
              try dsimp only
              all_goals first
              | exact ⟨rfl, hP2, fun i hi => rfl⟩
              | (exfalso; omega)
          · have ch13 := zk_f cc14 ch13
            have cc14n := cc14
            (try simp only [i32_lt, i32_le, i32_e, z32_0, z32_1] at cc14n)
            first
            | (exfalso; omega)
            | by_cases cc15 : (6 : Int32) ≤ x3
              · have ch13 := zk_t cc15 ch13
                have cc15n := cc15
                (try simp only [i32_lt, i32_le, i32_e, z32_0, z32_1, z32L_6] at cc15n)
                first
                | (exfalso; omega)
                | simp only [Option.some.injEq, Prod.mk.injEq] at ch13
                  obtain ⟨rfl, _⟩ := ch13
                  replace h := zk_f (by decide) h
                  unfold B_X12_shift_0 at k
                  replace k := zk_o2 k
                  obtain ⟨mv25, mv26, mh27, k⟩ := k
                  unfold f_X12_isShelf at mh27
                  unfold B_X12_isShelf_0 at mh27
                  obtain ⟨mv28, mv29, mh30, mh27⟩ := zk_o2 mh27
                  unfold f_X12_in at mh30
                  unfold B_X12_in_0 at mh30
                  have mh30 := zk_f cc4 mh30
                  have mh30 := zk_t (by (try simp only [i32_lt, i32_le, i32_e, z32_0, z32_1, z32L_5]); omega) mh30
                  simp only [Option.some.injEq, Prod.mk.injEq] at mh30
                  obtain ⟨rfl, _⟩ := mh30
                  obtain ⟨_, mh27⟩ := zk_gd mh27
                  simp only [Option.some.injEq, Prod.mk.injEq] at mh27
                  obtain ⟨rfl, _⟩ := mh27
                  replace k := zk_t rfl k
                  replace h := Option.some.inj h
                  replace k := Option.some.inj k
                  subst h
                  subst k
                  try dsimp only
                  all_goals first
                  | exact ⟨rfl, hP2, fun i hi => rfl⟩
                  | (exfalso; omega)
              · have ch13 := zk_f cc15 ch13
                have cc15n := cc15
                (try simp only [i32_lt, i32_le, i32_e, z32_0, z32_1, z32L_6] at cc15n)
                first
                | (exfalso; omega)
                | obtain ⟨_, ch13⟩ := zk_gd ch13
                  obtain ⟨_, ch13⟩ := zk_gd ch13
                  simp only [Option.some.injEq, Prod.mk.injEq] at ch13
                  obtain ⟨rfl, _⟩ := ch13
                  replace h := zk_t (by decide) h
                  unfold B_X12_shift_0 at k
                  replace k := zk_o2 k
                  obtain ⟨mv31, mv32, mh33, k⟩ := k
                  unfold f_X12_isShelf at mh33
                  unfold B_X12_isShelf_0 at mh33
                  obtain ⟨mv34, mv35, mh36, mh33⟩ := zk_o2 mh33
                  unfold f_X12_in at mh36
                  unfold B_X12_in_0 at mh36
                  have mh36 := zk_f cc4 mh36
                  have mh36 := zk_t (by (try simp only [i32_lt, i32_le, i32_e, z32_0, z32_1, z32L_5]); omega) mh36
                  simp only [Option.some.injEq, Prod.mk.injEq] at mh36
                  obtain ⟨rfl, _⟩ := mh36
                  obtain ⟨_, mh33⟩ := zk_gd mh33
                  simp only [Option.some.injEq, Prod.mk.injEq] at mh33
                  obtain ⟨rfl, _⟩ := mh33
                  replace k := zk_t rfl k
                  replace h := Option.some.inj h
                  replace k := Option.some.inj k
                  subst h
                  subst k
                  try dsimp only
                  all_goals first
                  | exact ⟨rfl, hP2, fun i hi => rfl⟩
                  | (exfalso; omega)
      · have ch3 := zk_f cc10 ch3
        have cc10n := cc10
        (try simp only [i32_lt, i32_le, i32_e, z32_0, z32_1, z32L_6] at cc10n)
        first
        | (exfalso; omega)
        | obtain ⟨_, ch3⟩ := zk_gd ch3
          obtain ⟨_, ch3⟩ := zk_gd ch3
          simp only [Option.some.injEq, Prod.mk.injEq] at ch3
          obtain ⟨rfl, _⟩ := ch3
          replace h := zk_t (by decide) h
          replace h := zk_o2 h
          obtain ⟨cv16, cv17, ch18, h⟩ := h
          unfold f_X11_placeAt at ch18
          unfold B_X11_placeAt_0 at ch18
          by_cases cc19 : x3 < 0
          · have ch18 := zk_t cc19 ch18
            have cc19n := cc19
            (try simp only [i32_lt, i32_le, i32_e, z32_0, z32_1] at cc19n)
            first
            | (exfalso; omega)
            | simp only [Option.some.injEq, Prod.mk.injEq] at ch18
              obtain ⟨rfl, _⟩ := ch18
              replace h := zk_f (by decide) h
              unfold B_X12_shift_0 at k
              replace k := zk_o2 k
              obtain ⟨mv37, mv38, mh39, k⟩ := k
              unfold f_X12_isShelf at mh39
              unfold B_X12_isShelf_0 at mh39
              obtain ⟨mv40, mv41, mh42, mh39⟩ := zk_o2 mh39
              unfold f_X12_in at mh42
              unfold B_X12_in_0 at mh42
              have mh42 := zk_f cc4 mh42
              have mh42 := zk_f (by (try simp only [i32_lt, i32_le, i32_e, z32_0, z32_1, z32L_5]); omega) mh42
              simp only [Option.some.injEq, Prod.mk.injEq] at mh42
              obtain ⟨rfl, _⟩ := mh42
              obtain ⟨_, mh39⟩ := zk_gd mh39
              simp only [Option.some.injEq, Prod.mk.injEq] at mh39
              obtain ⟨rfl, _⟩ := mh39
              replace k := zk_f (by decide) k
              replace k := zk_o2 k
              obtain ⟨mv43, mv44, mh45, k⟩ := k
              unfold f_X12_isShelf at mh45
              unfold B_X12_isShelf_0 at mh45
              obtain ⟨mv46, mv47, mh48, mh45⟩ := zk_o2 mh45
              unfold f_X12_in at mh48
              unfold B_X12_in_0 at mh48
              have mh48 := zk_t cc19 mh48
              simp only [Option.some.injEq, Prod.mk.injEq] at mh48
              obtain ⟨rfl, _⟩ := mh48
              obtain ⟨_, mh45⟩ := zk_gd mh45
              simp only [Option.some.injEq, Prod.mk.injEq] at mh45
              obtain ⟨rfl, _⟩ := mh45
              replace k := zk_t rfl k
              replace h := Option.some.inj h
              replace k := Option.some.inj k
              subst h
              subst k
              try dsimp only
              all_goals first
              | exact ⟨rfl, hP2, fun i hi => rfl⟩
              | (exfalso; omega)
          · have ch18 := zk_f cc19 ch18
            have cc19n := cc19
            (try simp only [i32_lt, i32_le, i32_e, z32_0, z32_1] at cc19n)
            first
            | (exfalso; omega)
            | by_cases cc20 : (6 : Int32) ≤ x3
              · have ch18 := zk_t cc20 ch18
                have cc20n := cc20
                (try simp only [i32_lt, i32_le, i32_e, z32_0, z32_1, z32L_6] at cc20n)
                first
                | (exfalso; omega)
                | simp only [Option.some.injEq, Prod.mk.injEq] at ch18
                  obtain ⟨rfl, _⟩ := ch18
                  replace h := zk_f (by decide) h
                  unfold B_X12_shift_0 at k
                  replace k := zk_o2 k
                  obtain ⟨mv49, mv50, mh51, k⟩ := k
                  unfold f_X12_isShelf at mh51
                  unfold B_X12_isShelf_0 at mh51
                  obtain ⟨mv52, mv53, mh54, mh51⟩ := zk_o2 mh51
                  unfold f_X12_in at mh54
                  unfold B_X12_in_0 at mh54
                  have mh54 := zk_f cc4 mh54
                  have mh54 := zk_f (by (try simp only [i32_lt, i32_le, i32_e, z32_0, z32_1, z32L_5]); omega) mh54
                  simp only [Option.some.injEq, Prod.mk.injEq] at mh54
                  obtain ⟨rfl, _⟩ := mh54
                  obtain ⟨_, mh51⟩ := zk_gd mh51
                  simp only [Option.some.injEq, Prod.mk.injEq] at mh51
                  obtain ⟨rfl, _⟩ := mh51
                  replace k := zk_f (by decide) k
                  replace k := zk_o2 k
                  obtain ⟨mv55, mv56, mh57, k⟩ := k
                  unfold f_X12_isShelf at mh57
                  unfold B_X12_isShelf_0 at mh57
                  obtain ⟨mv58, mv59, mh60, mh57⟩ := zk_o2 mh57
                  unfold f_X12_in at mh60
                  unfold B_X12_in_0 at mh60
                  have mh60 := zk_f cc19 mh60
                  have mh60 := zk_t (by (try simp only [i32_lt, i32_le, i32_e, z32_0, z32_1, z32L_5]); omega) mh60
                  simp only [Option.some.injEq, Prod.mk.injEq] at mh60
                  obtain ⟨rfl, _⟩ := mh60
                  obtain ⟨_, mh57⟩ := zk_gd mh57
                  simp only [Option.some.injEq, Prod.mk.injEq] at mh57
                  obtain ⟨rfl, _⟩ := mh57
                  replace k := zk_t rfl k
                  replace h := Option.some.inj h
                  replace k := Option.some.inj k
                  subst h
                  subst k
                  try dsimp only
                  all_goals first
                  | exact ⟨rfl, hP2, fun i hi => rfl⟩
                  | (exfalso; omega)
              · have ch18 := zk_f cc20 ch18
                have cc20n := cc20
                (try simp only [i32_lt, i32_le, i32_e, z32_0, z32_1, z32L_6] at cc20n)
                first
                | (exfalso; omega)
                | obtain ⟨_, ch18⟩ := zk_gd ch18
                  obtain ⟨_, ch18⟩ := zk_gd ch18
                  simp only [Option.some.injEq, Prod.mk.injEq] at ch18
                  obtain ⟨rfl, _⟩ := ch18
                  replace h := zk_t (by decide) h
                  by_cases cc21 : pl_holds = (-1 : Int32)
                  · replace h := zk_t cc21 h
                    have cc21n := cc21
                    (try simp only [i32_lt, i32_le, i32_e, z32_0, z32_1, z32N_1] at cc21n)
                    first
                    | (exfalso; omega)
                    | have hjj1 := hj ⟨cc4, cc10⟩
                      subst hjj1
                      obtain ⟨⟨hs11, hs21, hs31⟩, he1, hd1⟩ := id hP
                      have hx5 : 0 ≤ x1.toInt ∧ x1.toInt ≤ 5 := by
                        have q1 := cc4
                        have q2 := cc10
                        rw [i32_lt, z32_0] at q1
                        rw [i32_le, z32L_6] at q2
                        omega
                      have hsz1 : (mod_size x1.toNatClampNeg).toInt = pl_size.toInt := by rw [hs11]
                      have hq1 : 0 ≤ x5.toInt → (mod_size x1.toNatClampNeg - x5).toInt = (mod_size x1.toNatClampNeg).toInt - x5.toInt := fun q => i32_dd (by omega) q
                      have hjj2 := hjt ⟨cc19, cc20⟩
                      subst hjj2
                      obtain ⟨⟨hs12, hs22, hs32⟩, he2, hd2⟩ := id hP2
                      have hx7 : 0 ≤ x3.toInt ∧ x3.toInt ≤ 5 := by
                        have q1 := cc19
                        have q2 := cc20
                        rw [i32_lt, z32_0] at q1
                        rw [i32_le, z32L_6] at q2
                        omega
                      have hsz2 : (mod_size x3.toNatClampNeg).toInt = pm_size.toInt := by rw [hs12]
                      have hq2 : 0 ≤ x5.toInt → (mod_size x3.toNatClampNeg - x5).toInt = (mod_size x3.toNatClampNeg).toInt - x5.toInt := fun q => i32_dd (by omega) q
                      unfold B_X12_shift_0 at k
                      replace k := zk_o2 k
                      obtain ⟨mv61, mv62, mh63, k⟩ := k
                      unfold f_X12_isShelf at mh63
                      unfold B_X12_isShelf_0 at mh63
                      obtain ⟨mv64, mv65, mh66, mh63⟩ := zk_o2 mh63
                      unfold f_X12_in at mh66
                      unfold B_X12_in_0 at mh66
                      have mh66 := zk_f cc4 mh66
                      have mh66 := zk_f (by (try simp only [i32_lt, i32_le, i32_e, z32_0, z32_1, z32L_5]); omega) mh66
                      simp only [Option.some.injEq, Prod.mk.injEq] at mh66
                      obtain ⟨rfl, _⟩ := mh66
                      obtain ⟨_, mh63⟩ := zk_gd mh63
                      simp only [Option.some.injEq, Prod.mk.injEq] at mh63
                      obtain ⟨rfl, _⟩ := mh63
                      replace k := zk_f (by decide) k
                      replace k := zk_o2 k
                      obtain ⟨mv67, mv68, mh69, k⟩ := k
                      unfold f_X12_isShelf at mh69
                      unfold B_X12_isShelf_0 at mh69
                      obtain ⟨mv70, mv71, mh72, mh69⟩ := zk_o2 mh69
                      unfold f_X12_in at mh72
                      unfold B_X12_in_0 at mh72
                      have mh72 := zk_f cc19 mh72
                      have mh72 := zk_f (by (try simp only [i32_lt, i32_le, i32_e, z32_0, z32_1, z32L_5]); omega) mh72
                      simp only [Option.some.injEq, Prod.mk.injEq] at mh72
                      obtain ⟨rfl, _⟩ := mh72
                      obtain ⟨_, mh69⟩ := zk_gd mh69
                      simp only [Option.some.injEq, Prod.mk.injEq] at mh69
                      obtain ⟨rfl, _⟩ := mh69
                      replace k := zk_f (by decide) k
                      replace k := zk_gd k
                      obtain ⟨_, k⟩ := k
                      by_cases mc73 : (mod_holds x1.toNatClampNeg) = (-1 : Int32)
                      · replace k := zk_t mc73 k
                        have mc73n := mc73
                        (try simp only [i32_lt, i32_le, i32_e, z32_0, z32_1, z32N_1] at mc73n)
                        first
                        | (exfalso; omega)
                        | have h := Option.some.inj h
                          replace k := Option.some.inj k
                          subst h
                          subst k
                          try dsimp only
                          all_goals first
                          | exact ⟨rfl, hP2, fun i hi => rfl⟩
                          | (exfalso; omega)
                      · replace k := zk_f mc73 k
                        have mc73n := mc73
                        (try simp only [i32_lt, i32_le, i32_e, z32_0, z32_1, z32N_1] at mc73n)
                        first
                        | (exfalso; omega)
                        | obtain ⟨_, k⟩ := zk_gd k
                          by_cases mc74 : (mod_holds x3.toNatClampNeg) = (-1 : Int32)
                          · replace k := zk_t mc74 k
                            have mc74n := mc74
                            (try simp only [i32_lt, i32_le, i32_e, z32_0, z32_1, z32N_1] at mc74n)
                            first
                            | (exfalso; omega)
                            | have h := Option.some.inj h
                              replace k := Option.some.inj k
                              subst h
                              subst k
                              try dsimp only
                              all_goals first
                              | exact ⟨rfl, hP2, fun i hi => rfl⟩
                              | (exfalso; omega)
                          · replace k := zk_f mc74 k
                            have mc74n := mc74
                            (try simp only [i32_lt, i32_le, i32_e, z32_0, z32_1, z32N_1] at mc74n)
                            first
                            | (exfalso; omega)
                            | obtain ⟨_, k⟩ := zk_gd k
                              by_cases mc75 : 0 ≤ (mod_holds x1.toNatClampNeg)
                              · replace k := zk_t mc75 k
                                have mc75n := mc75
                                (try simp only [i32_lt, i32_le, i32_e, z32_0, z32_1] at mc75n)
                                first
                                | (exfalso; omega)
                                | have h := Option.some.inj h
                                  replace k := Option.some.inj k
                                  subst h
                                  subst k
                                  try dsimp only
                                  all_goals first
                                  | exact ⟨rfl, hP2, fun i hi => rfl⟩
                                  | (exfalso; omega)
                              · replace k := zk_f mc75 k
                                have mc75n := mc75
                                (try simp only [i32_lt, i32_le, i32_e, z32_0, z32_1] at mc75n)
                                first
                                | (exfalso; omega)
                                | obtain ⟨_, k⟩ := zk_gd k
                                  replace k := zk_gd k
                                  obtain ⟨_, k⟩ := k
                                  by_cases mc76 : (mod_holds x1.toNatClampNeg) = (mod_holds x3.toNatClampNeg)
                                  · replace k := zk_t mc76 k
                                    have mc76n := mc76
                                    (try simp only [i32_lt, i32_le, i32_e, z32_0, z32_1] at mc76n)
                                    first
                                    | (exfalso; omega)
                                    | by_cases mc77 : x5 < 0
                                      · replace k := zk_t mc77 k
                                        have mc77n := mc77
                                        (try simp only [i32_lt, i32_le, i32_e, z32_0, z32_1] at mc77n)
                                        first
                                        | (exfalso; omega)
                                        | have h := Option.some.inj h
                                          replace k := Option.some.inj k
                                          subst h
                                          subst k
                                          try dsimp only
                                          all_goals first
                                          | exact ⟨rfl, hP2, fun i hi => rfl⟩
                                          | (exfalso; omega)
                                      · replace k := zk_f mc77 k
                                        have mc77n := mc77
                                        (try simp only [i32_lt, i32_le, i32_e, z32_0, z32_1] at mc77n)
                                        first
                                        | (exfalso; omega)
                                        | by_cases mc78 : x2 < 0
                                          · replace k := zk_t mc78 k
                                            have mc78n := mc78
                                            (try simp only [i32_lt, i32_le, i32_e, z32_0, z32_1] at mc78n)
                                            first
                                            | (exfalso; omega)
                                            | have h := Option.some.inj h
                                              replace k := Option.some.inj k
                                              subst h
                                              subst k
                                              try dsimp only
                                              all_goals first
                                              | exact ⟨rfl, hP2, fun i hi => rfl⟩
                                              | (exfalso; omega)
                                          · replace k := zk_f mc78 k
                                            have mc78n := mc78
                                            (try simp only [i32_lt, i32_le, i32_e, z32_0, z32_1] at mc78n)
                                            first
                                            | (exfalso; omega)
                                            | by_cases mc79 : x4 < 0
                                              · replace k := zk_t mc79 k
                                                have mc79n := mc79
                                                (try simp only [i32_lt, i32_le, i32_e, z32_0, z32_1] at mc79n)
                                                first
                                                | (exfalso; omega)
                                                | have h := Option.some.inj h
                                                  replace k := Option.some.inj k
                                                  subst h
                                                  subst k
                                                  try dsimp only
                                                  all_goals first
                                                  | exact ⟨rfl, hP2, fun i hi => rfl⟩
                                                  | (exfalso; omega)
                                              · replace k := zk_f mc79 k
                                                have mc79n := mc79
                                                (try simp only [i32_lt, i32_le, i32_e, z32_0, z32_1] at mc79n)
                                                first
                                                | (exfalso; omega)
                                                | obtain ⟨_, k⟩ := zk_gd k
                                                  by_cases mc80 : ((mod_size x1.toNatClampNeg) - x5) < x2
                                                  · replace k := zk_t mc80 k
                                                    have mc80n := mc80
                                                    (try simp only [i32_lt, i32_le, i32_e, z32_0, z32_1] at mc80n)
                                                    first
                                                    | (exfalso; omega)
                                                    | have h := Option.some.inj h
                                                      replace k := Option.some.inj k
                                                      subst h
                                                      subst k
                                                      try dsimp only
                                                      all_goals first
                                                      | exact ⟨rfl, hP2, fun i hi => rfl⟩
                                                      | (exfalso; omega)
                                                  · replace k := zk_f mc80 k
                                                    have mc80n := mc80
                                                    (try simp only [i32_lt, i32_le, i32_e, z32_0, z32_1] at mc80n)
                                                    first
                                                    | (exfalso; omega)
                                                    | obtain ⟨_, k⟩ := zk_gd k
                                                      by_cases mc81 : x4 ≤ ((mod_size x3.toNatClampNeg) - x5)
                                                      · replace k := zk_t mc81 k
                                                        have mc81n := mc81
                                                        (try simp only [i32_lt, i32_le, i32_e, z32_0, z32_1] at mc81n)
                                                        first
                                                        | (exfalso; omega)
                                                        | have h := Option.some.inj h
                                                          subst h
                                                          exfalso
                                                          omega
                                                      · replace k := zk_f mc81 k
                                                        have mc81n := mc81
                                                        (try simp only [i32_lt, i32_le, i32_e, z32_0, z32_1] at mc81n)
                                                        first
                                                        | (exfalso; omega)
                                                        | have h := Option.some.inj h
                                                          replace k := Option.some.inj k
                                                          subst h
                                                          subst k
                                                          try dsimp only
                                                          all_goals first
                                                          | exact ⟨rfl, hP2, fun i hi => rfl⟩
                                                          | (exfalso; omega)
                                  · replace k := zk_f mc76 k
                                    have mc76n := mc76
                                    (try simp only [i32_lt, i32_le, i32_e, z32_0, z32_1] at mc76n)
                                    first
                                    | (exfalso; omega)
                                    | have h := Option.some.inj h
                                      replace k := Option.some.inj k
                                      subst h
                                      subst k
                                      try dsimp only
                                      all_goals first
                                      | exact ⟨rfl, hP2, fun i hi => rfl⟩
                                      | (exfalso; omega)
                  · replace h := zk_f cc21 h
                    have cc21n := cc21
                    (try simp only [i32_lt, i32_le, i32_e, z32_0, z32_1, z32N_1] at cc21n)
                    first
                    | (exfalso; omega)
                    | by_cases cc22 : pm_holds = (-1 : Int32)
                      · replace h := zk_t cc22 h
                        have cc22n := cc22
                        (try simp only [i32_lt, i32_le, i32_e, z32_0, z32_1, z32N_1] at cc22n)
                        first
                        | (exfalso; omega)
                        | have hjj1 := hj ⟨cc4, cc10⟩
                          subst hjj1
                          obtain ⟨⟨hs11, hs21, hs31⟩, he1, hd1⟩ := id hP
                          have hx5 : 0 ≤ x1.toInt ∧ x1.toInt ≤ 5 := by
                            have q1 := cc4
                            have q2 := cc10
                            rw [i32_lt, z32_0] at q1
                            rw [i32_le, z32L_6] at q2
                            omega
                          have hsz1 : (mod_size x1.toNatClampNeg).toInt = pl_size.toInt := by rw [hs11]
                          have hq1 : 0 ≤ x5.toInt → (mod_size x1.toNatClampNeg - x5).toInt = (mod_size x1.toNatClampNeg).toInt - x5.toInt := fun q => i32_dd (by omega) q
                          have hjj2 := hjt ⟨cc19, cc20⟩
                          subst hjj2
                          obtain ⟨⟨hs12, hs22, hs32⟩, he2, hd2⟩ := id hP2
                          have hx7 : 0 ≤ x3.toInt ∧ x3.toInt ≤ 5 := by
                            have q1 := cc19
                            have q2 := cc20
                            rw [i32_lt, z32_0] at q1
                            rw [i32_le, z32L_6] at q2
                            omega
                          have hsz2 : (mod_size x3.toNatClampNeg).toInt = pm_size.toInt := by rw [hs12]
                          have hq2 : 0 ≤ x5.toInt → (mod_size x3.toNatClampNeg - x5).toInt = (mod_size x3.toNatClampNeg).toInt - x5.toInt := fun q => i32_dd (by omega) q
                          unfold B_X12_shift_0 at k
                          replace k := zk_o2 k
                          obtain ⟨mv82, mv83, mh84, k⟩ := k
                          unfold f_X12_isShelf at mh84
                          unfold B_X12_isShelf_0 at mh84
                          obtain ⟨mv85, mv86, mh87, mh84⟩ := zk_o2 mh84
                          unfold f_X12_in at mh87
                          unfold B_X12_in_0 at mh87
                          have mh87 := zk_f cc4 mh87
                          have mh87 := zk_f (by (try simp only [i32_lt, i32_le, i32_e, z32_0, z32_1, z32L_5]); omega) mh87
                          simp only [Option.some.injEq, Prod.mk.injEq] at mh87
                          obtain ⟨rfl, _⟩ := mh87
                          obtain ⟨_, mh84⟩ := zk_gd mh84
                          simp only [Option.some.injEq, Prod.mk.injEq] at mh84
                          obtain ⟨rfl, _⟩ := mh84
                          replace k := zk_f (by decide) k
                          replace k := zk_o2 k
                          obtain ⟨mv88, mv89, mh90, k⟩ := k
                          unfold f_X12_isShelf at mh90
                          unfold B_X12_isShelf_0 at mh90
                          obtain ⟨mv91, mv92, mh93, mh90⟩ := zk_o2 mh90
                          unfold f_X12_in at mh93
                          unfold B_X12_in_0 at mh93
                          have mh93 := zk_f cc19 mh93
                          have mh93 := zk_f (by (try simp only [i32_lt, i32_le, i32_e, z32_0, z32_1, z32L_5]); omega) mh93
                          simp only [Option.some.injEq, Prod.mk.injEq] at mh93
                          obtain ⟨rfl, _⟩ := mh93
                          obtain ⟨_, mh90⟩ := zk_gd mh90
                          simp only [Option.some.injEq, Prod.mk.injEq] at mh90
                          obtain ⟨rfl, _⟩ := mh90
                          replace k := zk_f (by decide) k
                          replace k := zk_gd k
                          obtain ⟨_, k⟩ := k
                          by_cases mc94 : (mod_holds x1.toNatClampNeg) = (-1 : Int32)
                          · replace k := zk_t mc94 k
                            have mc94n := mc94
                            (try simp only [i32_lt, i32_le, i32_e, z32_0, z32_1, z32N_1] at mc94n)
                            first
                            | (exfalso; omega)
                            | have h := Option.some.inj h
                              replace k := Option.some.inj k
                              subst h
                              subst k
                              try dsimp only
                              all_goals first
                              | exact ⟨rfl, hP2, fun i hi => rfl⟩
                              | (exfalso; omega)
                          · replace k := zk_f mc94 k
                            have mc94n := mc94
                            (try simp only [i32_lt, i32_le, i32_e, z32_0, z32_1, z32N_1] at mc94n)
                            first
                            | (exfalso; omega)
                            | obtain ⟨_, k⟩ := zk_gd k
                              by_cases mc95 : (mod_holds x3.toNatClampNeg) = (-1 : Int32)
                              · replace k := zk_t mc95 k
                                have mc95n := mc95
                                (try simp only [i32_lt, i32_le, i32_e, z32_0, z32_1, z32N_1] at mc95n)
                                first
                                | (exfalso; omega)
                                | have h := Option.some.inj h
                                  replace k := Option.some.inj k
                                  subst h
                                  subst k
                                  try dsimp only
                                  all_goals first
                                  | exact ⟨rfl, hP2, fun i hi => rfl⟩
                                  | (exfalso; omega)
                              · replace k := zk_f mc95 k
                                have mc95n := mc95
                                (try simp only [i32_lt, i32_le, i32_e, z32_0, z32_1, z32N_1] at mc95n)
                                first
                                | (exfalso; omega)
                                | obtain ⟨_, k⟩ := zk_gd k
                                  by_cases mc96 : 0 ≤ (mod_holds x1.toNatClampNeg)
                                  · replace k := zk_t mc96 k
                                    have mc96n := mc96
                                    (try simp only [i32_lt, i32_le, i32_e, z32_0, z32_1] at mc96n)
                                    first
                                    | (exfalso; omega)
                                    | have h := Option.some.inj h
                                      replace k := Option.some.inj k
                                      subst h
                                      subst k
                                      try dsimp only
                                      all_goals first
                                      | exact ⟨rfl, hP2, fun i hi => rfl⟩
                                      | (exfalso; omega)
                                  · replace k := zk_f mc96 k
                                    have mc96n := mc96
                                    (try simp only [i32_lt, i32_le, i32_e, z32_0, z32_1] at mc96n)
                                    first
                                    | (exfalso; omega)
                                    | obtain ⟨_, k⟩ := zk_gd k
                                      replace k := zk_gd k
                                      obtain ⟨_, k⟩ := k
                                      by_cases mc97 : (mod_holds x1.toNatClampNeg) = (mod_holds x3.toNatClampNeg)
                                      · replace k := zk_t mc97 k
                                        have mc97n := mc97
                                        (try simp only [i32_lt, i32_le, i32_e, z32_0, z32_1] at mc97n)
                                        first
                                        | (exfalso; omega)
                                        | by_cases mc98 : x5 < 0
                                          · replace k := zk_t mc98 k
                                            have mc98n := mc98
                                            (try simp only [i32_lt, i32_le, i32_e, z32_0, z32_1] at mc98n)
                                            first
                                            | (exfalso; omega)
                                            | have h := Option.some.inj h
                                              replace k := Option.some.inj k
                                              subst h
                                              subst k
                                              try dsimp only
                                              all_goals first
                                              | exact ⟨rfl, hP2, fun i hi => rfl⟩
                                              | (exfalso; omega)
                                          · replace k := zk_f mc98 k
                                            have mc98n := mc98
                                            (try simp only [i32_lt, i32_le, i32_e, z32_0, z32_1] at mc98n)
                                            first
                                            | (exfalso; omega)
                                            | by_cases mc99 : x2 < 0
                                              · replace k := zk_t mc99 k
                                                have mc99n := mc99
                                                (try simp only [i32_lt, i32_le, i32_e, z32_0, z32_1] at mc99n)
                                                first
                                                | (exfalso; omega)
                                                | have h := Option.some.inj h
                                                  replace k := Option.some.inj k
                                                  subst h
                                                  subst k
                                                  try dsimp only
                                                  all_goals first
                                                  | exact ⟨rfl, hP2, fun i hi => rfl⟩
                                                  | (exfalso; omega)
                                              · replace k := zk_f mc99 k
                                                have mc99n := mc99
                                                (try simp only [i32_lt, i32_le, i32_e, z32_0, z32_1] at mc99n)
                                                first
                                                | (exfalso; omega)
                                                | by_cases mc100 : x4 < 0
                                                  · replace k := zk_t mc100 k
                                                    have mc100n := mc100
                                                    (try simp only [i32_lt, i32_le, i32_e, z32_0, z32_1] at mc100n)
                                                    first
                                                    | (exfalso; omega)
                                                    | have h := Option.some.inj h
                                                      replace k := Option.some.inj k
                                                      subst h
                                                      subst k
                                                      try dsimp only
                                                      all_goals first
                                                      | exact ⟨rfl, hP2, fun i hi => rfl⟩
                                                      | (exfalso; omega)
                                                  · replace k := zk_f mc100 k
                                                    have mc100n := mc100
                                                    (try simp only [i32_lt, i32_le, i32_e, z32_0, z32_1] at mc100n)
                                                    first
                                                    | (exfalso; omega)
                                                    | obtain ⟨_, k⟩ := zk_gd k
                                                      by_cases mc101 : ((mod_size x1.toNatClampNeg) - x5) < x2
                                                      · replace k := zk_t mc101 k
                                                        have mc101n := mc101
                                                        (try simp only [i32_lt, i32_le, i32_e, z32_0, z32_1] at mc101n)
                                                        first
                                                        | (exfalso; omega)
                                                        | have h := Option.some.inj h
                                                          replace k := Option.some.inj k
                                                          subst h
                                                          subst k
                                                          try dsimp only
                                                          all_goals first
                                                          | exact ⟨rfl, hP2, fun i hi => rfl⟩
                                                          | (exfalso; omega)
                                                      · replace k := zk_f mc101 k
                                                        have mc101n := mc101
                                                        (try simp only [i32_lt, i32_le, i32_e, z32_0, z32_1] at mc101n)
                                                        first
                                                        | (exfalso; omega)
                                                        | obtain ⟨_, k⟩ := zk_gd k
                                                          by_cases mc102 : x4 ≤ ((mod_size x3.toNatClampNeg) - x5)
                                                          · replace k := zk_t mc102 k
                                                            have mc102n := mc102
                                                            (try simp only [i32_lt, i32_le, i32_e, z32_0, z32_1] at mc102n)
                                                            first
                                                            | (exfalso; omega)
                                                            | have h := Option.some.inj h
                                                              subst h
                                                              exfalso
                                                              omega
                                                          · replace k := zk_f mc102 k
                                                            have mc102n := mc102
                                                            (try simp only [i32_lt, i32_le, i32_e, z32_0, z32_1] at mc102n)
                                                            first
                                                            | (exfalso; omega)
                                                            | have h := Option.some.inj h
                                                              replace k := Option.some.inj k
                                                              subst h
                                                              subst k
                                                              try dsimp only
                                                              all_goals first
                                                              | exact ⟨rfl, hP2, fun i hi => rfl⟩
                                                              | (exfalso; omega)
                                      · replace k := zk_f mc97 k
                                        have mc97n := mc97
                                        (try simp only [i32_lt, i32_le, i32_e, z32_0, z32_1] at mc97n)
                                        first
                                        | (exfalso; omega)
                                        | have h := Option.some.inj h
                                          replace k := Option.some.inj k
                                          subst h
                                          subst k
                                          try dsimp only
                                          all_goals first
                                          | exact ⟨rfl, hP2, fun i hi => rfl⟩
                                          | (exfalso; omega)
                      · replace h := zk_f cc22 h
                        have cc22n := cc22
                        (try simp only [i32_lt, i32_le, i32_e, z32_0, z32_1, z32N_1] at cc22n)
                        first
                        | (exfalso; omega)
                        | by_cases cc23 : pl_holds = (5 : Int32)
                          · replace h := zk_t cc23 h
                            have cc23n := cc23
                            (try simp only [i32_lt, i32_le, i32_e, z32_0, z32_1, z32L_5] at cc23n)
                            first
                            | (exfalso; omega)
                            | have hjj1 := hj ⟨cc4, cc10⟩
                              subst hjj1
                              obtain ⟨⟨hs11, hs21, hs31⟩, he1, hd1⟩ := id hP
                              have hx5 : 0 ≤ x1.toInt ∧ x1.toInt ≤ 5 := by
                                have q1 := cc4
                                have q2 := cc10
                                rw [i32_lt, z32_0] at q1
                                rw [i32_le, z32L_6] at q2
                                omega
                              have hsz1 : (mod_size x1.toNatClampNeg).toInt = pl_size.toInt := by rw [hs11]
                              have hq1 : 0 ≤ x5.toInt → (mod_size x1.toNatClampNeg - x5).toInt = (mod_size x1.toNatClampNeg).toInt - x5.toInt := fun q => i32_dd (by omega) q
                              have hjj2 := hjt ⟨cc19, cc20⟩
                              subst hjj2
                              obtain ⟨⟨hs12, hs22, hs32⟩, he2, hd2⟩ := id hP2
                              have hx7 : 0 ≤ x3.toInt ∧ x3.toInt ≤ 5 := by
                                have q1 := cc19
                                have q2 := cc20
                                rw [i32_lt, z32_0] at q1
                                rw [i32_le, z32L_6] at q2
                                omega
                              have hsz2 : (mod_size x3.toNatClampNeg).toInt = pm_size.toInt := by rw [hs12]
                              have hq2 : 0 ≤ x5.toInt → (mod_size x3.toNatClampNeg - x5).toInt = (mod_size x3.toNatClampNeg).toInt - x5.toInt := fun q => i32_dd (by omega) q
                              unfold B_X12_shift_0 at k
                              replace k := zk_o2 k
                              obtain ⟨mv103, mv104, mh105, k⟩ := k
                              unfold f_X12_isShelf at mh105
                              unfold B_X12_isShelf_0 at mh105
                              obtain ⟨mv106, mv107, mh108, mh105⟩ := zk_o2 mh105
                              unfold f_X12_in at mh108
                              unfold B_X12_in_0 at mh108
                              have mh108 := zk_f cc4 mh108
                              have mh108 := zk_f (by (try simp only [i32_lt, i32_le, i32_e, z32_0, z32_1, z32L_5]); omega) mh108
                              simp only [Option.some.injEq, Prod.mk.injEq] at mh108
                              obtain ⟨rfl, _⟩ := mh108
                              obtain ⟨_, mh105⟩ := zk_gd mh105
                              simp only [Option.some.injEq, Prod.mk.injEq] at mh105
                              obtain ⟨rfl, _⟩ := mh105
                              replace k := zk_f (by decide) k
                              replace k := zk_o2 k
                              obtain ⟨mv109, mv110, mh111, k⟩ := k
                              unfold f_X12_isShelf at mh111
                              unfold B_X12_isShelf_0 at mh111
                              obtain ⟨mv112, mv113, mh114, mh111⟩ := zk_o2 mh111
                              unfold f_X12_in at mh114
                              unfold B_X12_in_0 at mh114
                              have mh114 := zk_f cc19 mh114
                              have mh114 := zk_f (by (try simp only [i32_lt, i32_le, i32_e, z32_0, z32_1, z32L_5]); omega) mh114
                              simp only [Option.some.injEq, Prod.mk.injEq] at mh114
                              obtain ⟨rfl, _⟩ := mh114
                              obtain ⟨_, mh111⟩ := zk_gd mh111
                              simp only [Option.some.injEq, Prod.mk.injEq] at mh111
                              obtain ⟨rfl, _⟩ := mh111
                              replace k := zk_f (by decide) k
                              replace k := zk_gd k
                              obtain ⟨_, k⟩ := k
                              by_cases mc115 : (mod_holds x1.toNatClampNeg) = (-1 : Int32)
                              · replace k := zk_t mc115 k
                                have mc115n := mc115
                                (try simp only [i32_lt, i32_le, i32_e, z32_0, z32_1, z32N_1] at mc115n)
                                first
                                | (exfalso; omega)
                                | have h := Option.some.inj h
                                  replace k := Option.some.inj k
                                  subst h
                                  subst k
                                  try dsimp only
                                  all_goals first
                                  | exact ⟨rfl, hP2, fun i hi => rfl⟩
                                  | (exfalso; omega)
                              · replace k := zk_f mc115 k
                                have mc115n := mc115
                                (try simp only [i32_lt, i32_le, i32_e, z32_0, z32_1, z32N_1] at mc115n)
                                first
                                | (exfalso; omega)
                                | obtain ⟨_, k⟩ := zk_gd k
                                  by_cases mc116 : (mod_holds x3.toNatClampNeg) = (-1 : Int32)
                                  · replace k := zk_t mc116 k
                                    have mc116n := mc116
                                    (try simp only [i32_lt, i32_le, i32_e, z32_0, z32_1, z32N_1] at mc116n)
                                    first
                                    | (exfalso; omega)
                                    | have h := Option.some.inj h
                                      replace k := Option.some.inj k
                                      subst h
                                      subst k
                                      try dsimp only
                                      all_goals first
                                      | exact ⟨rfl, hP2, fun i hi => rfl⟩
                                      | (exfalso; omega)
                                  · replace k := zk_f mc116 k
                                    have mc116n := mc116
                                    (try simp only [i32_lt, i32_le, i32_e, z32_0, z32_1, z32N_1] at mc116n)
                                    first
                                    | (exfalso; omega)
                                    | obtain ⟨_, k⟩ := zk_gd k
                                      by_cases mc117 : 0 ≤ (mod_holds x1.toNatClampNeg)
                                      · replace k := zk_t mc117 k
                                        have mc117n := mc117
                                        (try simp only [i32_lt, i32_le, i32_e, z32_0, z32_1] at mc117n)
                                        first
                                        | (exfalso; omega)
                                        | have h := Option.some.inj h
                                          replace k := Option.some.inj k
                                          subst h
                                          subst k
                                          try dsimp only
                                          all_goals first
                                          | exact ⟨rfl, hP2, fun i hi => rfl⟩
                                          | (exfalso; omega)
                                      · replace k := zk_f mc117 k
                                        have mc117n := mc117
                                        (try simp only [i32_lt, i32_le, i32_e, z32_0, z32_1] at mc117n)
                                        first
                                        | (exfalso; omega)
                                        | obtain ⟨_, k⟩ := zk_gd k
                                          replace k := zk_gd k
                                          obtain ⟨_, k⟩ := k
                                          by_cases mc118 : (mod_holds x1.toNatClampNeg) = (mod_holds x3.toNatClampNeg)
                                          · replace k := zk_t mc118 k
                                            have mc118n := mc118
                                            (try simp only [i32_lt, i32_le, i32_e, z32_0, z32_1] at mc118n)
                                            first
                                            | (exfalso; omega)
                                            | by_cases mc119 : x5 < 0
                                              · replace k := zk_t mc119 k
                                                have mc119n := mc119
                                                (try simp only [i32_lt, i32_le, i32_e, z32_0, z32_1] at mc119n)
                                                first
                                                | (exfalso; omega)
                                                | have h := Option.some.inj h
                                                  replace k := Option.some.inj k
                                                  subst h
                                                  subst k
                                                  try dsimp only
                                                  all_goals first
                                                  | exact ⟨rfl, hP2, fun i hi => rfl⟩
                                                  | (exfalso; omega)
                                              · replace k := zk_f mc119 k
                                                have mc119n := mc119
                                                (try simp only [i32_lt, i32_le, i32_e, z32_0, z32_1] at mc119n)
                                                first
                                                | (exfalso; omega)
                                                | by_cases mc120 : x2 < 0
                                                  · replace k := zk_t mc120 k
                                                    have mc120n := mc120
                                                    (try simp only [i32_lt, i32_le, i32_e, z32_0, z32_1] at mc120n)
                                                    first
                                                    | (exfalso; omega)
                                                    | have h := Option.some.inj h
                                                      replace k := Option.some.inj k
                                                      subst h
                                                      subst k
                                                      try dsimp only
                                                      all_goals first
                                                      | exact ⟨rfl, hP2, fun i hi => rfl⟩
                                                      | (exfalso; omega)
                                                  · replace k := zk_f mc120 k
                                                    have mc120n := mc120
                                                    (try simp only [i32_lt, i32_le, i32_e, z32_0, z32_1] at mc120n)
                                                    first
                                                    | (exfalso; omega)
                                                    | by_cases mc121 : x4 < 0
                                                      · replace k := zk_t mc121 k
                                                        have mc121n := mc121
                                                        (try simp only [i32_lt, i32_le, i32_e, z32_0, z32_1] at mc121n)
                                                        first
                                                        | (exfalso; omega)
                                                        | have h := Option.some.inj h
                                                          replace k := Option.some.inj k
                                                          subst h
                                                          subst k
                                                          try dsimp only
                                                          all_goals first
                                                          | exact ⟨rfl, hP2, fun i hi => rfl⟩
                                                          | (exfalso; omega)
                                                      · replace k := zk_f mc121 k
                                                        have mc121n := mc121
                                                        (try simp only [i32_lt, i32_le, i32_e, z32_0, z32_1] at mc121n)
                                                        first
                                                        | (exfalso; omega)
                                                        | obtain ⟨_, k⟩ := zk_gd k
                                                          by_cases mc122 : ((mod_size x1.toNatClampNeg) - x5) < x2
                                                          · replace k := zk_t mc122 k
                                                            have mc122n := mc122
                                                            (try simp only [i32_lt, i32_le, i32_e, z32_0, z32_1] at mc122n)
                                                            first
                                                            | (exfalso; omega)
                                                            | have h := Option.some.inj h
                                                              replace k := Option.some.inj k
                                                              subst h
                                                              subst k
                                                              try dsimp only
                                                              all_goals first
                                                              | exact ⟨rfl, hP2, fun i hi => rfl⟩
                                                              | (exfalso; omega)
                                                          · replace k := zk_f mc122 k
                                                            have mc122n := mc122
                                                            (try simp only [i32_lt, i32_le, i32_e, z32_0, z32_1] at mc122n)
                                                            first
                                                            | (exfalso; omega)
                                                            | obtain ⟨_, k⟩ := zk_gd k
                                                              by_cases mc123 : x4 ≤ ((mod_size x3.toNatClampNeg) - x5)
                                                              · replace k := zk_t mc123 k
                                                                have mc123n := mc123
                                                                (try simp only [i32_lt, i32_le, i32_e, z32_0, z32_1] at mc123n)
                                                                first
                                                                | (exfalso; omega)
                                                                | have h := Option.some.inj h
                                                                  subst h
                                                                  exfalso
                                                                  omega
                                                              · replace k := zk_f mc123 k
                                                                have mc123n := mc123
                                                                (try simp only [i32_lt, i32_le, i32_e, z32_0, z32_1] at mc123n)
                                                                first
                                                                | (exfalso; omega)
                                                                | have h := Option.some.inj h
                                                                  replace k := Option.some.inj k
                                                                  subst h
                                                                  subst k
                                                                  try dsimp only
                                                                  all_goals first
                                                                  | exact ⟨rfl, hP2, fun i hi => rfl⟩
                                                                  | (exfalso; omega)
                                          · replace k := zk_f mc118 k
                                            have mc118n := mc118
                                            (try simp only [i32_lt, i32_le, i32_e, z32_0, z32_1] at mc118n)
                                            first
                                            | (exfalso; omega)
                                            | have h := Option.some.inj h
                                              replace k := Option.some.inj k
                                              subst h
                                              subst k
                                              try dsimp only
                                              all_goals first
                                              | exact ⟨rfl, hP2, fun i hi => rfl⟩
                                              | (exfalso; omega)
                          · replace h := zk_f cc23 h
                            have cc23n := cc23
                            (try simp only [i32_lt, i32_le, i32_e, z32_0, z32_1, z32L_5] at cc23n)
                            first
                            | (exfalso; omega)
                            | by_cases cc24 : pl_holds = pm_holds
                              · replace h := zk_t cc24 h
                                have cc24n := cc24
                                (try simp only [i32_lt, i32_le, i32_e, z32_0, z32_1] at cc24n)
                                first
                                | (exfalso; omega)
                                | obtain ⟨cv25, cv26, ch27, h⟩ := zk_o2 h
                                  unfold f_X6_hasRange at ch27
                                  unfold B_X6_hasRange_0 at ch27
                                  by_cases cc28 : x2 < 0
                                  · have ch27 := zk_t cc28 ch27
                                    have cc28n := cc28
                                    (try simp only [i32_lt, i32_le, i32_e, z32_0, z32_1] at cc28n)
                                    first
                                    | (exfalso; omega)
                                    | simp only [Option.some.injEq, Prod.mk.injEq] at ch27
                                      obtain ⟨rfl, _⟩ := ch27
                                      replace h := zk_t rfl h
                                      have hjj1 := hj ⟨cc4, cc10⟩
                                      subst hjj1
                                      obtain ⟨⟨hs11, hs21, hs31⟩, he1, hd1⟩ := id hP
                                      have hx5 : 0 ≤ x1.toInt ∧ x1.toInt ≤ 5 := by
                                        have q1 := cc4
                                        have q2 := cc10
                                        rw [i32_lt, z32_0] at q1
                                        rw [i32_le, z32L_6] at q2
                                        omega
                                      have hsz1 : (mod_size x1.toNatClampNeg).toInt = pl_size.toInt := by rw [hs11]
                                      have hq1 : 0 ≤ x5.toInt → (mod_size x1.toNatClampNeg - x5).toInt = (mod_size x1.toNatClampNeg).toInt - x5.toInt := fun q => i32_dd (by omega) q
                                      have hjj2 := hjt ⟨cc19, cc20⟩
                                      subst hjj2
                                      obtain ⟨⟨hs12, hs22, hs32⟩, he2, hd2⟩ := id hP2
                                      have hx7 : 0 ≤ x3.toInt ∧ x3.toInt ≤ 5 := by
                                        have q1 := cc19
                                        have q2 := cc20
                                        rw [i32_lt, z32_0] at q1
                                        rw [i32_le, z32L_6] at q2
                                        omega
                                      have hsz2 : (mod_size x3.toNatClampNeg).toInt = pm_size.toInt := by rw [hs12]
                                      have hq2 : 0 ≤ x5.toInt → (mod_size x3.toNatClampNeg - x5).toInt = (mod_size x3.toNatClampNeg).toInt - x5.toInt := fun q => i32_dd (by omega) q
                                      unfold B_X12_shift_0 at k
                                      replace k := zk_o2 k
                                      obtain ⟨mv124, mv125, mh126, k⟩ := k
                                      unfold f_X12_isShelf at mh126
                                      unfold B_X12_isShelf_0 at mh126
                                      obtain ⟨mv127, mv128, mh129, mh126⟩ := zk_o2 mh126
                                      unfold f_X12_in at mh129
                                      unfold B_X12_in_0 at mh129
                                      have mh129 := zk_f cc4 mh129
                                      have mh129 := zk_f (by (try simp only [i32_lt, i32_le, i32_e, z32_0, z32_1, z32L_5]); omega) mh129
                                      simp only [Option.some.injEq, Prod.mk.injEq] at mh129
                                      obtain ⟨rfl, _⟩ := mh129
                                      obtain ⟨_, mh126⟩ := zk_gd mh126
                                      simp only [Option.some.injEq, Prod.mk.injEq] at mh126
                                      obtain ⟨rfl, _⟩ := mh126
                                      replace k := zk_f (by decide) k
                                      replace k := zk_o2 k
                                      obtain ⟨mv130, mv131, mh132, k⟩ := k
                                      unfold f_X12_isShelf at mh132
                                      unfold B_X12_isShelf_0 at mh132
                                      obtain ⟨mv133, mv134, mh135, mh132⟩ := zk_o2 mh132
                                      unfold f_X12_in at mh135
                                      unfold B_X12_in_0 at mh135
                                      have mh135 := zk_f cc19 mh135
                                      have mh135 := zk_f (by (try simp only [i32_lt, i32_le, i32_e, z32_0, z32_1, z32L_5]); omega) mh135
                                      simp only [Option.some.injEq, Prod.mk.injEq] at mh135
                                      obtain ⟨rfl, _⟩ := mh135
                                      obtain ⟨_, mh132⟩ := zk_gd mh132
                                      simp only [Option.some.injEq, Prod.mk.injEq] at mh132
                                      obtain ⟨rfl, _⟩ := mh132
                                      replace k := zk_f (by decide) k
                                      replace k := zk_gd k
                                      obtain ⟨_, k⟩ := k
                                      by_cases mc136 : (mod_holds x1.toNatClampNeg) = (-1 : Int32)
                                      · replace k := zk_t mc136 k
                                        have mc136n := mc136
                                        (try simp only [i32_lt, i32_le, i32_e, z32_0, z32_1, z32N_1] at mc136n)
                                        first
                                        | (exfalso; omega)
                                        | have h := Option.some.inj h
                                          replace k := Option.some.inj k
                                          subst h
                                          subst k
                                          try dsimp only
                                          all_goals first
                                          | exact ⟨rfl, hP2, fun i hi => rfl⟩
                                          | (exfalso; omega)
                                      · replace k := zk_f mc136 k
                                        have mc136n := mc136
                                        (try simp only [i32_lt, i32_le, i32_e, z32_0, z32_1, z32N_1] at mc136n)
                                        first
                                        | (exfalso; omega)
                                        | obtain ⟨_, k⟩ := zk_gd k
                                          by_cases mc137 : (mod_holds x3.toNatClampNeg) = (-1 : Int32)
                                          · replace k := zk_t mc137 k
                                            have mc137n := mc137
                                            (try simp only [i32_lt, i32_le, i32_e, z32_0, z32_1, z32N_1] at mc137n)
                                            first
                                            | (exfalso; omega)
                                            | have h := Option.some.inj h
                                              replace k := Option.some.inj k
                                              subst h
                                              subst k
                                              try dsimp only
                                              all_goals first
                                              | exact ⟨rfl, hP2, fun i hi => rfl⟩
                                              | (exfalso; omega)
                                          · replace k := zk_f mc137 k
                                            have mc137n := mc137
                                            (try simp only [i32_lt, i32_le, i32_e, z32_0, z32_1, z32N_1] at mc137n)
                                            first
                                            | (exfalso; omega)
                                            | obtain ⟨_, k⟩ := zk_gd k
                                              by_cases mc138 : 0 ≤ (mod_holds x1.toNatClampNeg)
                                              · replace k := zk_t mc138 k
                                                have mc138n := mc138
                                                (try simp only [i32_lt, i32_le, i32_e, z32_0, z32_1] at mc138n)
                                                first
                                                | (exfalso; omega)
                                                | have h := Option.some.inj h
                                                  replace k := Option.some.inj k
                                                  subst h
                                                  subst k
                                                  try dsimp only
                                                  all_goals first
                                                  | exact ⟨rfl, hP2, fun i hi => rfl⟩
                                                  | (exfalso; omega)
                                              · replace k := zk_f mc138 k
                                                have mc138n := mc138
                                                (try simp only [i32_lt, i32_le, i32_e, z32_0, z32_1] at mc138n)
                                                first
                                                | (exfalso; omega)
                                                | obtain ⟨_, k⟩ := zk_gd k
                                                  replace k := zk_gd k
                                                  obtain ⟨_, k⟩ := k
                                                  by_cases mc139 : (mod_holds x1.toNatClampNeg) = (mod_holds x3.toNatClampNeg)
                                                  · replace k := zk_t mc139 k
                                                    have mc139n := mc139
                                                    (try simp only [i32_lt, i32_le, i32_e, z32_0, z32_1] at mc139n)
                                                    first
                                                    | (exfalso; omega)
                                                    | by_cases mc140 : x5 < 0
                                                      · replace k := zk_t mc140 k
                                                        have mc140n := mc140
                                                        (try simp only [i32_lt, i32_le, i32_e, z32_0, z32_1] at mc140n)
                                                        first
                                                        | (exfalso; omega)
                                                        | have h := Option.some.inj h
                                                          replace k := Option.some.inj k
                                                          subst h
                                                          subst k
                                                          try dsimp only
                                                          all_goals first
                                                          | exact ⟨rfl, hP2, fun i hi => rfl⟩
                                                          | (exfalso; omega)
                                                      · replace k := zk_f mc140 k
                                                        have mc140n := mc140
                                                        (try simp only [i32_lt, i32_le, i32_e, z32_0, z32_1] at mc140n)
                                                        first
                                                        | (exfalso; omega)
                                                        | have k := zk_t cc28 k
                                                          replace h := Option.some.inj h
                                                          replace k := Option.some.inj k
                                                          subst h
                                                          subst k
                                                          try dsimp only
                                                          all_goals first
                                                          | exact ⟨rfl, hP2, fun i hi => rfl⟩
                                                          | (exfalso; omega)
                                                  · replace k := zk_f mc139 k
                                                    have mc139n := mc139
                                                    (try simp only [i32_lt, i32_le, i32_e, z32_0, z32_1] at mc139n)
                                                    first
                                                    | (exfalso; omega)
                                                    | have h := Option.some.inj h
                                                      replace k := Option.some.inj k
                                                      subst h
                                                      subst k
                                                      try dsimp only
                                                      all_goals first
                                                      | exact ⟨rfl, hP2, fun i hi => rfl⟩
                                                      | (exfalso; omega)
                                  · have ch27 := zk_f cc28 ch27
                                    have cc28n := cc28
                                    (try simp only [i32_lt, i32_le, i32_e, z32_0, z32_1] at cc28n)
                                    first
                                    | (exfalso; omega)
                                    | by_cases cc29 : x5 < 0
                                      · have ch27 := zk_t cc29 ch27
                                        have cc29n := cc29
                                        (try simp only [i32_lt, i32_le, i32_e, z32_0, z32_1] at cc29n)
                                        first
                                        | (exfalso; omega)
                                        | simp only [Option.some.injEq, Prod.mk.injEq] at ch27
                                          obtain ⟨rfl, _⟩ := ch27
                                          replace h := zk_t rfl h
                                          have hjj1 := hj ⟨cc4, cc10⟩
                                          subst hjj1
                                          obtain ⟨⟨hs11, hs21, hs31⟩, he1, hd1⟩ := id hP
                                          have hx5 : 0 ≤ x1.toInt ∧ x1.toInt ≤ 5 := by
                                            have q1 := cc4
                                            have q2 := cc10
                                            rw [i32_lt, z32_0] at q1
                                            rw [i32_le, z32L_6] at q2
                                            omega
                                          have hsz1 : (mod_size x1.toNatClampNeg).toInt = pl_size.toInt := by rw [hs11]
                                          have hq1 : 0 ≤ x5.toInt → (mod_size x1.toNatClampNeg - x5).toInt = (mod_size x1.toNatClampNeg).toInt - x5.toInt := fun q => i32_dd (by omega) q
                                          have hjj2 := hjt ⟨cc19, cc20⟩
                                          subst hjj2
                                          obtain ⟨⟨hs12, hs22, hs32⟩, he2, hd2⟩ := id hP2
                                          have hx7 : 0 ≤ x3.toInt ∧ x3.toInt ≤ 5 := by
                                            have q1 := cc19
                                            have q2 := cc20
                                            rw [i32_lt, z32_0] at q1
                                            rw [i32_le, z32L_6] at q2
                                            omega
                                          have hsz2 : (mod_size x3.toNatClampNeg).toInt = pm_size.toInt := by rw [hs12]
                                          have hq2 : 0 ≤ x5.toInt → (mod_size x3.toNatClampNeg - x5).toInt = (mod_size x3.toNatClampNeg).toInt - x5.toInt := fun q => i32_dd (by omega) q
                                          unfold B_X12_shift_0 at k
                                          replace k := zk_o2 k
                                          obtain ⟨mv141, mv142, mh143, k⟩ := k
                                          unfold f_X12_isShelf at mh143
                                          unfold B_X12_isShelf_0 at mh143
                                          obtain ⟨mv144, mv145, mh146, mh143⟩ := zk_o2 mh143
                                          unfold f_X12_in at mh146
                                          unfold B_X12_in_0 at mh146
                                          have mh146 := zk_f cc4 mh146
                                          have mh146 := zk_f (by (try simp only [i32_lt, i32_le, i32_e, z32_0, z32_1, z32L_5]); omega) mh146
                                          simp only [Option.some.injEq, Prod.mk.injEq] at mh146
                                          obtain ⟨rfl, _⟩ := mh146
                                          obtain ⟨_, mh143⟩ := zk_gd mh143
                                          simp only [Option.some.injEq, Prod.mk.injEq] at mh143
                                          obtain ⟨rfl, _⟩ := mh143
                                          replace k := zk_f (by decide) k
                                          replace k := zk_o2 k
                                          obtain ⟨mv147, mv148, mh149, k⟩ := k
                                          unfold f_X12_isShelf at mh149
                                          unfold B_X12_isShelf_0 at mh149
                                          obtain ⟨mv150, mv151, mh152, mh149⟩ := zk_o2 mh149
                                          unfold f_X12_in at mh152
                                          unfold B_X12_in_0 at mh152
                                          have mh152 := zk_f cc19 mh152
                                          have mh152 := zk_f (by (try simp only [i32_lt, i32_le, i32_e, z32_0, z32_1, z32L_5]); omega) mh152
                                          simp only [Option.some.injEq, Prod.mk.injEq] at mh152
                                          obtain ⟨rfl, _⟩ := mh152
                                          obtain ⟨_, mh149⟩ := zk_gd mh149
                                          simp only [Option.some.injEq, Prod.mk.injEq] at mh149
                                          obtain ⟨rfl, _⟩ := mh149
                                          replace k := zk_f (by decide) k
                                          replace k := zk_gd k
                                          obtain ⟨_, k⟩ := k
                                          by_cases mc153 : (mod_holds x1.toNatClampNeg) = (-1 : Int32)
                                          · replace k := zk_t mc153 k
                                            have mc153n := mc153
                                            (try simp only [i32_lt, i32_le, i32_e, z32_0, z32_1, z32N_1] at mc153n)
                                            first
                                            | (exfalso; omega)
                                            | have h := Option.some.inj h
                                              replace k := Option.some.inj k
                                              subst h
                                              subst k
                                              try dsimp only
                                              all_goals first
                                              | exact ⟨rfl, hP2, fun i hi => rfl⟩
                                              | (exfalso; omega)
                                          · replace k := zk_f mc153 k
                                            have mc153n := mc153
                                            (try simp only [i32_lt, i32_le, i32_e, z32_0, z32_1, z32N_1] at mc153n)
                                            first
                                            | (exfalso; omega)
                                            | obtain ⟨_, k⟩ := zk_gd k
                                              by_cases mc154 : (mod_holds x3.toNatClampNeg) = (-1 : Int32)
                                              · replace k := zk_t mc154 k
                                                have mc154n := mc154
                                                (try simp only [i32_lt, i32_le, i32_e, z32_0, z32_1, z32N_1] at mc154n)
                                                first
                                                | (exfalso; omega)
                                                | have h := Option.some.inj h
                                                  replace k := Option.some.inj k
                                                  subst h
                                                  subst k
                                                  try dsimp only
                                                  all_goals first
                                                  | exact ⟨rfl, hP2, fun i hi => rfl⟩
                                                  | (exfalso; omega)
                                              · replace k := zk_f mc154 k
                                                have mc154n := mc154
                                                (try simp only [i32_lt, i32_le, i32_e, z32_0, z32_1, z32N_1] at mc154n)
                                                first
                                                | (exfalso; omega)
                                                | obtain ⟨_, k⟩ := zk_gd k
                                                  by_cases mc155 : 0 ≤ (mod_holds x1.toNatClampNeg)
                                                  · replace k := zk_t mc155 k
                                                    have mc155n := mc155
                                                    (try simp only [i32_lt, i32_le, i32_e, z32_0, z32_1] at mc155n)
                                                    first
                                                    | (exfalso; omega)
                                                    | have h := Option.some.inj h
                                                      replace k := Option.some.inj k
                                                      subst h
                                                      subst k
                                                      try dsimp only
                                                      all_goals first
                                                      | exact ⟨rfl, hP2, fun i hi => rfl⟩
                                                      | (exfalso; omega)
                                                  · replace k := zk_f mc155 k
                                                    have mc155n := mc155
                                                    (try simp only [i32_lt, i32_le, i32_e, z32_0, z32_1] at mc155n)
                                                    first
                                                    | (exfalso; omega)
                                                    | obtain ⟨_, k⟩ := zk_gd k
                                                      replace k := zk_gd k
                                                      obtain ⟨_, k⟩ := k
                                                      by_cases mc156 : (mod_holds x1.toNatClampNeg) = (mod_holds x3.toNatClampNeg)
                                                      · replace k := zk_t mc156 k
                                                        have mc156n := mc156
                                                        (try simp only [i32_lt, i32_le, i32_e, z32_0, z32_1] at mc156n)
                                                        first
                                                        | (exfalso; omega)
                                                        | have k := zk_t cc29 k
                                                          replace h := Option.some.inj h
                                                          replace k := Option.some.inj k
                                                          subst h
                                                          subst k
                                                          try dsimp only
                                                          all_goals first
                                                          | exact ⟨rfl, hP2, fun i hi => rfl⟩
                                                          | (exfalso; omega)
                                                      · replace k := zk_f mc156 k
                                                        have mc156n := mc156
                                                        (try simp only [i32_lt, i32_le, i32_e, z32_0, z32_1] at mc156n)
                                                        first
                                                        | (exfalso; omega)
                                                        | have h := Option.some.inj h
                                                          replace k := Option.some.inj k
                                                          subst h
                                                          subst k
                                                          try dsimp only
                                                          all_goals first
                                                          | exact ⟨rfl, hP2, fun i hi => rfl⟩
                                                          | (exfalso; omega)
                                      · have ch27 := zk_f cc29 ch27
                                        have cc29n := cc29
                                        (try simp only [i32_lt, i32_le, i32_e, z32_0, z32_1] at cc29n)
                                        first
                                        | (exfalso; omega)
                                        | by_cases cc30 : pl_size < x2
                                          · have ch27 := zk_t cc30 ch27
                                            have cc30n := cc30
                                            (try simp only [i32_lt, i32_le, i32_e, z32_0, z32_1] at cc30n)
                                            first
                                            | (exfalso; omega)
                                            | simp only [Option.some.injEq, Prod.mk.injEq] at ch27
                                              obtain ⟨rfl, _⟩ := ch27
                                              replace h := zk_t rfl h
                                              have hjj1 := hj ⟨cc4, cc10⟩
                                              subst hjj1
                                              obtain ⟨⟨hs11, hs21, hs31⟩, he1, hd1⟩ := id hP
                                              have hx5 : 0 ≤ x1.toInt ∧ x1.toInt ≤ 5 := by
                                                have q1 := cc4
                                                have q2 := cc10
                                                rw [i32_lt, z32_0] at q1
                                                rw [i32_le, z32L_6] at q2
                                                omega
                                              have hsz1 : (mod_size x1.toNatClampNeg).toInt = pl_size.toInt := by rw [hs11]
                                              have hq1 : 0 ≤ x5.toInt → (mod_size x1.toNatClampNeg - x5).toInt = (mod_size x1.toNatClampNeg).toInt - x5.toInt := fun q => i32_dd (by omega) q
                                              have hjj2 := hjt ⟨cc19, cc20⟩
                                              subst hjj2
                                              obtain ⟨⟨hs12, hs22, hs32⟩, he2, hd2⟩ := id hP2
                                              have hx7 : 0 ≤ x3.toInt ∧ x3.toInt ≤ 5 := by
                                                have q1 := cc19
                                                have q2 := cc20
                                                rw [i32_lt, z32_0] at q1
                                                rw [i32_le, z32L_6] at q2
                                                omega
                                              have hsz2 : (mod_size x3.toNatClampNeg).toInt = pm_size.toInt := by rw [hs12]
                                              have hq2 : 0 ≤ x5.toInt → (mod_size x3.toNatClampNeg - x5).toInt = (mod_size x3.toNatClampNeg).toInt - x5.toInt := fun q => i32_dd (by omega) q
                                              unfold B_X12_shift_0 at k
                                              replace k := zk_o2 k
                                              obtain ⟨mv157, mv158, mh159, k⟩ := k
                                              unfold f_X12_isShelf at mh159
                                              unfold B_X12_isShelf_0 at mh159
                                              obtain ⟨mv160, mv161, mh162, mh159⟩ := zk_o2 mh159
                                              unfold f_X12_in at mh162
                                              unfold B_X12_in_0 at mh162
                                              have mh162 := zk_f cc4 mh162
                                              have mh162 := zk_f (by (try simp only [i32_lt, i32_le, i32_e, z32_0, z32_1, z32L_5]); omega) mh162
                                              simp only [Option.some.injEq, Prod.mk.injEq] at mh162
                                              obtain ⟨rfl, _⟩ := mh162
                                              obtain ⟨_, mh159⟩ := zk_gd mh159
                                              simp only [Option.some.injEq, Prod.mk.injEq] at mh159
                                              obtain ⟨rfl, _⟩ := mh159
                                              replace k := zk_f (by decide) k
                                              replace k := zk_o2 k
                                              obtain ⟨mv163, mv164, mh165, k⟩ := k
                                              unfold f_X12_isShelf at mh165
                                              unfold B_X12_isShelf_0 at mh165
                                              obtain ⟨mv166, mv167, mh168, mh165⟩ := zk_o2 mh165
                                              unfold f_X12_in at mh168
                                              unfold B_X12_in_0 at mh168
                                              have mh168 := zk_f cc19 mh168
                                              have mh168 := zk_f (by (try simp only [i32_lt, i32_le, i32_e, z32_0, z32_1, z32L_5]); omega) mh168
                                              simp only [Option.some.injEq, Prod.mk.injEq] at mh168
                                              obtain ⟨rfl, _⟩ := mh168
                                              obtain ⟨_, mh165⟩ := zk_gd mh165
                                              simp only [Option.some.injEq, Prod.mk.injEq] at mh165
                                              obtain ⟨rfl, _⟩ := mh165
                                              replace k := zk_f (by decide) k
                                              replace k := zk_gd k
                                              obtain ⟨_, k⟩ := k
                                              by_cases mc169 : (mod_holds x1.toNatClampNeg) = (-1 : Int32)
                                              · replace k := zk_t mc169 k
                                                have mc169n := mc169
                                                (try simp only [i32_lt, i32_le, i32_e, z32_0, z32_1, z32N_1] at mc169n)
                                                first
                                                | (exfalso; omega)
                                                | have h := Option.some.inj h
                                                  replace k := Option.some.inj k
                                                  subst h
                                                  subst k
                                                  try dsimp only
                                                  all_goals first
                                                  | exact ⟨rfl, hP2, fun i hi => rfl⟩
                                                  | (exfalso; omega)
                                              · replace k := zk_f mc169 k
                                                have mc169n := mc169
                                                (try simp only [i32_lt, i32_le, i32_e, z32_0, z32_1, z32N_1] at mc169n)
                                                first
                                                | (exfalso; omega)
                                                | obtain ⟨_, k⟩ := zk_gd k
                                                  by_cases mc170 : (mod_holds x3.toNatClampNeg) = (-1 : Int32)
                                                  · replace k := zk_t mc170 k
                                                    have mc170n := mc170
                                                    (try simp only [i32_lt, i32_le, i32_e, z32_0, z32_1, z32N_1] at mc170n)
                                                    first
                                                    | (exfalso; omega)
                                                    | have h := Option.some.inj h
                                                      replace k := Option.some.inj k
                                                      subst h
                                                      subst k
                                                      try dsimp only
                                                      all_goals first
                                                      | exact ⟨rfl, hP2, fun i hi => rfl⟩
                                                      | (exfalso; omega)
                                                  · replace k := zk_f mc170 k
                                                    have mc170n := mc170
                                                    (try simp only [i32_lt, i32_le, i32_e, z32_0, z32_1, z32N_1] at mc170n)
                                                    first
                                                    | (exfalso; omega)
                                                    | obtain ⟨_, k⟩ := zk_gd k
                                                      by_cases mc171 : 0 ≤ (mod_holds x1.toNatClampNeg)
                                                      · replace k := zk_t mc171 k
                                                        have mc171n := mc171
                                                        (try simp only [i32_lt, i32_le, i32_e, z32_0, z32_1] at mc171n)
                                                        first
                                                        | (exfalso; omega)
                                                        | have h := Option.some.inj h
                                                          replace k := Option.some.inj k
                                                          subst h
                                                          subst k
                                                          try dsimp only
                                                          all_goals first
                                                          | exact ⟨rfl, hP2, fun i hi => rfl⟩
                                                          | (exfalso; omega)
                                                      · replace k := zk_f mc171 k
                                                        have mc171n := mc171
                                                        (try simp only [i32_lt, i32_le, i32_e, z32_0, z32_1] at mc171n)
                                                        first
                                                        | (exfalso; omega)
                                                        | obtain ⟨_, k⟩ := zk_gd k
                                                          replace k := zk_gd k
                                                          obtain ⟨_, k⟩ := k
                                                          by_cases mc172 : (mod_holds x1.toNatClampNeg) = (mod_holds x3.toNatClampNeg)
                                                          · replace k := zk_t mc172 k
                                                            have mc172n := mc172
                                                            (try simp only [i32_lt, i32_le, i32_e, z32_0, z32_1] at mc172n)
                                                            first
                                                            | (exfalso; omega)
                                                            | have k := zk_f cc29 k
                                                              replace k := zk_f cc28 k
                                                              by_cases mc173 : x4 < 0
                                                              · replace k := zk_t mc173 k
                                                                have mc173n := mc173
                                                                (try simp only [i32_lt, i32_le, i32_e, z32_0, z32_1] at mc173n)
                                                                first
                                                                | (exfalso; omega)
                                                                | have h := Option.some.inj h
                                                                  replace k := Option.some.inj k
                                                                  subst h
                                                                  subst k
                                                                  try dsimp only
                                                                  all_goals first
                                                                  | exact ⟨rfl, hP2, fun i hi => rfl⟩
                                                                  | (exfalso; omega)
                                                              · replace k := zk_f mc173 k
                                                                have mc173n := mc173
                                                                (try simp only [i32_lt, i32_le, i32_e, z32_0, z32_1] at mc173n)
                                                                first
                                                                | (exfalso; omega)
                                                                | obtain ⟨_, k⟩ := zk_gd k
                                                                  by_cases mc174 : ((mod_size x1.toNatClampNeg) - x5) < x2
                                                                  · replace k := zk_t mc174 k
                                                                    have mc174n := mc174
                                                                    (try simp only [i32_lt, i32_le, i32_e, z32_0, z32_1] at mc174n)
                                                                    first
                                                                    | (exfalso; omega)
                                                                    | have h := Option.some.inj h
                                                                      replace k := Option.some.inj k
                                                                      subst h
                                                                      subst k
                                                                      try dsimp only
                                                                      all_goals first
                                                                      | exact ⟨rfl, hP2, fun i hi => rfl⟩
                                                                      | (exfalso; omega)
                                                                  · replace k := zk_f mc174 k
                                                                    have mc174n := mc174
                                                                    (try simp only [i32_lt, i32_le, i32_e, z32_0, z32_1] at mc174n)
                                                                    first
                                                                    | (exfalso; omega)
                                                                    | obtain ⟨_, k⟩ := zk_gd k
                                                                      by_cases mc175 : x4 ≤ ((mod_size x3.toNatClampNeg) - x5)
                                                                      · replace k := zk_t mc175 k
                                                                        have mc175n := mc175
                                                                        (try simp only [i32_lt, i32_le, i32_e, z32_0, z32_1] at mc175n)
                                                                        first
                                                                        | (exfalso; omega)
                                                                        | have h := Option.some.inj h
                                                                          subst h
                                                                          exfalso
                                                                          omega
                                                                      · replace k := zk_f mc175 k
                                                                        have mc175n := mc175
                                                                        (try simp only [i32_lt, i32_le, i32_e, z32_0, z32_1] at mc175n)
                                                                        first
                                                                        | (exfalso; omega)
                                                                        | have h := Option.some.inj h
                                                                          replace k := Option.some.inj k
                                                                          subst h
                                                                          subst k
                                                                          try dsimp only
                                                                          all_goals first
                                                                          | exact ⟨rfl, hP2, fun i hi => rfl⟩
                                                                          | (exfalso; omega)
                                                          · replace k := zk_f mc172 k
                                                            have mc172n := mc172
                                                            (try simp only [i32_lt, i32_le, i32_e, z32_0, z32_1] at mc172n)
                                                            first
                                                            | (exfalso; omega)
                                                            | have h := Option.some.inj h
                                                              replace k := Option.some.inj k
                                                              subst h
                                                              subst k
                                                              try dsimp only
                                                              all_goals first
                                                              | exact ⟨rfl, hP2, fun i hi => rfl⟩
                                                              | (exfalso; omega)
                                          · have ch27 := zk_f cc30 ch27
                                            have cc30n := cc30
                                            (try simp only [i32_lt, i32_le, i32_e, z32_0, z32_1] at cc30n)
                                            first
                                            | (exfalso; omega)
                                            | by_cases cc31 : (pl_size - x2) < x5
                                              · have ch27 := zk_t cc31 ch27
                                                have cc31n := cc31
                                                (try simp only [i32_lt, i32_le, i32_e, z32_0, z32_1] at cc31n)
                                                first
                                                | (exfalso; omega)
                                                | simp only [Option.some.injEq, Prod.mk.injEq] at ch27
                                                  obtain ⟨rfl, _⟩ := ch27
                                                  replace h := zk_t rfl h
                                                  have hjj1 := hj ⟨cc4, cc10⟩
                                                  subst hjj1
                                                  obtain ⟨⟨hs11, hs21, hs31⟩, he1, hd1⟩ := id hP
                                                  have hx5 : 0 ≤ x1.toInt ∧ x1.toInt ≤ 5 := by
                                                    have q1 := cc4
                                                    have q2 := cc10
                                                    rw [i32_lt, z32_0] at q1
                                                    rw [i32_le, z32L_6] at q2
                                                    omega
                                                  have hsz1 : (mod_size x1.toNatClampNeg).toInt = pl_size.toInt := by rw [hs11]
                                                  have hq1 : 0 ≤ x5.toInt → (mod_size x1.toNatClampNeg - x5).toInt = (mod_size x1.toNatClampNeg).toInt - x5.toInt := fun q => i32_dd (by omega) q
                                                  have hjj2 := hjt ⟨cc19, cc20⟩
                                                  subst hjj2
                                                  obtain ⟨⟨hs12, hs22, hs32⟩, he2, hd2⟩ := id hP2
                                                  have hx7 : 0 ≤ x3.toInt ∧ x3.toInt ≤ 5 := by
                                                    have q1 := cc19
                                                    have q2 := cc20
                                                    rw [i32_lt, z32_0] at q1
                                                    rw [i32_le, z32L_6] at q2
                                                    omega
                                                  have hsz2 : (mod_size x3.toNatClampNeg).toInt = pm_size.toInt := by rw [hs12]
                                                  have hq2 : 0 ≤ x5.toInt → (mod_size x3.toNatClampNeg - x5).toInt = (mod_size x3.toNatClampNeg).toInt - x5.toInt := fun q => i32_dd (by omega) q
                                                  unfold B_X12_shift_0 at k
                                                  replace k := zk_o2 k
                                                  obtain ⟨mv176, mv177, mh178, k⟩ := k
                                                  unfold f_X12_isShelf at mh178
                                                  unfold B_X12_isShelf_0 at mh178
                                                  obtain ⟨mv179, mv180, mh181, mh178⟩ := zk_o2 mh178
                                                  unfold f_X12_in at mh181
                                                  unfold B_X12_in_0 at mh181
                                                  have mh181 := zk_f cc4 mh181
                                                  have mh181 := zk_f (by (try simp only [i32_lt, i32_le, i32_e, z32_0, z32_1, z32L_5]); omega) mh181
                                                  simp only [Option.some.injEq, Prod.mk.injEq] at mh181
                                                  obtain ⟨rfl, _⟩ := mh181
                                                  obtain ⟨_, mh178⟩ := zk_gd mh178
                                                  simp only [Option.some.injEq, Prod.mk.injEq] at mh178
                                                  obtain ⟨rfl, _⟩ := mh178
                                                  replace k := zk_f (by decide) k
                                                  replace k := zk_o2 k
                                                  obtain ⟨mv182, mv183, mh184, k⟩ := k
                                                  unfold f_X12_isShelf at mh184
                                                  unfold B_X12_isShelf_0 at mh184
                                                  obtain ⟨mv185, mv186, mh187, mh184⟩ := zk_o2 mh184
                                                  unfold f_X12_in at mh187
                                                  unfold B_X12_in_0 at mh187
                                                  have mh187 := zk_f cc19 mh187
                                                  have mh187 := zk_f (by (try simp only [i32_lt, i32_le, i32_e, z32_0, z32_1, z32L_5]); omega) mh187
                                                  simp only [Option.some.injEq, Prod.mk.injEq] at mh187
                                                  obtain ⟨rfl, _⟩ := mh187
                                                  obtain ⟨_, mh184⟩ := zk_gd mh184
                                                  simp only [Option.some.injEq, Prod.mk.injEq] at mh184
                                                  obtain ⟨rfl, _⟩ := mh184
                                                  replace k := zk_f (by decide) k
                                                  replace k := zk_gd k
                                                  obtain ⟨_, k⟩ := k
                                                  by_cases mc188 : (mod_holds x1.toNatClampNeg) = (-1 : Int32)
                                                  · replace k := zk_t mc188 k
                                                    have mc188n := mc188
                                                    (try simp only [i32_lt, i32_le, i32_e, z32_0, z32_1, z32N_1] at mc188n)
                                                    first
                                                    | (exfalso; omega)
                                                    | have h := Option.some.inj h
                                                      replace k := Option.some.inj k
                                                      subst h
                                                      subst k
                                                      try dsimp only
                                                      all_goals first
                                                      | exact ⟨rfl, hP2, fun i hi => rfl⟩
                                                      | (exfalso; omega)
                                                  · replace k := zk_f mc188 k
                                                    have mc188n := mc188
                                                    (try simp only [i32_lt, i32_le, i32_e, z32_0, z32_1, z32N_1] at mc188n)
                                                    first
                                                    | (exfalso; omega)
                                                    | obtain ⟨_, k⟩ := zk_gd k
                                                      by_cases mc189 : (mod_holds x3.toNatClampNeg) = (-1 : Int32)
                                                      · replace k := zk_t mc189 k
                                                        have mc189n := mc189
                                                        (try simp only [i32_lt, i32_le, i32_e, z32_0, z32_1, z32N_1] at mc189n)
                                                        first
                                                        | (exfalso; omega)
                                                        | have h := Option.some.inj h
                                                          replace k := Option.some.inj k
                                                          subst h
                                                          subst k
                                                          try dsimp only
                                                          all_goals first
                                                          | exact ⟨rfl, hP2, fun i hi => rfl⟩
                                                          | (exfalso; omega)
                                                      · replace k := zk_f mc189 k
                                                        have mc189n := mc189
                                                        (try simp only [i32_lt, i32_le, i32_e, z32_0, z32_1, z32N_1] at mc189n)
                                                        first
                                                        | (exfalso; omega)
                                                        | obtain ⟨_, k⟩ := zk_gd k
                                                          by_cases mc190 : 0 ≤ (mod_holds x1.toNatClampNeg)
                                                          · replace k := zk_t mc190 k
                                                            have mc190n := mc190
                                                            (try simp only [i32_lt, i32_le, i32_e, z32_0, z32_1] at mc190n)
                                                            first
                                                            | (exfalso; omega)
                                                            | have h := Option.some.inj h
                                                              replace k := Option.some.inj k
                                                              subst h
                                                              subst k
                                                              try dsimp only
                                                              all_goals first
                                                              | exact ⟨rfl, hP2, fun i hi => rfl⟩
                                                              | (exfalso; omega)
                                                          · replace k := zk_f mc190 k
                                                            have mc190n := mc190
                                                            (try simp only [i32_lt, i32_le, i32_e, z32_0, z32_1] at mc190n)
                                                            first
                                                            | (exfalso; omega)
                                                            | obtain ⟨_, k⟩ := zk_gd k
                                                              replace k := zk_gd k
                                                              obtain ⟨_, k⟩ := k
                                                              by_cases mc191 : (mod_holds x1.toNatClampNeg) = (mod_holds x3.toNatClampNeg)
                                                              · replace k := zk_t mc191 k
                                                                have mc191n := mc191
                                                                (try simp only [i32_lt, i32_le, i32_e, z32_0, z32_1] at mc191n)
                                                                first
                                                                | (exfalso; omega)
                                                                | have k := zk_f cc29 k
                                                                  replace k := zk_f cc28 k
                                                                  by_cases mc192 : x4 < 0
                                                                  · replace k := zk_t mc192 k
                                                                    have mc192n := mc192
                                                                    (try simp only [i32_lt, i32_le, i32_e, z32_0, z32_1] at mc192n)
                                                                    first
                                                                    | (exfalso; omega)
                                                                    | have h := Option.some.inj h
                                                                      replace k := Option.some.inj k
                                                                      subst h
                                                                      subst k
                                                                      try dsimp only
                                                                      all_goals first
                                                                      | exact ⟨rfl, hP2, fun i hi => rfl⟩
                                                                      | (exfalso; omega)
                                                                  · replace k := zk_f mc192 k
                                                                    have mc192n := mc192
                                                                    (try simp only [i32_lt, i32_le, i32_e, z32_0, z32_1] at mc192n)
                                                                    first
                                                                    | (exfalso; omega)
                                                                    | obtain ⟨_, k⟩ := zk_gd k
                                                                      by_cases mc193 : ((mod_size x1.toNatClampNeg) - x5) < x2
                                                                      · replace k := zk_t mc193 k
                                                                        have mc193n := mc193
                                                                        (try simp only [i32_lt, i32_le, i32_e, z32_0, z32_1] at mc193n)
                                                                        first
                                                                        | (exfalso; omega)
                                                                        | have h := Option.some.inj h
                                                                          replace k := Option.some.inj k
                                                                          subst h
                                                                          subst k
                                                                          try dsimp only
                                                                          all_goals first
                                                                          | exact ⟨rfl, hP2, fun i hi => rfl⟩
                                                                          | (exfalso; omega)
                                                                      · replace k := zk_f mc193 k
                                                                        have mc193n := mc193
                                                                        (try simp only [i32_lt, i32_le, i32_e, z32_0, z32_1] at mc193n)
                                                                        first
                                                                        | (exfalso; omega)
                                                                        | obtain ⟨_, k⟩ := zk_gd k
                                                                          by_cases mc194 : x4 ≤ ((mod_size x3.toNatClampNeg) - x5)
                                                                          · replace k := zk_t mc194 k
                                                                            have mc194n := mc194
                                                                            (try simp only [i32_lt, i32_le, i32_e, z32_0, z32_1] at mc194n)
                                                                            first
                                                                            | (exfalso; omega)
                                                                            | have h := Option.some.inj h
                                                                              subst h
                                                                              exfalso
                                                                              omega
                                                                          · replace k := zk_f mc194 k
                                                                            have mc194n := mc194
                                                                            (try simp only [i32_lt, i32_le, i32_e, z32_0, z32_1] at mc194n)
                                                                            first
                                                                            | (exfalso; omega)
                                                                            | have h := Option.some.inj h
                                                                              replace k := Option.some.inj k
                                                                              subst h
                                                                              subst k
                                                                              try dsimp only
                                                                              all_goals first
                                                                              | exact ⟨rfl, hP2, fun i hi => rfl⟩
                                                                              | (exfalso; omega)
                                                              · replace k := zk_f mc191 k
                                                                have mc191n := mc191
                                                                (try simp only [i32_lt, i32_le, i32_e, z32_0, z32_1] at mc191n)
                                                                first
                                                                | (exfalso; omega)
                                                                | have h := Option.some.inj h
                                                                  replace k := Option.some.inj k
                                                                  subst h
                                                                  subst k
                                                                  try dsimp only
                                                                  all_goals first
                                                                  | exact ⟨rfl, hP2, fun i hi => rfl⟩
                                                                  | (exfalso; omega)
                                              · have ch27 := zk_f cc31 ch27
                                                have cc31n := cc31
                                                (try simp only [i32_lt, i32_le, i32_e, z32_0, z32_1] at cc31n)
                                                first
                                                | (exfalso; omega)
                                                | simp only [Option.some.injEq, Prod.mk.injEq] at ch27
                                                  obtain ⟨rfl, _⟩ := ch27
                                                  replace h := zk_f (by decide) h
                                                  replace h := zk_o2 h
                                                  obtain ⟨cv32, cv33, ch34, h⟩ := h
                                                  unfold f_X6_hasRange at ch34
                                                  unfold B_X6_hasRange_0 at ch34
                                                  by_cases cc35 : x4 < 0
                                                  · have ch34 := zk_t cc35 ch34
                                                    have cc35n := cc35
                                                    (try simp only [i32_lt, i32_le, i32_e, z32_0, z32_1] at cc35n)
                                                    first
                                                    | (exfalso; omega)
                                                    | simp only [Option.some.injEq, Prod.mk.injEq] at ch34
                                                      obtain ⟨rfl, _⟩ := ch34
                                                      replace h := zk_t rfl h
                                                      have hjj1 := hj ⟨cc4, cc10⟩
                                                      subst hjj1
                                                      obtain ⟨⟨hs11, hs21, hs31⟩, he1, hd1⟩ := id hP
                                                      have hx5 : 0 ≤ x1.toInt ∧ x1.toInt ≤ 5 := by
                                                        have q1 := cc4
                                                        have q2 := cc10
                                                        rw [i32_lt, z32_0] at q1
                                                        rw [i32_le, z32L_6] at q2
                                                        omega
                                                      have hsz1 : (mod_size x1.toNatClampNeg).toInt = pl_size.toInt := by rw [hs11]
                                                      have hq1 : 0 ≤ x5.toInt → (mod_size x1.toNatClampNeg - x5).toInt = (mod_size x1.toNatClampNeg).toInt - x5.toInt := fun q => i32_dd (by omega) q
                                                      have hjj2 := hjt ⟨cc19, cc20⟩
                                                      subst hjj2
                                                      obtain ⟨⟨hs12, hs22, hs32⟩, he2, hd2⟩ := id hP2
                                                      have hx7 : 0 ≤ x3.toInt ∧ x3.toInt ≤ 5 := by
                                                        have q1 := cc19
                                                        have q2 := cc20
                                                        rw [i32_lt, z32_0] at q1
                                                        rw [i32_le, z32L_6] at q2
                                                        omega
                                                      have hsz2 : (mod_size x3.toNatClampNeg).toInt = pm_size.toInt := by rw [hs12]
                                                      have hq2 : 0 ≤ x5.toInt → (mod_size x3.toNatClampNeg - x5).toInt = (mod_size x3.toNatClampNeg).toInt - x5.toInt := fun q => i32_dd (by omega) q
                                                      unfold B_X12_shift_0 at k
                                                      replace k := zk_o2 k
                                                      obtain ⟨mv195, mv196, mh197, k⟩ := k
                                                      unfold f_X12_isShelf at mh197
                                                      unfold B_X12_isShelf_0 at mh197
                                                      obtain ⟨mv198, mv199, mh200, mh197⟩ := zk_o2 mh197
                                                      unfold f_X12_in at mh200
                                                      unfold B_X12_in_0 at mh200
                                                      have mh200 := zk_f cc4 mh200
                                                      have mh200 := zk_f (by (try simp only [i32_lt, i32_le, i32_e, z32_0, z32_1, z32L_5]); omega) mh200
                                                      simp only [Option.some.injEq, Prod.mk.injEq] at mh200
                                                      obtain ⟨rfl, _⟩ := mh200
                                                      obtain ⟨_, mh197⟩ := zk_gd mh197
                                                      simp only [Option.some.injEq, Prod.mk.injEq] at mh197
                                                      obtain ⟨rfl, _⟩ := mh197
                                                      replace k := zk_f (by decide) k
                                                      replace k := zk_o2 k
                                                      obtain ⟨mv201, mv202, mh203, k⟩ := k
                                                      unfold f_X12_isShelf at mh203
                                                      unfold B_X12_isShelf_0 at mh203
                                                      obtain ⟨mv204, mv205, mh206, mh203⟩ := zk_o2 mh203
                                                      unfold f_X12_in at mh206
                                                      unfold B_X12_in_0 at mh206
                                                      have mh206 := zk_f cc19 mh206
                                                      have mh206 := zk_f (by (try simp only [i32_lt, i32_le, i32_e, z32_0, z32_1, z32L_5]); omega) mh206
                                                      simp only [Option.some.injEq, Prod.mk.injEq] at mh206
                                                      obtain ⟨rfl, _⟩ := mh206
                                                      obtain ⟨_, mh203⟩ := zk_gd mh203
                                                      simp only [Option.some.injEq, Prod.mk.injEq] at mh203
                                                      obtain ⟨rfl, _⟩ := mh203
                                                      replace k := zk_f (by decide) k
                                                      replace k := zk_gd k
                                                      obtain ⟨_, k⟩ := k
                                                      by_cases mc207 : (mod_holds x1.toNatClampNeg) = (-1 : Int32)
                                                      · replace k := zk_t mc207 k
                                                        have mc207n := mc207
                                                        (try simp only [i32_lt, i32_le, i32_e, z32_0, z32_1, z32N_1] at mc207n)
                                                        first
                                                        | (exfalso; omega)
                                                        | have h := Option.some.inj h
                                                          replace k := Option.some.inj k
                                                          subst h
                                                          subst k
                                                          try dsimp only
                                                          all_goals first
                                                          | exact ⟨rfl, hP2, fun i hi => rfl⟩
                                                          | (exfalso; omega)
                                                      · replace k := zk_f mc207 k
                                                        have mc207n := mc207
                                                        (try simp only [i32_lt, i32_le, i32_e, z32_0, z32_1, z32N_1] at mc207n)
                                                        first
                                                        | (exfalso; omega)
                                                        | obtain ⟨_, k⟩ := zk_gd k
                                                          by_cases mc208 : (mod_holds x3.toNatClampNeg) = (-1 : Int32)
                                                          · replace k := zk_t mc208 k
                                                            have mc208n := mc208
                                                            (try simp only [i32_lt, i32_le, i32_e, z32_0, z32_1, z32N_1] at mc208n)
                                                            first
                                                            | (exfalso; omega)
                                                            | have h := Option.some.inj h
                                                              replace k := Option.some.inj k
                                                              subst h
                                                              subst k
                                                              try dsimp only
                                                              all_goals first
                                                              | exact ⟨rfl, hP2, fun i hi => rfl⟩
                                                              | (exfalso; omega)
                                                          · replace k := zk_f mc208 k
                                                            have mc208n := mc208
                                                            (try simp only [i32_lt, i32_le, i32_e, z32_0, z32_1, z32N_1] at mc208n)
                                                            first
                                                            | (exfalso; omega)
                                                            | obtain ⟨_, k⟩ := zk_gd k
                                                              by_cases mc209 : 0 ≤ (mod_holds x1.toNatClampNeg)
                                                              · replace k := zk_t mc209 k
                                                                have mc209n := mc209
                                                                (try simp only [i32_lt, i32_le, i32_e, z32_0, z32_1] at mc209n)
                                                                first
                                                                | (exfalso; omega)
                                                                | have h := Option.some.inj h
                                                                  replace k := Option.some.inj k
                                                                  subst h
                                                                  subst k
                                                                  try dsimp only
                                                                  all_goals first
                                                                  | exact ⟨rfl, hP2, fun i hi => rfl⟩
                                                                  | (exfalso; omega)
                                                              · replace k := zk_f mc209 k
                                                                have mc209n := mc209
                                                                (try simp only [i32_lt, i32_le, i32_e, z32_0, z32_1] at mc209n)
                                                                first
                                                                | (exfalso; omega)
                                                                | obtain ⟨_, k⟩ := zk_gd k
                                                                  replace k := zk_gd k
                                                                  obtain ⟨_, k⟩ := k
                                                                  by_cases mc210 : (mod_holds x1.toNatClampNeg) = (mod_holds x3.toNatClampNeg)
                                                                  · replace k := zk_t mc210 k
                                                                    have mc210n := mc210
                                                                    (try simp only [i32_lt, i32_le, i32_e, z32_0, z32_1] at mc210n)
                                                                    first
                                                                    | (exfalso; omega)
                                                                    | have k := zk_f cc29 k
                                                                      replace k := zk_f cc28 k
                                                                      replace k := zk_t cc35 k
                                                                      replace h := Option.some.inj h
                                                                      replace k := Option.some.inj k
                                                                      subst h
                                                                      subst k
                                                                      try dsimp only
                                                                      all_goals first
                                                                      | exact ⟨rfl, hP2, fun i hi => rfl⟩
                                                                      | (exfalso; omega)
                                                                  · replace k := zk_f mc210 k
                                                                    have mc210n := mc210
                                                                    (try simp only [i32_lt, i32_le, i32_e, z32_0, z32_1] at mc210n)
                                                                    first
                                                                    | (exfalso; omega)
                                                                    | have h := Option.some.inj h
                                                                      replace k := Option.some.inj k
                                                                      subst h
                                                                      subst k
                                                                      try dsimp only
                                                                      all_goals first
                                                                      | exact ⟨rfl, hP2, fun i hi => rfl⟩
                                                                      | (exfalso; omega)
                                                  · have ch34 := zk_f cc35 ch34
                                                    have cc35n := cc35
                                                    (try simp only [i32_lt, i32_le, i32_e, z32_0, z32_1] at cc35n)
                                                    first
                                                    | (exfalso; omega)
                                                    | have ch34 := zk_f cc29 ch34
                                                      by_cases cc36 : pm_size < x4
                                                      · have ch34 := zk_t cc36 ch34
                                                        have cc36n := cc36
                                                        (try simp only [i32_lt, i32_le, i32_e, z32_0, z32_1] at cc36n)
                                                        first
                                                        | (exfalso; omega)
                                                        | simp only [Option.some.injEq, Prod.mk.injEq] at ch34
                                                          obtain ⟨rfl, _⟩ := ch34
                                                          replace h := zk_t rfl h
                                                          have hjj1 := hj ⟨cc4, cc10⟩
                                                          subst hjj1
                                                          obtain ⟨⟨hs11, hs21, hs31⟩, he1, hd1⟩ := id hP
                                                          have hx5 : 0 ≤ x1.toInt ∧ x1.toInt ≤ 5 := by
                                                            have q1 := cc4
                                                            have q2 := cc10
                                                            rw [i32_lt, z32_0] at q1
                                                            rw [i32_le, z32L_6] at q2
                                                            omega
                                                          have hsz1 : (mod_size x1.toNatClampNeg).toInt = pl_size.toInt := by rw [hs11]
                                                          have hq1 : 0 ≤ x5.toInt → (mod_size x1.toNatClampNeg - x5).toInt = (mod_size x1.toNatClampNeg).toInt - x5.toInt := fun q => i32_dd (by omega) q
                                                          have hjj2 := hjt ⟨cc19, cc20⟩
                                                          subst hjj2
                                                          obtain ⟨⟨hs12, hs22, hs32⟩, he2, hd2⟩ := id hP2
                                                          have hx7 : 0 ≤ x3.toInt ∧ x3.toInt ≤ 5 := by
                                                            have q1 := cc19
                                                            have q2 := cc20
                                                            rw [i32_lt, z32_0] at q1
                                                            rw [i32_le, z32L_6] at q2
                                                            omega
                                                          have hsz2 : (mod_size x3.toNatClampNeg).toInt = pm_size.toInt := by rw [hs12]
                                                          have hq2 : 0 ≤ x5.toInt → (mod_size x3.toNatClampNeg - x5).toInt = (mod_size x3.toNatClampNeg).toInt - x5.toInt := fun q => i32_dd (by omega) q
                                                          unfold B_X12_shift_0 at k
                                                          replace k := zk_o2 k
                                                          obtain ⟨mv211, mv212, mh213, k⟩ := k
                                                          unfold f_X12_isShelf at mh213
                                                          unfold B_X12_isShelf_0 at mh213
                                                          obtain ⟨mv214, mv215, mh216, mh213⟩ := zk_o2 mh213
                                                          unfold f_X12_in at mh216
                                                          unfold B_X12_in_0 at mh216
                                                          have mh216 := zk_f cc4 mh216
                                                          have mh216 := zk_f (by (try simp only [i32_lt, i32_le, i32_e, z32_0, z32_1, z32L_5]); omega) mh216
                                                          simp only [Option.some.injEq, Prod.mk.injEq] at mh216
                                                          obtain ⟨rfl, _⟩ := mh216
                                                          obtain ⟨_, mh213⟩ := zk_gd mh213
                                                          simp only [Option.some.injEq, Prod.mk.injEq] at mh213
                                                          obtain ⟨rfl, _⟩ := mh213
                                                          replace k := zk_f (by decide) k
                                                          replace k := zk_o2 k
                                                          obtain ⟨mv217, mv218, mh219, k⟩ := k
                                                          unfold f_X12_isShelf at mh219
                                                          unfold B_X12_isShelf_0 at mh219
                                                          obtain ⟨mv220, mv221, mh222, mh219⟩ := zk_o2 mh219
                                                          unfold f_X12_in at mh222
                                                          unfold B_X12_in_0 at mh222
                                                          have mh222 := zk_f cc19 mh222
                                                          have mh222 := zk_f (by (try simp only [i32_lt, i32_le, i32_e, z32_0, z32_1, z32L_5]); omega) mh222
                                                          simp only [Option.some.injEq, Prod.mk.injEq] at mh222
                                                          obtain ⟨rfl, _⟩ := mh222
                                                          obtain ⟨_, mh219⟩ := zk_gd mh219
                                                          simp only [Option.some.injEq, Prod.mk.injEq] at mh219
                                                          obtain ⟨rfl, _⟩ := mh219
                                                          replace k := zk_f (by decide) k
                                                          replace k := zk_gd k
                                                          obtain ⟨_, k⟩ := k
                                                          by_cases mc223 : (mod_holds x1.toNatClampNeg) = (-1 : Int32)
                                                          · replace k := zk_t mc223 k
                                                            have mc223n := mc223
                                                            (try simp only [i32_lt, i32_le, i32_e, z32_0, z32_1, z32N_1] at mc223n)
                                                            first
                                                            | (exfalso; omega)
                                                            | have h := Option.some.inj h
                                                              replace k := Option.some.inj k
                                                              subst h
                                                              subst k
                                                              try dsimp only
                                                              all_goals first
                                                              | exact ⟨rfl, hP2, fun i hi => rfl⟩
                                                              | (exfalso; omega)
                                                          · replace k := zk_f mc223 k
                                                            have mc223n := mc223
                                                            (try simp only [i32_lt, i32_le, i32_e, z32_0, z32_1, z32N_1] at mc223n)
                                                            first
                                                            | (exfalso; omega)
                                                            | obtain ⟨_, k⟩ := zk_gd k
                                                              by_cases mc224 : (mod_holds x3.toNatClampNeg) = (-1 : Int32)
                                                              · replace k := zk_t mc224 k
                                                                have mc224n := mc224
                                                                (try simp only [i32_lt, i32_le, i32_e, z32_0, z32_1, z32N_1] at mc224n)
                                                                first
                                                                | (exfalso; omega)
                                                                | have h := Option.some.inj h
                                                                  replace k := Option.some.inj k
                                                                  subst h
                                                                  subst k
                                                                  try dsimp only
                                                                  all_goals first
                                                                  | exact ⟨rfl, hP2, fun i hi => rfl⟩
                                                                  | (exfalso; omega)
                                                              · replace k := zk_f mc224 k
                                                                have mc224n := mc224
                                                                (try simp only [i32_lt, i32_le, i32_e, z32_0, z32_1, z32N_1] at mc224n)
                                                                first
                                                                | (exfalso; omega)
                                                                | obtain ⟨_, k⟩ := zk_gd k
                                                                  by_cases mc225 : 0 ≤ (mod_holds x1.toNatClampNeg)
                                                                  · replace k := zk_t mc225 k
                                                                    have mc225n := mc225
                                                                    (try simp only [i32_lt, i32_le, i32_e, z32_0, z32_1] at mc225n)
                                                                    first
                                                                    | (exfalso; omega)
                                                                    | have h := Option.some.inj h
                                                                      replace k := Option.some.inj k
                                                                      subst h
                                                                      subst k
                                                                      try dsimp only
                                                                      all_goals first
                                                                      | exact ⟨rfl, hP2, fun i hi => rfl⟩
                                                                      | (exfalso; omega)
                                                                  · replace k := zk_f mc225 k
                                                                    have mc225n := mc225
                                                                    (try simp only [i32_lt, i32_le, i32_e, z32_0, z32_1] at mc225n)
                                                                    first
                                                                    | (exfalso; omega)
                                                                    | obtain ⟨_, k⟩ := zk_gd k
                                                                      replace k := zk_gd k
                                                                      obtain ⟨_, k⟩ := k
                                                                      by_cases mc226 : (mod_holds x1.toNatClampNeg) = (mod_holds x3.toNatClampNeg)
                                                                      · replace k := zk_t mc226 k
                                                                        have mc226n := mc226
                                                                        (try simp only [i32_lt, i32_le, i32_e, z32_0, z32_1] at mc226n)
                                                                        first
                                                                        | (exfalso; omega)
                                                                        | have k := zk_f cc29 k
                                                                          replace k := zk_f cc28 k
                                                                          replace k := zk_f cc35 k
                                                                          replace k := zk_gd k
                                                                          obtain ⟨_, k⟩ := k
                                                                          by_cases mc227 : ((mod_size x1.toNatClampNeg) - x5) < x2
                                                                          · replace k := zk_t mc227 k
                                                                            have mc227n := mc227
                                                                            (try simp only [i32_lt, i32_le, i32_e, z32_0, z32_1] at mc227n)
                                                                            first
                                                                            | (exfalso; omega)
                                                                            | have h := Option.some.inj h
                                                                              replace k := Option.some.inj k
                                                                              subst h
                                                                              subst k
                                                                              try dsimp only
                                                                              all_goals first
                                                                              | exact ⟨rfl, hP2, fun i hi => rfl⟩
                                                                              | (exfalso; omega)
                                                                          · replace k := zk_f mc227 k
                                                                            have mc227n := mc227
                                                                            (try simp only [i32_lt, i32_le, i32_e, z32_0, z32_1] at mc227n)
                                                                            first
                                                                            | (exfalso; omega)
                                                                            | obtain ⟨_, k⟩ := zk_gd k
                                                                              by_cases mc228 : x4 ≤ ((mod_size x3.toNatClampNeg) - x5)
                                                                              · replace k := zk_t mc228 k
                                                                                have mc228n := mc228
                                                                                (try simp only [i32_lt, i32_le, i32_e, z32_0, z32_1] at mc228n)
                                                                                first
                                                                                | (exfalso; omega)
                                                                                | have h := Option.some.inj h
                                                                                  subst h
                                                                                  exfalso
                                                                                  omega
                                                                              · replace k := zk_f mc228 k
                                                                                have mc228n := mc228
                                                                                (try simp only [i32_lt, i32_le, i32_e, z32_0, z32_1] at mc228n)
                                                                                first
                                                                                | (exfalso; omega)
                                                                                | have h := Option.some.inj h
                                                                                  replace k := Option.some.inj k
                                                                                  subst h
                                                                                  subst k
                                                                                  try dsimp only
                                                                                  all_goals first
                                                                                  | exact ⟨rfl, hP2, fun i hi => rfl⟩
                                                                                  | (exfalso; omega)
                                                                      · replace k := zk_f mc226 k
                                                                        have mc226n := mc226
                                                                        (try simp only [i32_lt, i32_le, i32_e, z32_0, z32_1] at mc226n)
                                                                        first
                                                                        | (exfalso; omega)
                                                                        | have h := Option.some.inj h
                                                                          replace k := Option.some.inj k
                                                                          subst h
                                                                          subst k
                                                                          try dsimp only
                                                                          all_goals first
                                                                          | exact ⟨rfl, hP2, fun i hi => rfl⟩
                                                                          | (exfalso; omega)
                                                      · have ch34 := zk_f cc36 ch34
                                                        have cc36n := cc36
                                                        (try simp only [i32_lt, i32_le, i32_e, z32_0, z32_1] at cc36n)
                                                        first
                                                        | (exfalso; omega)
                                                        | by_cases cc37 : (pm_size - x4) < x5
                                                          · have ch34 := zk_t cc37 ch34
                                                            have cc37n := cc37
                                                            (try simp only [i32_lt, i32_le, i32_e, z32_0, z32_1] at cc37n)
                                                            first
                                                            | (exfalso; omega)
                                                            | simp only [Option.some.injEq, Prod.mk.injEq] at ch34
                                                              obtain ⟨rfl, _⟩ := ch34
                                                              replace h := zk_t rfl h
                                                              have hjj1 := hj ⟨cc4, cc10⟩
                                                              subst hjj1
                                                              obtain ⟨⟨hs11, hs21, hs31⟩, he1, hd1⟩ := id hP
                                                              have hx5 : 0 ≤ x1.toInt ∧ x1.toInt ≤ 5 := by
                                                                have q1 := cc4
                                                                have q2 := cc10
                                                                rw [i32_lt, z32_0] at q1
                                                                rw [i32_le, z32L_6] at q2
                                                                omega
                                                              have hsz1 : (mod_size x1.toNatClampNeg).toInt = pl_size.toInt := by rw [hs11]
                                                              have hq1 : 0 ≤ x5.toInt → (mod_size x1.toNatClampNeg - x5).toInt = (mod_size x1.toNatClampNeg).toInt - x5.toInt := fun q => i32_dd (by omega) q
                                                              have hjj2 := hjt ⟨cc19, cc20⟩
                                                              subst hjj2
                                                              obtain ⟨⟨hs12, hs22, hs32⟩, he2, hd2⟩ := id hP2
                                                              have hx7 : 0 ≤ x3.toInt ∧ x3.toInt ≤ 5 := by
                                                                have q1 := cc19
                                                                have q2 := cc20
                                                                rw [i32_lt, z32_0] at q1
                                                                rw [i32_le, z32L_6] at q2
                                                                omega
                                                              have hsz2 : (mod_size x3.toNatClampNeg).toInt = pm_size.toInt := by rw [hs12]
                                                              have hq2 : 0 ≤ x5.toInt → (mod_size x3.toNatClampNeg - x5).toInt = (mod_size x3.toNatClampNeg).toInt - x5.toInt := fun q => i32_dd (by omega) q
                                                              unfold B_X12_shift_0 at k
                                                              replace k := zk_o2 k
                                                              obtain ⟨mv229, mv230, mh231, k⟩ := k
                                                              unfold f_X12_isShelf at mh231
                                                              unfold B_X12_isShelf_0 at mh231
                                                              obtain ⟨mv232, mv233, mh234, mh231⟩ := zk_o2 mh231
                                                              unfold f_X12_in at mh234
                                                              unfold B_X12_in_0 at mh234
                                                              have mh234 := zk_f cc4 mh234
                                                              have mh234 := zk_f (by (try simp only [i32_lt, i32_le, i32_e, z32_0, z32_1, z32L_5]); omega) mh234
                                                              simp only [Option.some.injEq, Prod.mk.injEq] at mh234
                                                              obtain ⟨rfl, _⟩ := mh234
                                                              obtain ⟨_, mh231⟩ := zk_gd mh231
                                                              simp only [Option.some.injEq, Prod.mk.injEq] at mh231
                                                              obtain ⟨rfl, _⟩ := mh231
                                                              replace k := zk_f (by decide) k
                                                              replace k := zk_o2 k
                                                              obtain ⟨mv235, mv236, mh237, k⟩ := k
                                                              unfold f_X12_isShelf at mh237
                                                              unfold B_X12_isShelf_0 at mh237
                                                              obtain ⟨mv238, mv239, mh240, mh237⟩ := zk_o2 mh237
                                                              unfold f_X12_in at mh240
                                                              unfold B_X12_in_0 at mh240
                                                              have mh240 := zk_f cc19 mh240
                                                              have mh240 := zk_f (by (try simp only [i32_lt, i32_le, i32_e, z32_0, z32_1, z32L_5]); omega) mh240
                                                              simp only [Option.some.injEq, Prod.mk.injEq] at mh240
                                                              obtain ⟨rfl, _⟩ := mh240
                                                              obtain ⟨_, mh237⟩ := zk_gd mh237
                                                              simp only [Option.some.injEq, Prod.mk.injEq] at mh237
                                                              obtain ⟨rfl, _⟩ := mh237
                                                              replace k := zk_f (by decide) k
                                                              replace k := zk_gd k
                                                              obtain ⟨_, k⟩ := k
                                                              by_cases mc241 : (mod_holds x1.toNatClampNeg) = (-1 : Int32)
                                                              · replace k := zk_t mc241 k
                                                                have mc241n := mc241
                                                                (try simp only [i32_lt, i32_le, i32_e, z32_0, z32_1, z32N_1] at mc241n)
                                                                first
                                                                | (exfalso; omega)
                                                                | have h := Option.some.inj h
                                                                  replace k := Option.some.inj k
                                                                  subst h
                                                                  subst k
                                                                  try dsimp only
                                                                  all_goals first
                                                                  | exact ⟨rfl, hP2, fun i hi => rfl⟩
                                                                  | (exfalso; omega)
                                                              · replace k := zk_f mc241 k
                                                                have mc241n := mc241
                                                                (try simp only [i32_lt, i32_le, i32_e, z32_0, z32_1, z32N_1] at mc241n)
                                                                first
                                                                | (exfalso; omega)
                                                                | obtain ⟨_, k⟩ := zk_gd k
                                                                  by_cases mc242 : (mod_holds x3.toNatClampNeg) = (-1 : Int32)
                                                                  · replace k := zk_t mc242 k
                                                                    have mc242n := mc242
                                                                    (try simp only [i32_lt, i32_le, i32_e, z32_0, z32_1, z32N_1] at mc242n)
                                                                    first
                                                                    | (exfalso; omega)
                                                                    | have h := Option.some.inj h
                                                                      replace k := Option.some.inj k
                                                                      subst h
                                                                      subst k
                                                                      try dsimp only
                                                                      all_goals first
                                                                      | exact ⟨rfl, hP2, fun i hi => rfl⟩
                                                                      | (exfalso; omega)
                                                                  · replace k := zk_f mc242 k
                                                                    have mc242n := mc242
                                                                    (try simp only [i32_lt, i32_le, i32_e, z32_0, z32_1, z32N_1] at mc242n)
                                                                    first
                                                                    | (exfalso; omega)
                                                                    | obtain ⟨_, k⟩ := zk_gd k
                                                                      by_cases mc243 : 0 ≤ (mod_holds x1.toNatClampNeg)
                                                                      · replace k := zk_t mc243 k
                                                                        have mc243n := mc243
                                                                        (try simp only [i32_lt, i32_le, i32_e, z32_0, z32_1] at mc243n)
                                                                        first
                                                                        | (exfalso; omega)
                                                                        | have h := Option.some.inj h
                                                                          replace k := Option.some.inj k
                                                                          subst h
                                                                          subst k
                                                                          try dsimp only
                                                                          all_goals first
                                                                          | exact ⟨rfl, hP2, fun i hi => rfl⟩
                                                                          | (exfalso; omega)
                                                                      · replace k := zk_f mc243 k
                                                                        have mc243n := mc243
                                                                        (try simp only [i32_lt, i32_le, i32_e, z32_0, z32_1] at mc243n)
                                                                        first
                                                                        | (exfalso; omega)
                                                                        | obtain ⟨_, k⟩ := zk_gd k
                                                                          replace k := zk_gd k
                                                                          obtain ⟨_, k⟩ := k
                                                                          by_cases mc244 : (mod_holds x1.toNatClampNeg) = (mod_holds x3.toNatClampNeg)
                                                                          · replace k := zk_t mc244 k
                                                                            have mc244n := mc244
                                                                            (try simp only [i32_lt, i32_le, i32_e, z32_0, z32_1] at mc244n)
                                                                            first
                                                                            | (exfalso; omega)
                                                                            | have k := zk_f cc29 k
                                                                              replace k := zk_f cc28 k
                                                                              replace k := zk_f cc35 k
                                                                              replace k := zk_gd k
                                                                              obtain ⟨_, k⟩ := k
                                                                              by_cases mc245 : ((mod_size x1.toNatClampNeg) - x5) < x2
                                                                              · replace k := zk_t mc245 k
                                                                                have mc245n := mc245
                                                                                (try simp only [i32_lt, i32_le, i32_e, z32_0, z32_1] at mc245n)
                                                                                first
                                                                                | (exfalso; omega)
                                                                                | have h := Option.some.inj h
                                                                                  replace k := Option.some.inj k
                                                                                  subst h
                                                                                  subst k
                                                                                  try dsimp only
                                                                                  all_goals first
                                                                                  | exact ⟨rfl, hP2, fun i hi => rfl⟩
                                                                                  | (exfalso; omega)
                                                                              · replace k := zk_f mc245 k
                                                                                have mc245n := mc245
                                                                                (try simp only [i32_lt, i32_le, i32_e, z32_0, z32_1] at mc245n)
                                                                                first
                                                                                | (exfalso; omega)
                                                                                | obtain ⟨_, k⟩ := zk_gd k
                                                                                  by_cases mc246 : x4 ≤ ((mod_size x3.toNatClampNeg) - x5)
                                                                                  · replace k := zk_t mc246 k
                                                                                    have mc246n := mc246
                                                                                    (try simp only [i32_lt, i32_le, i32_e, z32_0, z32_1] at mc246n)
                                                                                    first
                                                                                    | (exfalso; omega)
                                                                                    | have h := Option.some.inj h
                                                                                      subst h
                                                                                      exfalso
                                                                                      omega
                                                                                  · replace k := zk_f mc246 k
                                                                                    have mc246n := mc246
                                                                                    (try simp only [i32_lt, i32_le, i32_e, z32_0, z32_1] at mc246n)
                                                                                    first
                                                                                    | (exfalso; omega)
                                                                                    | have h := Option.some.inj h
                                                                                      replace k := Option.some.inj k
                                                                                      subst h
                                                                                      subst k
                                                                                      try dsimp only
                                                                                      all_goals first
                                                                                      | exact ⟨rfl, hP2, fun i hi => rfl⟩
                                                                                      | (exfalso; omega)
                                                                          · replace k := zk_f mc244 k
                                                                            have mc244n := mc244
                                                                            (try simp only [i32_lt, i32_le, i32_e, z32_0, z32_1] at mc244n)
                                                                            first
                                                                            | (exfalso; omega)
                                                                            | have h := Option.some.inj h
                                                                              replace k := Option.some.inj k
                                                                              subst h
                                                                              subst k
                                                                              try dsimp only
                                                                              all_goals first
                                                                              | exact ⟨rfl, hP2, fun i hi => rfl⟩
                                                                              | (exfalso; omega)
                                                          · have ch34 := zk_f cc37 ch34
                                                            have cc37n := cc37
                                                            (try simp only [i32_lt, i32_le, i32_e, z32_0, z32_1] at cc37n)
                                                            first
                                                            | (exfalso; omega)
                                                            | simp only [Option.some.injEq, Prod.mk.injEq] at ch34
                                                              obtain ⟨rfl, _⟩ := ch34
                                                              replace h := zk_f (by decide) h
                                                              replace h := zk_gd h
                                                              obtain ⟨_, h⟩ := h
                                                              replace h := zk_lt h
                                                              obtain ⟨cv38, ce39, h⟩ := h
                                                              subst ce39
                                                              have hjj1 := hj ⟨cc4, cc10⟩
                                                              subst hjj1
                                                              obtain ⟨⟨hs11, hs21, hs31⟩, he1, hd1⟩ := id hP
                                                              have hx5 : 0 ≤ x1.toInt ∧ x1.toInt ≤ 5 := by
                                                                have q1 := cc4
                                                                have q2 := cc10
                                                                rw [i32_lt, z32_0] at q1
                                                                rw [i32_le, z32L_6] at q2
                                                                omega
                                                              have hsz1 : (mod_size x1.toNatClampNeg).toInt = pl_size.toInt := by rw [hs11]
                                                              have hq1 : 0 ≤ x5.toInt → (mod_size x1.toNatClampNeg - x5).toInt = (mod_size x1.toNatClampNeg).toInt - x5.toInt := fun q => i32_dd (by omega) q
                                                              have hjj2 := hjt ⟨cc19, cc20⟩
                                                              subst hjj2
                                                              obtain ⟨⟨hs12, hs22, hs32⟩, he2, hd2⟩ := id hP2
                                                              have hx7 : 0 ≤ x3.toInt ∧ x3.toInt ≤ 5 := by
                                                                have q1 := cc19
                                                                have q2 := cc20
                                                                rw [i32_lt, z32_0] at q1
                                                                rw [i32_le, z32L_6] at q2
                                                                omega
                                                              have hsz2 : (mod_size x3.toNatClampNeg).toInt = pm_size.toInt := by rw [hs12]
                                                              have hq2 : 0 ≤ x5.toInt → (mod_size x3.toNatClampNeg - x5).toInt = (mod_size x3.toNatClampNeg).toInt - x5.toInt := fun q => i32_dd (by omega) q
                                                              unfold B_X12_shift_0 at k
                                                              replace k := zk_o2 k
                                                              obtain ⟨mv247, mv248, mh249, k⟩ := k
                                                              unfold f_X12_isShelf at mh249
                                                              unfold B_X12_isShelf_0 at mh249
                                                              obtain ⟨mv250, mv251, mh252, mh249⟩ := zk_o2 mh249
                                                              unfold f_X12_in at mh252
                                                              unfold B_X12_in_0 at mh252
                                                              have mh252 := zk_f cc4 mh252
                                                              have mh252 := zk_f (by (try simp only [i32_lt, i32_le, i32_e, z32_0, z32_1, z32L_5]); omega) mh252
                                                              simp only [Option.some.injEq, Prod.mk.injEq] at mh252
                                                              obtain ⟨rfl, _⟩ := mh252
                                                              obtain ⟨_, mh249⟩ := zk_gd mh249
                                                              simp only [Option.some.injEq, Prod.mk.injEq] at mh249
                                                              obtain ⟨rfl, _⟩ := mh249
                                                              replace k := zk_f (by decide) k
                                                              replace k := zk_o2 k
                                                              obtain ⟨mv253, mv254, mh255, k⟩ := k
                                                              unfold f_X12_isShelf at mh255
                                                              unfold B_X12_isShelf_0 at mh255
                                                              obtain ⟨mv256, mv257, mh258, mh255⟩ := zk_o2 mh255
                                                              unfold f_X12_in at mh258
                                                              unfold B_X12_in_0 at mh258
                                                              have mh258 := zk_f cc19 mh258
                                                              have mh258 := zk_f (by (try simp only [i32_lt, i32_le, i32_e, z32_0, z32_1, z32L_5]); omega) mh258
                                                              simp only [Option.some.injEq, Prod.mk.injEq] at mh258
                                                              obtain ⟨rfl, _⟩ := mh258
                                                              obtain ⟨_, mh255⟩ := zk_gd mh255
                                                              simp only [Option.some.injEq, Prod.mk.injEq] at mh255
                                                              obtain ⟨rfl, _⟩ := mh255
                                                              replace k := zk_f (by decide) k
                                                              replace k := zk_gd k
                                                              obtain ⟨_, k⟩ := k
                                                              by_cases mc259 : (mod_holds x1.toNatClampNeg) = (-1 : Int32)
                                                              · replace k := zk_t mc259 k
                                                                have mc259n := mc259
                                                                (try simp only [i32_lt, i32_le, i32_e, z32_0, z32_1, z32N_1] at mc259n)
                                                                first
                                                                | (exfalso; omega)
                                                                | have h := Option.some.inj h
                                                                  replace k := Option.some.inj k
                                                                  subst h
                                                                  subst k
                                                                  try dsimp only
                                                                  all_goals first
                                                                  | exact ⟨rfl, hP2, fun i hi => rfl⟩
                                                                  | (exfalso; omega)
                                                              · replace k := zk_f mc259 k
                                                                have mc259n := mc259
                                                                (try simp only [i32_lt, i32_le, i32_e, z32_0, z32_1, z32N_1] at mc259n)
                                                                first
                                                                | (exfalso; omega)
                                                                | obtain ⟨_, k⟩ := zk_gd k
                                                                  by_cases mc260 : (mod_holds x3.toNatClampNeg) = (-1 : Int32)
                                                                  · replace k := zk_t mc260 k
                                                                    have mc260n := mc260
                                                                    (try simp only [i32_lt, i32_le, i32_e, z32_0, z32_1, z32N_1] at mc260n)
                                                                    first
                                                                    | (exfalso; omega)
                                                                    | have h := Option.some.inj h
                                                                      replace k := Option.some.inj k
                                                                      subst h
                                                                      subst k
                                                                      try dsimp only
                                                                      all_goals first
                                                                      | exact ⟨rfl, hP2, fun i hi => rfl⟩
                                                                      | (exfalso; omega)
                                                                  · replace k := zk_f mc260 k
                                                                    have mc260n := mc260
                                                                    (try simp only [i32_lt, i32_le, i32_e, z32_0, z32_1, z32N_1] at mc260n)
                                                                    first
                                                                    | (exfalso; omega)
                                                                    | obtain ⟨_, k⟩ := zk_gd k
                                                                      by_cases mc261 : 0 ≤ (mod_holds x1.toNatClampNeg)
                                                                      · replace k := zk_t mc261 k
                                                                        have mc261n := mc261
                                                                        (try simp only [i32_lt, i32_le, i32_e, z32_0, z32_1] at mc261n)
                                                                        first
                                                                        | (exfalso; omega)
                                                                        | have h := Option.some.inj h
                                                                          replace k := Option.some.inj k
                                                                          subst h
                                                                          subst k
                                                                          try dsimp only
                                                                          all_goals first
                                                                          | exact ⟨rfl, hP2, fun i hi => rfl⟩
                                                                          | (exfalso; omega)
                                                                      · replace k := zk_f mc261 k
                                                                        have mc261n := mc261
                                                                        (try simp only [i32_lt, i32_le, i32_e, z32_0, z32_1] at mc261n)
                                                                        first
                                                                        | (exfalso; omega)
                                                                        | obtain ⟨_, k⟩ := zk_gd k
                                                                          replace k := zk_gd k
                                                                          obtain ⟨_, k⟩ := k
                                                                          by_cases mc262 : (mod_holds x1.toNatClampNeg) = (mod_holds x3.toNatClampNeg)
                                                                          · replace k := zk_t mc262 k
                                                                            have mc262n := mc262
                                                                            (try simp only [i32_lt, i32_le, i32_e, z32_0, z32_1] at mc262n)
                                                                            first
                                                                            | (exfalso; omega)
                                                                            | have k := zk_f cc29 k
                                                                              replace k := zk_f cc28 k
                                                                              replace k := zk_f cc35 k
                                                                              replace k := zk_gd k
                                                                              obtain ⟨_, k⟩ := k
                                                                              by_cases mc263 : ((mod_size x1.toNatClampNeg) - x5) < x2
                                                                              · replace k := zk_t mc263 k
                                                                                have mc263n := mc263
                                                                                (try simp only [i32_lt, i32_le, i32_e, z32_0, z32_1] at mc263n)
                                                                                first
                                                                                | (exfalso; omega)
                                                                                | have h := Option.some.inj h
                                                                                  replace k := Option.some.inj k
                                                                                  subst h
                                                                                  subst k
                                                                                  try dsimp only
                                                                                  all_goals first
                                                                                  | exact ⟨rfl, hP2, fun i hi => rfl⟩
                                                                                  | (exfalso; omega)
                                                                              · replace k := zk_f mc263 k
                                                                                have mc263n := mc263
                                                                                (try simp only [i32_lt, i32_le, i32_e, z32_0, z32_1] at mc263n)
                                                                                first
                                                                                | (exfalso; omega)
                                                                                | obtain ⟨_, k⟩ := zk_gd k
                                                                                  by_cases mc264 : x4 ≤ ((mod_size x3.toNatClampNeg) - x5)
                                                                                  · replace k := zk_t mc264 k
                                                                                    have mc264n := mc264
                                                                                    (try simp only [i32_lt, i32_le, i32_e, z32_0, z32_1] at mc264n)
                                                                                    first
                                                                                    | (exfalso; omega)
                                                                                    | have h := Option.some.inj h
                                                                                      subst h
                                                                                      obtain ⟨w1, w2⟩ := sh113 hx5 (by omega) hx7 (by omega) (by omega) _ _ _ _ Q (by decide) (by rw [z32_0]; omega) (fun k hk => absurd hk (by rw [z32_0]; exact Nat.not_lt_zero k)) k
                                                                                      have e1 : x1.toNatClampNeg = x1.toInt.toNat := rfl
                                                                                      have e2 : x2.toNatClampNeg = x2.toInt.toNat := rfl
                                                                                      have e3 : x3.toNatClampNeg = x3.toInt.toNat := rfl
                                                                                      have e4 : x4.toNatClampNeg = x4.toInt.toNat := rfl
                                                                                      have e5 : x5.toNatClampNeg = x5.toInt.toNat := rfl
                                                                                      refine ⟨w1.symm, ⟨⟨hs12, hs22, hs32⟩, fun k hk => ?_, hd2⟩, fun i hi => by rw [w2 i, if_neg (by omega)]⟩
                                                                                      rw [w2]
                                                                                      show _ = va_cpy pl_elements pm_elements x2.toNatClampNeg x4.toNatClampNeg x5.toNatClampNeg k
                                                                                      unfold va_cpy
                                                                                      by_cases ck : x4.toNatClampNeg ≤ k ∧ k < x4.toNatClampNeg + x5.toNatClampNeg
                                                                                      · rw [if_pos ck, if_pos (by omega), ← he1 _ (by omega)]
                                                                                        congr 1
                                                                                        omega
                                                                                      · rw [if_neg ck, if_neg (by omega)]
                                                                                        exact he2 k hk
                                                                                  · replace k := zk_f mc264 k
                                                                                    have mc264n := mc264
                                                                                    (try simp only [i32_lt, i32_le, i32_e, z32_0, z32_1] at mc264n)
                                                                                    first
                                                                                    | (exfalso; omega)
                                                                                    | have h := Option.some.inj h
                                                                                      replace k := Option.some.inj k
                                                                                      subst h
                                                                                      subst k
                                                                                      try dsimp only
                                                                                      all_goals first
                                                                                      | exact ⟨rfl, hP2, fun i hi => rfl⟩
                                                                                      | (exfalso; omega)
                                                                          · replace k := zk_f mc262 k
                                                                            have mc262n := mc262
                                                                            (try simp only [i32_lt, i32_le, i32_e, z32_0, z32_1] at mc262n)
                                                                            first
                                                                            | (exfalso; omega)
                                                                            | have h := Option.some.inj h
                                                                              replace k := Option.some.inj k
                                                                              subst h
                                                                              subst k
                                                                              try dsimp only
                                                                              all_goals first
                                                                              | exact ⟨rfl, hP2, fun i hi => rfl⟩
                                                                              | (exfalso; omega)
                              · replace h := zk_f cc24 h
                                have cc24n := cc24
                                (try simp only [i32_lt, i32_le, i32_e, z32_0, z32_1] at cc24n)
                                first
                                | (exfalso; omega)
                                | have hjj1 := hj ⟨cc4, cc10⟩
                                  subst hjj1
                                  obtain ⟨⟨hs11, hs21, hs31⟩, he1, hd1⟩ := id hP
                                  have hx5 : 0 ≤ x1.toInt ∧ x1.toInt ≤ 5 := by
                                    have q1 := cc4
                                    have q2 := cc10
                                    rw [i32_lt, z32_0] at q1
                                    rw [i32_le, z32L_6] at q2
                                    omega
                                  have hsz1 : (mod_size x1.toNatClampNeg).toInt = pl_size.toInt := by rw [hs11]
                                  have hq1 : 0 ≤ x5.toInt → (mod_size x1.toNatClampNeg - x5).toInt = (mod_size x1.toNatClampNeg).toInt - x5.toInt := fun q => i32_dd (by omega) q
                                  have hjj2 := hjt ⟨cc19, cc20⟩
                                  subst hjj2
                                  obtain ⟨⟨hs12, hs22, hs32⟩, he2, hd2⟩ := id hP2
                                  have hx7 : 0 ≤ x3.toInt ∧ x3.toInt ≤ 5 := by
                                    have q1 := cc19
                                    have q2 := cc20
                                    rw [i32_lt, z32_0] at q1
                                    rw [i32_le, z32L_6] at q2
                                    omega
                                  have hsz2 : (mod_size x3.toNatClampNeg).toInt = pm_size.toInt := by rw [hs12]
                                  have hq2 : 0 ≤ x5.toInt → (mod_size x3.toNatClampNeg - x5).toInt = (mod_size x3.toNatClampNeg).toInt - x5.toInt := fun q => i32_dd (by omega) q
                                  unfold B_X12_shift_0 at k
                                  replace k := zk_o2 k
                                  obtain ⟨mv265, mv266, mh267, k⟩ := k
                                  unfold f_X12_isShelf at mh267
                                  unfold B_X12_isShelf_0 at mh267
                                  obtain ⟨mv268, mv269, mh270, mh267⟩ := zk_o2 mh267
                                  unfold f_X12_in at mh270
                                  unfold B_X12_in_0 at mh270
                                  have mh270 := zk_f cc4 mh270
                                  have mh270 := zk_f (by (try simp only [i32_lt, i32_le, i32_e, z32_0, z32_1, z32L_5]); omega) mh270
                                  simp only [Option.some.injEq, Prod.mk.injEq] at mh270
                                  obtain ⟨rfl, _⟩ := mh270
                                  obtain ⟨_, mh267⟩ := zk_gd mh267
                                  simp only [Option.some.injEq, Prod.mk.injEq] at mh267
                                  obtain ⟨rfl, _⟩ := mh267
                                  replace k := zk_f (by decide) k
                                  replace k := zk_o2 k
                                  obtain ⟨mv271, mv272, mh273, k⟩ := k
                                  unfold f_X12_isShelf at mh273
                                  unfold B_X12_isShelf_0 at mh273
                                  obtain ⟨mv274, mv275, mh276, mh273⟩ := zk_o2 mh273
                                  unfold f_X12_in at mh276
                                  unfold B_X12_in_0 at mh276
                                  have mh276 := zk_f cc19 mh276
                                  have mh276 := zk_f (by (try simp only [i32_lt, i32_le, i32_e, z32_0, z32_1, z32L_5]); omega) mh276
                                  simp only [Option.some.injEq, Prod.mk.injEq] at mh276
                                  obtain ⟨rfl, _⟩ := mh276
                                  obtain ⟨_, mh273⟩ := zk_gd mh273
                                  simp only [Option.some.injEq, Prod.mk.injEq] at mh273
                                  obtain ⟨rfl, _⟩ := mh273
                                  replace k := zk_f (by decide) k
                                  replace k := zk_gd k
                                  obtain ⟨_, k⟩ := k
                                  by_cases mc277 : (mod_holds x1.toNatClampNeg) = (-1 : Int32)
                                  · replace k := zk_t mc277 k
                                    have mc277n := mc277
                                    (try simp only [i32_lt, i32_le, i32_e, z32_0, z32_1, z32N_1] at mc277n)
                                    first
                                    | (exfalso; omega)
                                    | have h := Option.some.inj h
                                      replace k := Option.some.inj k
                                      subst h
                                      subst k
                                      try dsimp only
                                      all_goals first
                                      | exact ⟨rfl, hP2, fun i hi => rfl⟩
                                      | (exfalso; omega)
                                  · replace k := zk_f mc277 k
                                    have mc277n := mc277
                                    (try simp only [i32_lt, i32_le, i32_e, z32_0, z32_1, z32N_1] at mc277n)
                                    first
                                    | (exfalso; omega)
                                    | obtain ⟨_, k⟩ := zk_gd k
                                      by_cases mc278 : (mod_holds x3.toNatClampNeg) = (-1 : Int32)
                                      · replace k := zk_t mc278 k
                                        have mc278n := mc278
                                        (try simp only [i32_lt, i32_le, i32_e, z32_0, z32_1, z32N_1] at mc278n)
                                        first
                                        | (exfalso; omega)
                                        | have h := Option.some.inj h
                                          replace k := Option.some.inj k
                                          subst h
                                          subst k
                                          try dsimp only
                                          all_goals first
                                          | exact ⟨rfl, hP2, fun i hi => rfl⟩
                                          | (exfalso; omega)
                                      · replace k := zk_f mc278 k
                                        have mc278n := mc278
                                        (try simp only [i32_lt, i32_le, i32_e, z32_0, z32_1, z32N_1] at mc278n)
                                        first
                                        | (exfalso; omega)
                                        | obtain ⟨_, k⟩ := zk_gd k
                                          by_cases mc279 : 0 ≤ (mod_holds x1.toNatClampNeg)
                                          · replace k := zk_t mc279 k
                                            have mc279n := mc279
                                            (try simp only [i32_lt, i32_le, i32_e, z32_0, z32_1] at mc279n)
                                            first
                                            | (exfalso; omega)
                                            | have h := Option.some.inj h
                                              replace k := Option.some.inj k
                                              subst h
                                              subst k
                                              try dsimp only
                                              all_goals first
                                              | exact ⟨rfl, hP2, fun i hi => rfl⟩
                                              | (exfalso; omega)
                                          · replace k := zk_f mc279 k
                                            have mc279n := mc279
                                            (try simp only [i32_lt, i32_le, i32_e, z32_0, z32_1] at mc279n)
                                            first
                                            | (exfalso; omega)
                                            | obtain ⟨_, k⟩ := zk_gd k
                                              replace k := zk_gd k
                                              obtain ⟨_, k⟩ := k
                                              by_cases mc280 : (mod_holds x1.toNatClampNeg) = (mod_holds x3.toNatClampNeg)
                                              · replace k := zk_t mc280 k
                                                have mc280n := mc280
                                                (try simp only [i32_lt, i32_le, i32_e, z32_0, z32_1] at mc280n)
                                                first
                                                | (exfalso; omega)
                                                | by_cases mc281 : x5 < 0
                                                  · replace k := zk_t mc281 k
                                                    have mc281n := mc281
                                                    (try simp only [i32_lt, i32_le, i32_e, z32_0, z32_1] at mc281n)
                                                    first
                                                    | (exfalso; omega)
                                                    | have h := Option.some.inj h
                                                      replace k := Option.some.inj k
                                                      subst h
                                                      subst k
                                                      try dsimp only
                                                      all_goals first
                                                      | exact ⟨rfl, hP2, fun i hi => rfl⟩
                                                      | (exfalso; omega)
                                                  · replace k := zk_f mc281 k
                                                    have mc281n := mc281
                                                    (try simp only [i32_lt, i32_le, i32_e, z32_0, z32_1] at mc281n)
                                                    first
                                                    | (exfalso; omega)
                                                    | by_cases mc282 : x2 < 0
                                                      · replace k := zk_t mc282 k
                                                        have mc282n := mc282
                                                        (try simp only [i32_lt, i32_le, i32_e, z32_0, z32_1] at mc282n)
                                                        first
                                                        | (exfalso; omega)
                                                        | have h := Option.some.inj h
                                                          replace k := Option.some.inj k
                                                          subst h
                                                          subst k
                                                          try dsimp only
                                                          all_goals first
                                                          | exact ⟨rfl, hP2, fun i hi => rfl⟩
                                                          | (exfalso; omega)
                                                      · replace k := zk_f mc282 k
                                                        have mc282n := mc282
                                                        (try simp only [i32_lt, i32_le, i32_e, z32_0, z32_1] at mc282n)
                                                        first
                                                        | (exfalso; omega)
                                                        | by_cases mc283 : x4 < 0
                                                          · replace k := zk_t mc283 k
                                                            have mc283n := mc283
                                                            (try simp only [i32_lt, i32_le, i32_e, z32_0, z32_1] at mc283n)
                                                            first
                                                            | (exfalso; omega)
                                                            | have h := Option.some.inj h
                                                              replace k := Option.some.inj k
                                                              subst h
                                                              subst k
                                                              try dsimp only
                                                              all_goals first
                                                              | exact ⟨rfl, hP2, fun i hi => rfl⟩
                                                              | (exfalso; omega)
                                                          · replace k := zk_f mc283 k
                                                            have mc283n := mc283
                                                            (try simp only [i32_lt, i32_le, i32_e, z32_0, z32_1] at mc283n)
                                                            first
                                                            | (exfalso; omega)
                                                            | obtain ⟨_, k⟩ := zk_gd k
                                                              by_cases mc284 : ((mod_size x1.toNatClampNeg) - x5) < x2
                                                              · replace k := zk_t mc284 k
                                                                have mc284n := mc284
                                                                (try simp only [i32_lt, i32_le, i32_e, z32_0, z32_1] at mc284n)
                                                                first
                                                                | (exfalso; omega)
                                                                | have h := Option.some.inj h
                                                                  replace k := Option.some.inj k
                                                                  subst h
                                                                  subst k
                                                                  try dsimp only
                                                                  all_goals first
                                                                  | exact ⟨rfl, hP2, fun i hi => rfl⟩
                                                                  | (exfalso; omega)
                                                              · replace k := zk_f mc284 k
                                                                have mc284n := mc284
                                                                (try simp only [i32_lt, i32_le, i32_e, z32_0, z32_1] at mc284n)
                                                                first
                                                                | (exfalso; omega)
                                                                | obtain ⟨_, k⟩ := zk_gd k
                                                                  by_cases mc285 : x4 ≤ ((mod_size x3.toNatClampNeg) - x5)
                                                                  · replace k := zk_t mc285 k
                                                                    have mc285n := mc285
                                                                    (try simp only [i32_lt, i32_le, i32_e, z32_0, z32_1] at mc285n)
                                                                    first
                                                                    | (exfalso; omega)
                                                                    | have h := Option.some.inj h
                                                                      subst h
                                                                      exfalso
                                                                      omega
                                                                  · replace k := zk_f mc285 k
                                                                    have mc285n := mc285
                                                                    (try simp only [i32_lt, i32_le, i32_e, z32_0, z32_1] at mc285n)
                                                                    first
                                                                    | (exfalso; omega)
                                                                    | have h := Option.some.inj h
                                                                      replace k := Option.some.inj k
                                                                      subst h
                                                                      subst k
                                                                      try dsimp only
                                                                      all_goals first
                                                                      | exact ⟨rfl, hP2, fun i hi => rfl⟩
                                                                      | (exfalso; omega)
                                              · replace k := zk_f mc280 k
                                                have mc280n := mc280
                                                (try simp only [i32_lt, i32_le, i32_e, z32_0, z32_1] at mc280n)
                                                first
                                                | (exfalso; omega)
                                                | have h := Option.some.inj h
                                                  replace k := Option.some.inj k
                                                  subst h
                                                  subst k
                                                  try dsimp only
                                                  all_goals first
                                                  | exact ⟨rfl, hP2, fun i hi => rfl⟩
                                                  | (exfalso; omega)

set_option maxHeartbeats 4000000 in
set_option maxRecDepth 20000 in
theorem pw_shA {pl_suit : Int32} {pl_holds : Int32} {pl_size : Int32} {pl_elements : Nat → Int64} {root_places : Nat → Option Nat} {h_pl : Nat} {x1 x2 x3 x4 x5 : Int32} {R : Int32 × (Nat → Int64)} (h : f_X11_shift h_pl x1 x2 x3 x4 x5 root_places pl_holds pl_suit pl_size pl_elements = some R) : f_X11_shiftB h_pl h_pl x1 x2 x3 x4 x5 root_places pl_holds pl_suit pl_size pl_elements pl_holds pl_suit pl_size pl_elements = some R := by
  exact h
set_option maxHeartbeats 4000000 in
set_option maxRecDepth 20000 in
theorem pw_shoe {mod_code : Int32} {court_shoeCount : Int32} {mod_claims : Int32} {ts : Int32} {at_ : Int32} {f : Int32} {court_suitCount : Int32} {mod_doneMany : Int32} {mod_undoneMany : Int32} {mod_open : Int32} {mod_laid : Int32} {mod_isBoth : Int32} {mod_wished : Int32} {mod_bestMany : Int32} {mod_bestRow : Int32} {mod_ringDigits : Int32} {mod_traces : Int32} {mod_wearer : Nat → Int32} {mod_wornFor : Nat → Int32} {mod_shoeSort : Nat → Int32} {mod_shoeDay : Nat → Int32} {court_claimCount : Int32} {court_shoePerson : Nat → Int32} {court_shoeOther : Nat → Int32} {court_shoeSort : Nat → Int32} {court_shoeDay : Nat → Int32} {x1 x2 x3 x4 : Int32} (hc : 0 ≤ court_shoeCount.toInt ∧ court_shoeCount.toInt ≤ 40) {R : Int32 × Int32 × (Nat → Int32) × (Nat → Int32) × (Nat → Int32) × (Nat → Int32)} {Q : Int32 × Int32 × (Nat → Int32) × (Nat → Int32) × (Nat → Int32) × (Nat → Int32)} (h : f_X11_shoe x1 x2 x3 x4 court_shoeCount court_claimCount court_suitCount court_shoePerson court_shoeOther court_shoeSort court_shoeDay = some R) (k : f_X12_shoe x1 x2 x3 x4 mod_code court_shoeCount mod_claims ts at_ f court_suitCount mod_doneMany mod_undoneMany mod_open mod_laid mod_isBoth mod_wished mod_bestMany mod_bestRow mod_ringDigits mod_traces mod_wearer mod_wornFor mod_shoeSort mod_shoeDay = some Q) : R.1 = Q.1 ∧ R.2.1 = Q.2.1 ∧ court_shoeCount.toInt ≤ R.2.1.toInt ∧ (court_shoePerson = mod_wearer → R.2.2.1 = Q.2.2.1) ∧ (court_shoeOther = mod_wornFor → R.2.2.2.1 = Q.2.2.2.1) ∧ (court_shoeSort = mod_shoeSort → R.2.2.2.2.1 = Q.2.2.2.2.1) ∧ (court_shoeDay = mod_shoeDay → R.2.2.2.2.2 = Q.2.2.2.2.2) ∧ 0 ≤ R.2.1.toInt ∧ R.2.1.toInt ≤ 40 := by
  have hs := i32_s (a := court_shoeCount) (by omega)
  unfold f_X11_shoe at h
  unfold f_X12_shoe at k
  unfold B_X11_shoe_0 at h
  replace h := zk_o2 h
  obtain ⟨cv1, cv2, ch3, h⟩ := h
  unfold f_X2_isShoe at ch3
  unfold B_X2_isShoe_0 at ch3
  by_cases cc4 : x1 < 0
  · have ch3 := zk_t cc4 ch3
    have cc4n := cc4
    (try simp only [i32_lt, i32_le, i32_e, z32_0, z32_1] at cc4n)
    first
    | (exfalso; omega)
    | simp only [Option.some.injEq, Prod.mk.injEq] at ch3
      obtain ⟨rfl, _⟩ := ch3
      replace h := zk_t rfl h
      unfold B_X12_shoe_0 at k
      replace k := zk_o2 k
      obtain ⟨mv1, mv2, mh3, k⟩ := k
      unfold f_X12_isPerson at mh3
      unfold B_X12_isPerson_0 at mh3
      obtain ⟨mv4, mv5, mh6, mh3⟩ := zk_o2 mh3
      unfold f_X12_in at mh6
      unfold B_X12_in_0 at mh6
      have mh6 := zk_t cc4 mh6
      simp only [Option.some.injEq, Prod.mk.injEq] at mh6
      obtain ⟨rfl, _⟩ := mh6
      obtain ⟨_, mh3⟩ := zk_gd mh3
      simp only [Option.some.injEq, Prod.mk.injEq] at mh3
      obtain ⟨rfl, _⟩ := mh3
      replace k := zk_t rfl k
      replace h := Option.some.inj h
      replace k := Option.some.inj k
      subst h
      subst k
      try dsimp only
      all_goals first
      | (exfalso; omega)
      | exact ⟨rfl, rfl, Int.le_refl _, fun e => e, fun e => e, fun e => e, fun e => e, hc⟩
      | exact ⟨rfl, rfl, by (try dsimp only); rw [hs]; omega, fun e => by rw [e], fun e => by rw [e], fun e => by rw [e], fun e => by rw [e], by (try dsimp only); rw [hs]; omega, by (try dsimp only); rw [hs]; omega⟩
  · have ch3 := zk_f cc4 ch3
    have cc4n := cc4
    (try simp only [i32_lt, i32_le, i32_e, z32_0, z32_1] at cc4n)
    first
    | (exfalso; omega)
    | by_cases cc5 : (20 : Int32) ≤ x1
      · have ch3 := zk_t cc5 ch3
        have cc5n := cc5
        (try simp only [i32_lt, i32_le, i32_e, z32_0, z32_1, z32L_20] at cc5n)
        first
        | (exfalso; omega)
        | simp only [Option.some.injEq, Prod.mk.injEq] at ch3
          obtain ⟨rfl, _⟩ := ch3
          replace h := zk_t rfl h
          unfold B_X12_shoe_0 at k
          replace k := zk_o2 k
          obtain ⟨mv7, mv8, mh9, k⟩ := k
          unfold f_X12_isPerson at mh9
          unfold B_X12_isPerson_0 at mh9
          obtain ⟨mv10, mv11, mh12, mh9⟩ := zk_o2 mh9
          unfold f_X12_in at mh12
          unfold B_X12_in_0 at mh12
          have mh12 := zk_f cc4 mh12
          have mh12 := zk_t (by (try simp only [i32_lt, i32_le, i32_e, z32_0, z32_1, z32L_19]); omega) mh12
          simp only [Option.some.injEq, Prod.mk.injEq] at mh12
          obtain ⟨rfl, _⟩ := mh12
          obtain ⟨_, mh9⟩ := zk_gd mh9
          simp only [Option.some.injEq, Prod.mk.injEq] at mh9
          obtain ⟨rfl, _⟩ := mh9
          replace k := zk_t rfl k
          replace h := Option.some.inj h
          replace k := Option.some.inj k
          subst h
          subst k
          try dsimp only
          all_goals first
          | (exfalso; omega)
          | exact ⟨rfl, rfl, Int.le_refl _, fun e => e, fun e => e, fun e => e, fun e => e, hc⟩
          | exact ⟨rfl, rfl, by (try dsimp only); rw [hs]; omega, fun e => by rw [e], fun e => by rw [e], fun e => by rw [e], fun e => by rw [e], by (try dsimp only); rw [hs]; omega, by (try dsimp only); rw [hs]; omega⟩
      · have ch3 := zk_f cc5 ch3
        have cc5n := cc5
        (try simp only [i32_lt, i32_le, i32_e, z32_0, z32_1, z32L_20] at cc5n)
        first
        | (exfalso; omega)
        | by_cases cc6 : x2 < 0
          · have ch3 := zk_t cc6 ch3
            have cc6n := cc6
            (try simp only [i32_lt, i32_le, i32_e, z32_0, z32_1] at cc6n)
            first
            | (exfalso; omega)
            | simp only [Option.some.injEq, Prod.mk.injEq] at ch3
              obtain ⟨rfl, _⟩ := ch3
              replace h := zk_t rfl h
              unfold B_X12_shoe_0 at k
              replace k := zk_o2 k
              obtain ⟨mv13, mv14, mh15, k⟩ := k
              unfold f_X12_isPerson at mh15
              unfold B_X12_isPerson_0 at mh15
              obtain ⟨mv16, mv17, mh18, mh15⟩ := zk_o2 mh15
              unfold f_X12_in at mh18
              unfold B_X12_in_0 at mh18
              have mh18 := zk_f cc4 mh18
              have mh18 := zk_f (by (try simp only [i32_lt, i32_le, i32_e, z32_0, z32_1, z32L_19]); omega) mh18
              simp only [Option.some.injEq, Prod.mk.injEq] at mh18
              obtain ⟨rfl, _⟩ := mh18
              obtain ⟨_, mh15⟩ := zk_gd mh15
              simp only [Option.some.injEq, Prod.mk.injEq] at mh15
              obtain ⟨rfl, _⟩ := mh15
              replace k := zk_f (by decide) k
              replace k := zk_o2 k
              obtain ⟨mv19, mv20, mh21, k⟩ := k
              unfold f_X12_isPerson at mh21
              unfold B_X12_isPerson_0 at mh21
              obtain ⟨mv22, mv23, mh24, mh21⟩ := zk_o2 mh21
              unfold f_X12_in at mh24
              unfold B_X12_in_0 at mh24
              have mh24 := zk_t cc6 mh24
              simp only [Option.some.injEq, Prod.mk.injEq] at mh24
              obtain ⟨rfl, _⟩ := mh24
              obtain ⟨_, mh21⟩ := zk_gd mh21
              simp only [Option.some.injEq, Prod.mk.injEq] at mh21
              obtain ⟨rfl, _⟩ := mh21
              replace k := zk_t rfl k
              replace h := Option.some.inj h
              replace k := Option.some.inj k
              subst h
              subst k
              try dsimp only
              all_goals first
              | (exfalso; omega)
              | exact ⟨rfl, rfl, Int.le_refl _, fun e => e, fun e => e, fun e => e, fun e => e, hc⟩
              | exact ⟨rfl, rfl, by (try dsimp only); rw [hs]; omega, fun e => by rw [e], fun e => by rw [e], fun e => by rw [e], fun e => by rw [e], by (try dsimp only); rw [hs]; omega, by (try dsimp only); rw [hs]; omega⟩
          · have ch3 := zk_f cc6 ch3
            have cc6n := cc6
            (try simp only [i32_lt, i32_le, i32_e, z32_0, z32_1] at cc6n)
            first
            | (exfalso; omega)
            | by_cases cc7 : (20 : Int32) ≤ x2
              · have ch3 := zk_t cc7 ch3
                have cc7n := cc7
                (try simp only [i32_lt, i32_le, i32_e, z32_0, z32_1, z32L_20] at cc7n)
                first
                | (exfalso; omega)
                | simp only [Option.some.injEq, Prod.mk.injEq] at ch3
                  obtain ⟨rfl, _⟩ := ch3
                  replace h := zk_t rfl h
                  unfold B_X12_shoe_0 at k
                  replace k := zk_o2 k
                  obtain ⟨mv25, mv26, mh27, k⟩ := k
                  unfold f_X12_isPerson at mh27
                  unfold B_X12_isPerson_0 at mh27
                  obtain ⟨mv28, mv29, mh30, mh27⟩ := zk_o2 mh27
                  unfold f_X12_in at mh30
                  unfold B_X12_in_0 at mh30
                  have mh30 := zk_f cc4 mh30
                  have mh30 := zk_f (by (try simp only [i32_lt, i32_le, i32_e, z32_0, z32_1, z32L_19]); omega) mh30
                  simp only [Option.some.injEq, Prod.mk.injEq] at mh30
                  obtain ⟨rfl, _⟩ := mh30
                  obtain ⟨_, mh27⟩ := zk_gd mh27
                  simp only [Option.some.injEq, Prod.mk.injEq] at mh27
                  obtain ⟨rfl, _⟩ := mh27
                  replace k := zk_f (by decide) k
                  replace k := zk_o2 k
                  obtain ⟨mv31, mv32, mh33, k⟩ := k
                  unfold f_X12_isPerson at mh33
                  unfold B_X12_isPerson_0 at mh33
                  obtain ⟨mv34, mv35, mh36, mh33⟩ := zk_o2 mh33
                  unfold f_X12_in at mh36
                  unfold B_X12_in_0 at mh36
                  have mh36 := zk_f cc6 mh36
                  have mh36 := zk_t (by (try simp only [i32_lt, i32_le, i32_e, z32_0, z32_1, z32L_19]); omega) mh36
                  simp only [Option.some.injEq, Prod.mk.injEq] at mh36
                  obtain ⟨rfl, _⟩ := mh36
                  obtain ⟨_, mh33⟩ := zk_gd mh33
                  simp only [Option.some.injEq, Prod.mk.injEq] at mh33
                  obtain ⟨rfl, _⟩ := mh33
                  replace k := zk_t rfl k
                  replace h := Option.some.inj h
                  replace k := Option.some.inj k
                  subst h
                  subst k
                  try dsimp only
                  all_goals first
                  | (exfalso; omega)
                  | exact ⟨rfl, rfl, Int.le_refl _, fun e => e, fun e => e, fun e => e, fun e => e, hc⟩
                  | exact ⟨rfl, rfl, by (try dsimp only); rw [hs]; omega, fun e => by rw [e], fun e => by rw [e], fun e => by rw [e], fun e => by rw [e], by (try dsimp only); rw [hs]; omega, by (try dsimp only); rw [hs]; omega⟩
              · have ch3 := zk_f cc7 ch3
                have cc7n := cc7
                (try simp only [i32_lt, i32_le, i32_e, z32_0, z32_1, z32L_20] at cc7n)
                first
                | (exfalso; omega)
                | by_cases cc8 : x1 = x2
                  · have ch3 := zk_t cc8 ch3
                    have cc8n := cc8
                    (try simp only [i32_lt, i32_le, i32_e, z32_0, z32_1] at cc8n)
                    first
                    | (exfalso; omega)
                    | simp only [Option.some.injEq, Prod.mk.injEq] at ch3
                      obtain ⟨rfl, _⟩ := ch3
                      replace h := zk_t rfl h
                      unfold B_X12_shoe_0 at k
                      replace k := zk_o2 k
                      obtain ⟨mv37, mv38, mh39, k⟩ := k
                      unfold f_X12_isPerson at mh39
                      unfold B_X12_isPerson_0 at mh39
                      obtain ⟨mv40, mv41, mh42, mh39⟩ := zk_o2 mh39
                      unfold f_X12_in at mh42
                      unfold B_X12_in_0 at mh42
                      have mh42 := zk_f cc4 mh42
                      have mh42 := zk_f (by (try simp only [i32_lt, i32_le, i32_e, z32_0, z32_1, z32L_19]); omega) mh42
                      simp only [Option.some.injEq, Prod.mk.injEq] at mh42
                      obtain ⟨rfl, _⟩ := mh42
                      obtain ⟨_, mh39⟩ := zk_gd mh39
                      simp only [Option.some.injEq, Prod.mk.injEq] at mh39
                      obtain ⟨rfl, _⟩ := mh39
                      replace k := zk_f (by decide) k
                      replace k := zk_o2 k
                      obtain ⟨mv43, mv44, mh45, k⟩ := k
                      unfold f_X12_isPerson at mh45
                      unfold B_X12_isPerson_0 at mh45
                      obtain ⟨mv46, mv47, mh48, mh45⟩ := zk_o2 mh45
                      unfold f_X12_in at mh48
                      unfold B_X12_in_0 at mh48
                      have mh48 := zk_f cc6 mh48
                      have mh48 := zk_f (by (try simp only [i32_lt, i32_le, i32_e, z32_0, z32_1, z32L_19]); omega) mh48
                      simp only [Option.some.injEq, Prod.mk.injEq] at mh48
                      obtain ⟨rfl, _⟩ := mh48
                      obtain ⟨_, mh45⟩ := zk_gd mh45
                      simp only [Option.some.injEq, Prod.mk.injEq] at mh45
                      obtain ⟨rfl, _⟩ := mh45
                      replace k := zk_f (by decide) k
                      replace k := zk_t cc8 k
                      replace h := Option.some.inj h
                      replace k := Option.some.inj k
                      subst h
                      subst k
                      try dsimp only
                      all_goals first
                      | (exfalso; omega)
                      | exact ⟨rfl, rfl, Int.le_refl _, fun e => e, fun e => e, fun e => e, fun e => e, hc⟩
                      | exact ⟨rfl, rfl, by (try dsimp only); rw [hs]; omega, fun e => by rw [e], fun e => by rw [e], fun e => by rw [e], fun e => by rw [e], by (try dsimp only); rw [hs]; omega, by (try dsimp only); rw [hs]; omega⟩
                  · have ch3 := zk_f cc8 ch3
                    have cc8n := cc8
                    (try simp only [i32_lt, i32_le, i32_e, z32_0, z32_1] at cc8n)
                    first
                    | (exfalso; omega)
                    | by_cases cc9 : x3 < (1 : Int32)
                      · have ch3 := zk_t cc9 ch3
                        have cc9n := cc9
                        (try simp only [i32_lt, i32_le, i32_e, z32_0, z32_1] at cc9n)
                        first
                        | (exfalso; omega)
                        | simp only [Option.some.injEq, Prod.mk.injEq] at ch3
                          obtain ⟨rfl, _⟩ := ch3
                          replace h := zk_t rfl h
                          unfold B_X12_shoe_0 at k
                          replace k := zk_o2 k
                          obtain ⟨mv49, mv50, mh51, k⟩ := k
                          unfold f_X12_isPerson at mh51
                          unfold B_X12_isPerson_0 at mh51
                          obtain ⟨mv52, mv53, mh54, mh51⟩ := zk_o2 mh51
                          unfold f_X12_in at mh54
                          unfold B_X12_in_0 at mh54
                          have mh54 := zk_f cc4 mh54
                          have mh54 := zk_f (by (try simp only [i32_lt, i32_le, i32_e, z32_0, z32_1, z32L_19]); omega) mh54
                          simp only [Option.some.injEq, Prod.mk.injEq] at mh54
                          obtain ⟨rfl, _⟩ := mh54
                          obtain ⟨_, mh51⟩ := zk_gd mh51
                          simp only [Option.some.injEq, Prod.mk.injEq] at mh51
                          obtain ⟨rfl, _⟩ := mh51
                          replace k := zk_f (by decide) k
                          replace k := zk_o2 k
                          obtain ⟨mv55, mv56, mh57, k⟩ := k
                          unfold f_X12_isPerson at mh57
                          unfold B_X12_isPerson_0 at mh57
                          obtain ⟨mv58, mv59, mh60, mh57⟩ := zk_o2 mh57
                          unfold f_X12_in at mh60
                          unfold B_X12_in_0 at mh60
                          have mh60 := zk_f cc6 mh60
                          have mh60 := zk_f (by (try simp only [i32_lt, i32_le, i32_e, z32_0, z32_1, z32L_19]); omega) mh60
                          simp only [Option.some.injEq, Prod.mk.injEq] at mh60
                          obtain ⟨rfl, _⟩ := mh60
                          obtain ⟨_, mh57⟩ := zk_gd mh57
                          simp only [Option.some.injEq, Prod.mk.injEq] at mh57
                          obtain ⟨rfl, _⟩ := mh57
                          replace k := zk_f (by decide) k
                          replace k := zk_f cc8 k
                          replace k := zk_o2 k
                          obtain ⟨mv61, mv62, mh63, k⟩ := k
                          unfold f_X12_in at mh63
                          unfold B_X12_in_0 at mh63
                          have mh63 := zk_t cc9 mh63
                          simp only [Option.some.injEq, Prod.mk.injEq] at mh63
                          obtain ⟨rfl, _⟩ := mh63
                          replace k := zk_t rfl k
                          replace h := Option.some.inj h
                          replace k := Option.some.inj k
                          subst h
                          subst k
                          try dsimp only
                          all_goals first
                          | (exfalso; omega)
                          | exact ⟨rfl, rfl, Int.le_refl _, fun e => e, fun e => e, fun e => e, fun e => e, hc⟩
                          | exact ⟨rfl, rfl, by (try dsimp only); rw [hs]; omega, fun e => by rw [e], fun e => by rw [e], fun e => by rw [e], fun e => by rw [e], by (try dsimp only); rw [hs]; omega, by (try dsimp only); rw [hs]; omega⟩
                      · have ch3 := zk_f cc9 ch3
                        have cc9n := cc9
                        (try simp only [i32_lt, i32_le, i32_e, z32_0, z32_1] at cc9n)
                        first
                        | (exfalso; omega)
                        | by_cases cc10 : (5 : Int32) < x3
                          · have ch3 := zk_t cc10 ch3
                            have cc10n := cc10
                            (try simp only [i32_lt, i32_le, i32_e, z32_0, z32_1, z32L_5] at cc10n)
                            first
                            | (exfalso; omega)
                            | simp only [Option.some.injEq, Prod.mk.injEq] at ch3
                              obtain ⟨rfl, _⟩ := ch3
                              replace h := zk_t rfl h
                              unfold B_X12_shoe_0 at k
                              replace k := zk_o2 k
                              obtain ⟨mv64, mv65, mh66, k⟩ := k
                              unfold f_X12_isPerson at mh66
                              unfold B_X12_isPerson_0 at mh66
                              obtain ⟨mv67, mv68, mh69, mh66⟩ := zk_o2 mh66
                              unfold f_X12_in at mh69
                              unfold B_X12_in_0 at mh69
                              have mh69 := zk_f cc4 mh69
                              have mh69 := zk_f (by (try simp only [i32_lt, i32_le, i32_e, z32_0, z32_1, z32L_19]); omega) mh69
                              simp only [Option.some.injEq, Prod.mk.injEq] at mh69
                              obtain ⟨rfl, _⟩ := mh69
                              obtain ⟨_, mh66⟩ := zk_gd mh66
                              simp only [Option.some.injEq, Prod.mk.injEq] at mh66
                              obtain ⟨rfl, _⟩ := mh66
                              replace k := zk_f (by decide) k
                              replace k := zk_o2 k
                              obtain ⟨mv70, mv71, mh72, k⟩ := k
                              unfold f_X12_isPerson at mh72
                              unfold B_X12_isPerson_0 at mh72
                              obtain ⟨mv73, mv74, mh75, mh72⟩ := zk_o2 mh72
                              unfold f_X12_in at mh75
                              unfold B_X12_in_0 at mh75
                              have mh75 := zk_f cc6 mh75
                              have mh75 := zk_f (by (try simp only [i32_lt, i32_le, i32_e, z32_0, z32_1, z32L_19]); omega) mh75
                              simp only [Option.some.injEq, Prod.mk.injEq] at mh75
                              obtain ⟨rfl, _⟩ := mh75
                              obtain ⟨_, mh72⟩ := zk_gd mh72
                              simp only [Option.some.injEq, Prod.mk.injEq] at mh72
                              obtain ⟨rfl, _⟩ := mh72
                              replace k := zk_f (by decide) k
                              replace k := zk_f cc8 k
                              replace k := zk_o2 k
                              obtain ⟨mv76, mv77, mh78, k⟩ := k
                              unfold f_X12_in at mh78
                              unfold B_X12_in_0 at mh78
                              have mh78 := zk_f cc9 mh78
                              have mh78 := zk_t cc10 mh78
                              simp only [Option.some.injEq, Prod.mk.injEq] at mh78
                              obtain ⟨rfl, _⟩ := mh78
                              replace k := zk_t rfl k
                              replace h := Option.some.inj h
                              replace k := Option.some.inj k
                              subst h
                              subst k
                              try dsimp only
                              all_goals first
                              | (exfalso; omega)
                              | exact ⟨rfl, rfl, Int.le_refl _, fun e => e, fun e => e, fun e => e, fun e => e, hc⟩
                              | exact ⟨rfl, rfl, by (try dsimp only); rw [hs]; omega, fun e => by rw [e], fun e => by rw [e], fun e => by rw [e], fun e => by rw [e], by (try dsimp only); rw [hs]; omega, by (try dsimp only); rw [hs]; omega⟩
                          · have ch3 := zk_f cc10 ch3
                            have cc10n := cc10
                            (try simp only [i32_lt, i32_le, i32_e, z32_0, z32_1, z32L_5] at cc10n)
                            first
                            | (exfalso; omega)
                            | obtain ⟨cv11, cv12, ch13, ch3⟩ := zk_o2 ch3
                              unfold f_X11_isDay at ch13
                              unfold B_X11_isDay_0 at ch13
                              by_cases cc14 : x4 < 0
                              · have ch13 := zk_t cc14 ch13
                                have cc14n := cc14
                                (try simp only [i32_lt, i32_le, i32_e, z32_0, z32_1] at cc14n)
                                first
                                | (exfalso; omega)
                                | simp only [Option.some.injEq, Prod.mk.injEq] at ch13
                                  obtain ⟨rfl, _⟩ := ch13
                                  have ch3 := zk_t rfl ch3
                                  simp only [Option.some.injEq, Prod.mk.injEq] at ch3
                                  obtain ⟨rfl, _⟩ := ch3
                                  replace h := zk_t rfl h
                                  unfold B_X12_shoe_0 at k
                                  replace k := zk_o2 k
                                  obtain ⟨mv79, mv80, mh81, k⟩ := k
                                  unfold f_X12_isPerson at mh81
                                  unfold B_X12_isPerson_0 at mh81
                                  obtain ⟨mv82, mv83, mh84, mh81⟩ := zk_o2 mh81
                                  unfold f_X12_in at mh84
                                  unfold B_X12_in_0 at mh84
                                  have mh84 := zk_f cc4 mh84
                                  have mh84 := zk_f (by (try simp only [i32_lt, i32_le, i32_e, z32_0, z32_1, z32L_19]); omega) mh84
                                  simp only [Option.some.injEq, Prod.mk.injEq] at mh84
                                  obtain ⟨rfl, _⟩ := mh84
                                  obtain ⟨_, mh81⟩ := zk_gd mh81
                                  simp only [Option.some.injEq, Prod.mk.injEq] at mh81
                                  obtain ⟨rfl, _⟩ := mh81
                                  replace k := zk_f (by decide) k
                                  replace k := zk_o2 k
                                  obtain ⟨mv85, mv86, mh87, k⟩ := k
                                  unfold f_X12_isPerson at mh87
                                  unfold B_X12_isPerson_0 at mh87
                                  obtain ⟨mv88, mv89, mh90, mh87⟩ := zk_o2 mh87
                                  unfold f_X12_in at mh90
                                  unfold B_X12_in_0 at mh90
                                  have mh90 := zk_f cc6 mh90
                                  have mh90 := zk_f (by (try simp only [i32_lt, i32_le, i32_e, z32_0, z32_1, z32L_19]); omega) mh90
                                  simp only [Option.some.injEq, Prod.mk.injEq] at mh90
                                  obtain ⟨rfl, _⟩ := mh90
                                  obtain ⟨_, mh87⟩ := zk_gd mh87
                                  simp only [Option.some.injEq, Prod.mk.injEq] at mh87
                                  obtain ⟨rfl, _⟩ := mh87
                                  replace k := zk_f (by decide) k
                                  replace k := zk_f cc8 k
                                  replace k := zk_o2 k
                                  obtain ⟨mv91, mv92, mh93, k⟩ := k
                                  unfold f_X12_in at mh93
                                  unfold B_X12_in_0 at mh93
                                  have mh93 := zk_f cc9 mh93
                                  have mh93 := zk_f cc10 mh93
                                  simp only [Option.some.injEq, Prod.mk.injEq] at mh93
                                  obtain ⟨rfl, _⟩ := mh93
                                  replace k := zk_f (by decide) k
                                  replace k := zk_o2 k
                                  obtain ⟨mv94, mv95, mh96, k⟩ := k
                                  unfold f_X12_isDay at mh96
                                  unfold B_X12_isDay_0 at mh96
                                  obtain ⟨mv97, mv98, mh99, mh96⟩ := zk_o2 mh96
                                  unfold f_X12_in at mh99
                                  unfold B_X12_in_0 at mh99
                                  have mh99 := zk_t cc14 mh99
                                  simp only [Option.some.injEq, Prod.mk.injEq] at mh99
                                  obtain ⟨rfl, _⟩ := mh99
                                  obtain ⟨_, mh96⟩ := zk_gd mh96
                                  simp only [Option.some.injEq, Prod.mk.injEq] at mh96
                                  obtain ⟨rfl, _⟩ := mh96
                                  replace k := zk_t rfl k
                                  replace h := Option.some.inj h
                                  replace k := Option.some.inj k
                                  subst h
                                  subst k
                                  try dsimp only
                                  all_goals first
                                  | (exfalso; omega)
                                  | exact ⟨rfl, rfl, Int.le_refl _, fun e => e, fun e => e, fun e => e, fun e => e, hc⟩
                                  | exact ⟨rfl, rfl, by (try dsimp only); rw [hs]; omega, fun e => by rw [e], fun e => by rw [e], fun e => by rw [e], fun e => by rw [e], by (try dsimp only); rw [hs]; omega, by (try dsimp only); rw [hs]; omega⟩
                              · have ch13 := zk_f cc14 ch13
                                have cc14n := cc14
                                (try simp only [i32_lt, i32_le, i32_e, z32_0, z32_1] at cc14n)
                                first
                                | (exfalso; omega)
                                | by_cases cc15 : (10000 : Int32) ≤ x4
                                  · have ch13 := zk_t cc15 ch13
                                    have cc15n := cc15
                                    (try simp only [i32_lt, i32_le, i32_e, z32_0, z32_1, z32L_10000] at cc15n)
                                    first
                                    | (exfalso; omega)
                                    | simp only [Option.some.injEq, Prod.mk.injEq] at ch13
                                      obtain ⟨rfl, _⟩ := ch13
                                      have ch3 := zk_t rfl ch3
                                      simp only [Option.some.injEq, Prod.mk.injEq] at ch3
                                      obtain ⟨rfl, _⟩ := ch3
                                      replace h := zk_t rfl h
                                      unfold B_X12_shoe_0 at k
                                      replace k := zk_o2 k
                                      obtain ⟨mv100, mv101, mh102, k⟩ := k
                                      unfold f_X12_isPerson at mh102
                                      unfold B_X12_isPerson_0 at mh102
                                      obtain ⟨mv103, mv104, mh105, mh102⟩ := zk_o2 mh102
                                      unfold f_X12_in at mh105
                                      unfold B_X12_in_0 at mh105
                                      have mh105 := zk_f cc4 mh105
                                      have mh105 := zk_f (by (try simp only [i32_lt, i32_le, i32_e, z32_0, z32_1, z32L_19]); omega) mh105
                                      simp only [Option.some.injEq, Prod.mk.injEq] at mh105
                                      obtain ⟨rfl, _⟩ := mh105
                                      obtain ⟨_, mh102⟩ := zk_gd mh102
                                      simp only [Option.some.injEq, Prod.mk.injEq] at mh102
                                      obtain ⟨rfl, _⟩ := mh102
                                      replace k := zk_f (by decide) k
                                      replace k := zk_o2 k
                                      obtain ⟨mv106, mv107, mh108, k⟩ := k
                                      unfold f_X12_isPerson at mh108
                                      unfold B_X12_isPerson_0 at mh108
                                      obtain ⟨mv109, mv110, mh111, mh108⟩ := zk_o2 mh108
                                      unfold f_X12_in at mh111
                                      unfold B_X12_in_0 at mh111
                                      have mh111 := zk_f cc6 mh111
                                      have mh111 := zk_f (by (try simp only [i32_lt, i32_le, i32_e, z32_0, z32_1, z32L_19]); omega) mh111
                                      simp only [Option.some.injEq, Prod.mk.injEq] at mh111
                                      obtain ⟨rfl, _⟩ := mh111
                                      obtain ⟨_, mh108⟩ := zk_gd mh108
                                      simp only [Option.some.injEq, Prod.mk.injEq] at mh108
                                      obtain ⟨rfl, _⟩ := mh108
                                      replace k := zk_f (by decide) k
                                      replace k := zk_f cc8 k
                                      replace k := zk_o2 k
                                      obtain ⟨mv112, mv113, mh114, k⟩ := k
                                      unfold f_X12_in at mh114
                                      unfold B_X12_in_0 at mh114
                                      have mh114 := zk_f cc9 mh114
                                      have mh114 := zk_f cc10 mh114
                                      simp only [Option.some.injEq, Prod.mk.injEq] at mh114
                                      obtain ⟨rfl, _⟩ := mh114
                                      replace k := zk_f (by decide) k
                                      replace k := zk_o2 k
                                      obtain ⟨mv115, mv116, mh117, k⟩ := k
                                      unfold f_X12_isDay at mh117
                                      unfold B_X12_isDay_0 at mh117
                                      obtain ⟨mv118, mv119, mh120, mh117⟩ := zk_o2 mh117
                                      unfold f_X12_in at mh120
                                      unfold B_X12_in_0 at mh120
                                      have mh120 := zk_f cc14 mh120
                                      have mh120 := zk_t (by (try simp only [i32_lt, i32_le, i32_e, z32_0, z32_1, z32L_9999]); omega) mh120
                                      simp only [Option.some.injEq, Prod.mk.injEq] at mh120
                                      obtain ⟨rfl, _⟩ := mh120
                                      obtain ⟨_, mh117⟩ := zk_gd mh117
                                      simp only [Option.some.injEq, Prod.mk.injEq] at mh117
                                      obtain ⟨rfl, _⟩ := mh117
                                      replace k := zk_t rfl k
                                      replace h := Option.some.inj h
                                      replace k := Option.some.inj k
                                      subst h
                                      subst k
                                      try dsimp only
                                      all_goals first
                                      | (exfalso; omega)
                                      | exact ⟨rfl, rfl, Int.le_refl _, fun e => e, fun e => e, fun e => e, fun e => e, hc⟩
                                      | exact ⟨rfl, rfl, by (try dsimp only); rw [hs]; omega, fun e => by rw [e], fun e => by rw [e], fun e => by rw [e], fun e => by rw [e], by (try dsimp only); rw [hs]; omega, by (try dsimp only); rw [hs]; omega⟩
                                  · have ch13 := zk_f cc15 ch13
                                    have cc15n := cc15
                                    (try simp only [i32_lt, i32_le, i32_e, z32_0, z32_1, z32L_10000] at cc15n)
                                    first
                                    | (exfalso; omega)
                                    | simp only [Option.some.injEq, Prod.mk.injEq] at ch13
                                      obtain ⟨rfl, _⟩ := ch13
                                      have ch3 := zk_f (by decide) ch3
                                      simp only [Option.some.injEq, Prod.mk.injEq] at ch3
                                      obtain ⟨rfl, _⟩ := ch3
                                      replace h := zk_f (by decide) h
                                      replace h := zk_o6 h
                                      obtain ⟨cv16, cv17, cv18, cv19, cv20, cv21, ch22, h⟩ := h
                                      unfold f_X2_addShoe at ch22
                                      unfold B_X2_addShoe_0 at ch22
                                      by_cases cc23 : court_shoeCount < (40 : Int32)
                                      · have ch22 := zk_t cc23 ch22
                                        have cc23n := cc23
                                        (try simp only [i32_lt, i32_le, i32_e, z32_0, z32_1, z32L_40] at cc23n)
                                        first
                                        | (exfalso; omega)
                                        | obtain ⟨_, ch22⟩ := zk_gd ch22
                                          obtain ⟨cv24, ce25, ch22⟩ := zk_lt ch22
                                          subst ce25
                                          obtain ⟨_, ch22⟩ := zk_gd ch22
                                          obtain ⟨cv26, ce27, ch22⟩ := zk_lt ch22
                                          subst ce27
                                          obtain ⟨_, ch22⟩ := zk_gd ch22
                                          obtain ⟨cv28, ce29, ch22⟩ := zk_lt ch22
                                          subst ce29
                                          obtain ⟨_, ch22⟩ := zk_gd ch22
                                          obtain ⟨cv30, ce31, ch22⟩ := zk_lt ch22
                                          subst ce31
                                          obtain ⟨cv32, ce33, ch22⟩ := zk_lt ch22
                                          subst ce33
                                          simp only [Option.some.injEq, Prod.mk.injEq] at ch22
                                          obtain ⟨rfl, rfl, rfl, rfl, rfl, rfl⟩ := ch22
                                          unfold B_X12_shoe_0 at k
                                          replace k := zk_o2 k
                                          obtain ⟨mv121, mv122, mh123, k⟩ := k
                                          unfold f_X12_isPerson at mh123
                                          unfold B_X12_isPerson_0 at mh123
                                          obtain ⟨mv124, mv125, mh126, mh123⟩ := zk_o2 mh123
                                          unfold f_X12_in at mh126
                                          unfold B_X12_in_0 at mh126
                                          have mh126 := zk_f cc4 mh126
                                          have mh126 := zk_f (by (try simp only [i32_lt, i32_le, i32_e, z32_0, z32_1, z32L_19]); omega) mh126
                                          simp only [Option.some.injEq, Prod.mk.injEq] at mh126
                                          obtain ⟨rfl, _⟩ := mh126
                                          obtain ⟨_, mh123⟩ := zk_gd mh123
                                          simp only [Option.some.injEq, Prod.mk.injEq] at mh123
                                          obtain ⟨rfl, _⟩ := mh123
                                          replace k := zk_f (by decide) k
                                          replace k := zk_o2 k
                                          obtain ⟨mv127, mv128, mh129, k⟩ := k
                                          unfold f_X12_isPerson at mh129
                                          unfold B_X12_isPerson_0 at mh129
                                          obtain ⟨mv130, mv131, mh132, mh129⟩ := zk_o2 mh129
                                          unfold f_X12_in at mh132
                                          unfold B_X12_in_0 at mh132
                                          have mh132 := zk_f cc6 mh132
                                          have mh132 := zk_f (by (try simp only [i32_lt, i32_le, i32_e, z32_0, z32_1, z32L_19]); omega) mh132
                                          simp only [Option.some.injEq, Prod.mk.injEq] at mh132
                                          obtain ⟨rfl, _⟩ := mh132
                                          obtain ⟨_, mh129⟩ := zk_gd mh129
                                          simp only [Option.some.injEq, Prod.mk.injEq] at mh129
                                          obtain ⟨rfl, _⟩ := mh129
                                          replace k := zk_f (by decide) k
                                          replace k := zk_f cc8 k
                                          replace k := zk_o2 k
                                          obtain ⟨mv133, mv134, mh135, k⟩ := k
                                          unfold f_X12_in at mh135
                                          unfold B_X12_in_0 at mh135
                                          have mh135 := zk_f cc9 mh135
                                          have mh135 := zk_f cc10 mh135
                                          simp only [Option.some.injEq, Prod.mk.injEq] at mh135
                                          obtain ⟨rfl, _⟩ := mh135
                                          replace k := zk_f (by decide) k
                                          replace k := zk_o2 k
                                          obtain ⟨mv136, mv137, mh138, k⟩ := k
                                          unfold f_X12_isDay at mh138
                                          unfold B_X12_isDay_0 at mh138
                                          obtain ⟨mv139, mv140, mh141, mh138⟩ := zk_o2 mh138
                                          unfold f_X12_in at mh141
                                          unfold B_X12_in_0 at mh141
                                          have mh141 := zk_f cc14 mh141
                                          have mh141 := zk_f (by (try simp only [i32_lt, i32_le, i32_e, z32_0, z32_1, z32L_9999]); omega) mh141
                                          simp only [Option.some.injEq, Prod.mk.injEq] at mh141
                                          obtain ⟨rfl, _⟩ := mh141
                                          obtain ⟨_, mh138⟩ := zk_gd mh138
                                          simp only [Option.some.injEq, Prod.mk.injEq] at mh138
                                          obtain ⟨rfl, _⟩ := mh138
                                          replace k := zk_f (by decide) k
                                          replace k := zk_f (by (try simp only [i32_lt, i32_le, i32_e, z32_0, z32_1, z32L_40]); omega) k
                                          replace k := zk_gd k
                                          obtain ⟨_, k⟩ := k
                                          replace k := zk_lt k
                                          obtain ⟨mv142, me143, k⟩ := k
                                          subst me143
                                          replace k := zk_gd k
                                          obtain ⟨_, k⟩ := k
                                          replace k := zk_lt k
                                          obtain ⟨mv144, me145, k⟩ := k
                                          subst me145
                                          replace k := zk_gd k
                                          obtain ⟨_, k⟩ := k
                                          replace k := zk_lt k
                                          obtain ⟨mv146, me147, k⟩ := k
                                          subst me147
                                          replace k := zk_gd k
                                          obtain ⟨_, k⟩ := k
                                          replace k := zk_lt k
                                          obtain ⟨mv148, me149, k⟩ := k
                                          subst me149
                                          replace k := zk_lt k
                                          obtain ⟨mv150, me151, k⟩ := k
                                          subst me151
                                          replace h := Option.some.inj h
                                          replace k := Option.some.inj k
                                          subst h
                                          subst k
                                          try dsimp only
                                          all_goals first
                                          | (exfalso; omega)
                                          | exact ⟨rfl, rfl, Int.le_refl _, fun e => e, fun e => e, fun e => e, fun e => e, hc⟩
                                          | exact ⟨rfl, rfl, by (try dsimp only); rw [hs]; omega, fun e => by rw [e], fun e => by rw [e], fun e => by rw [e], fun e => by rw [e], by (try dsimp only); rw [hs]; omega, by (try dsimp only); rw [hs]; omega⟩
                                      · have ch22 := zk_f cc23 ch22
                                        have cc23n := cc23
                                        (try simp only [i32_lt, i32_le, i32_e, z32_0, z32_1, z32L_40] at cc23n)
                                        first
                                        | (exfalso; omega)
                                        | simp only [Option.some.injEq, Prod.mk.injEq] at ch22
                                          obtain ⟨rfl, rfl, rfl, rfl, rfl, rfl⟩ := ch22
                                          unfold B_X12_shoe_0 at k
                                          replace k := zk_o2 k
                                          obtain ⟨mv152, mv153, mh154, k⟩ := k
                                          unfold f_X12_isPerson at mh154
                                          unfold B_X12_isPerson_0 at mh154
                                          obtain ⟨mv155, mv156, mh157, mh154⟩ := zk_o2 mh154
                                          unfold f_X12_in at mh157
                                          unfold B_X12_in_0 at mh157
                                          have mh157 := zk_f cc4 mh157
                                          have mh157 := zk_f (by (try simp only [i32_lt, i32_le, i32_e, z32_0, z32_1, z32L_19]); omega) mh157
                                          simp only [Option.some.injEq, Prod.mk.injEq] at mh157
                                          obtain ⟨rfl, _⟩ := mh157
                                          obtain ⟨_, mh154⟩ := zk_gd mh154
                                          simp only [Option.some.injEq, Prod.mk.injEq] at mh154
                                          obtain ⟨rfl, _⟩ := mh154
                                          replace k := zk_f (by decide) k
                                          replace k := zk_o2 k
                                          obtain ⟨mv158, mv159, mh160, k⟩ := k
                                          unfold f_X12_isPerson at mh160
                                          unfold B_X12_isPerson_0 at mh160
                                          obtain ⟨mv161, mv162, mh163, mh160⟩ := zk_o2 mh160
                                          unfold f_X12_in at mh163
                                          unfold B_X12_in_0 at mh163
                                          have mh163 := zk_f cc6 mh163
                                          have mh163 := zk_f (by (try simp only [i32_lt, i32_le, i32_e, z32_0, z32_1, z32L_19]); omega) mh163
                                          simp only [Option.some.injEq, Prod.mk.injEq] at mh163
                                          obtain ⟨rfl, _⟩ := mh163
                                          obtain ⟨_, mh160⟩ := zk_gd mh160
                                          simp only [Option.some.injEq, Prod.mk.injEq] at mh160
                                          obtain ⟨rfl, _⟩ := mh160
                                          replace k := zk_f (by decide) k
                                          replace k := zk_f cc8 k
                                          replace k := zk_o2 k
                                          obtain ⟨mv164, mv165, mh166, k⟩ := k
                                          unfold f_X12_in at mh166
                                          unfold B_X12_in_0 at mh166
                                          have mh166 := zk_f cc9 mh166
                                          have mh166 := zk_f cc10 mh166
                                          simp only [Option.some.injEq, Prod.mk.injEq] at mh166
                                          obtain ⟨rfl, _⟩ := mh166
                                          replace k := zk_f (by decide) k
                                          replace k := zk_o2 k
                                          obtain ⟨mv167, mv168, mh169, k⟩ := k
                                          unfold f_X12_isDay at mh169
                                          unfold B_X12_isDay_0 at mh169
                                          obtain ⟨mv170, mv171, mh172, mh169⟩ := zk_o2 mh169
                                          unfold f_X12_in at mh172
                                          unfold B_X12_in_0 at mh172
                                          have mh172 := zk_f cc14 mh172
                                          have mh172 := zk_f (by (try simp only [i32_lt, i32_le, i32_e, z32_0, z32_1, z32L_9999]); omega) mh172
                                          simp only [Option.some.injEq, Prod.mk.injEq] at mh172
                                          obtain ⟨rfl, _⟩ := mh172
                                          obtain ⟨_, mh169⟩ := zk_gd mh169
                                          simp only [Option.some.injEq, Prod.mk.injEq] at mh169
                                          obtain ⟨rfl, _⟩ := mh169
                                          replace k := zk_f (by decide) k
                                          by_cases mc173 : court_shoeCount = (40 : Int32)
                                          · replace k := zk_t mc173 k
                                            have mc173n := mc173
                                            (try simp only [i32_lt, i32_le, i32_e, z32_0, z32_1, z32L_40] at mc173n)
                                            first
                                            | (exfalso; omega)
                                            | have h := Option.some.inj h
                                              replace k := Option.some.inj k
                                              subst h
                                              subst k
                                              try dsimp only
                                              all_goals first
                                              | (exfalso; omega)
                                              | exact ⟨rfl, rfl, Int.le_refl _, fun e => e, fun e => e, fun e => e, fun e => e, hc⟩
                                              | exact ⟨rfl, rfl, by (try dsimp only); rw [hs]; omega, fun e => by rw [e], fun e => by rw [e], fun e => by rw [e], fun e => by rw [e], by (try dsimp only); rw [hs]; omega, by (try dsimp only); rw [hs]; omega⟩
                                          · replace k := zk_f mc173 k
                                            have mc173n := mc173
                                            (try simp only [i32_lt, i32_le, i32_e, z32_0, z32_1, z32L_40] at mc173n)
                                            first
                                            | (exfalso; omega)
                                            | obtain ⟨_, k⟩ := zk_gd k
                                              replace k := zk_lt k
                                              obtain ⟨mv174, me175, k⟩ := k
                                              subst me175
                                              replace k := zk_gd k
                                              obtain ⟨_, k⟩ := k
                                              replace k := zk_lt k
                                              obtain ⟨mv176, me177, k⟩ := k
                                              subst me177
                                              replace k := zk_gd k
                                              obtain ⟨_, k⟩ := k
                                              replace k := zk_lt k
                                              obtain ⟨mv178, me179, k⟩ := k
                                              subst me179
                                              replace k := zk_gd k
                                              obtain ⟨_, k⟩ := k
                                              replace k := zk_lt k
                                              obtain ⟨mv180, me181, k⟩ := k
                                              subst me181
                                              replace k := zk_lt k
                                              obtain ⟨mv182, me183, k⟩ := k
                                              subst me183
                                              replace h := Option.some.inj h
                                              replace k := Option.some.inj k
                                              subst h
                                              subst k
                                              try dsimp only
                                              all_goals first
                                              | (exfalso; omega)
                                              | exact ⟨rfl, rfl, Int.le_refl _, fun e => e, fun e => e, fun e => e, fun e => e, hc⟩
                                              | exact ⟨rfl, rfl, by (try dsimp only); rw [hs]; omega, fun e => by rw [e], fun e => by rw [e], fun e => by rw [e], fun e => by rw [e], by (try dsimp only); rw [hs]; omega, by (try dsimp only); rw [hs]; omega⟩

theorem lq_gt (x y : Int64) : (0 < lg_cmp x y) ↔ y < x := by
  unfold lg_cmp
  by_cases h : x > y
  · rw [if_pos h]
    exact ⟨fun _ => h, fun _ => by decide⟩
  · rw [if_neg h]
    by_cases h2 : x = y
    · rw [if_pos h2]
      exact ⟨fun z => absurd z (by decide), fun z => absurd z h⟩
    · rw [if_neg h2]
      exact ⟨fun z => absurd z (by decide), fun z => absurd z h⟩
theorem lq_lt (x y : Int64) : (lg_cmp x y < 0) ↔ x < y := by
  unfold lg_cmp
  by_cases h : x > y
  · rw [if_pos h]
    have h : y < x := h
    refine ⟨fun z => absurd z (by decide), fun z => ?_⟩
    rw [Int64.lt_iff_toInt_lt] at z h
    omega
  · rw [if_neg h]
    have h : ¬ y < x := h
    by_cases h2 : x = y
    · rw [if_pos h2]
      refine ⟨fun z => absurd z (by decide), fun z => ?_⟩
      subst h2
      exact absurd z h
    · rw [if_neg h2]
      refine ⟨fun _ => ?_, fun _ => by decide⟩
      rw [Int64.lt_iff_toInt_lt] at h ⊢
      have h3 : x.toInt ≠ y.toInt := fun z => h2 (Int64.toInt_inj.mp z)
      omega
theorem i64_a {a b : Int64} (h : -1000000000000 ≤ a.toInt ∧ a.toInt ≤ 1000000000000) (h2 : -1000000000000 ≤ b.toInt ∧ b.toInt ≤ 1000000000000) : (a + b).toInt = a.toInt + b.toInt := by
  rw [Int64.toInt_add, Int.bmod_def]
  split <;> omega
theorem i64_4 {b : Int64} (h2 : -1000000000000 ≤ b.toInt ∧ b.toInt ≤ 1000000000000) : ((4 : Int64) * b).toInt = 4 * b.toInt := by
  have e : (4 : Int64).toInt = 4 := by decide
  rw [Int64.toInt_mul, e, Int.bmod_def]
  split <;> omega
theorem i64_n {v : Int64} {x : Int32} (h : v.toInt = x.toInt) : v.toInt32 = x := by
  apply Int32.toInt_inj.mp
  rw [Int64.toInt_toInt32, h]
  have := Int32.le_toInt x
  have := Int32.toInt_lt x
  rw [Int.bmod_def]
  split <;> omega
theorem l64_0 : (0 : Int64).toInt = 0 := by decide
theorem l64_3 : (3 : Int64).toInt = 3 := by decide
theorem l64_4 : (4 : Int64).toInt = 4 := by decide
set_option maxHeartbeats 4000000 in
set_option maxRecDepth 20000 in
theorem sf_shoe {court_shoeCount : Int32} {court_suitCount : Int32} {court_claimCount : Int32} {court_shoePerson : Nat → Int32} {court_shoeOther : Nat → Int32} {court_shoeSort : Nat → Int32} {court_shoeDay : Nat → Int32} {pl_suit : Int32} {pl_holds : Int32} {pl_size : Int32} {pl_elements : Nat → Int64} {x2 : Int32} {R : Int32 × Int32 × (Nat → Int32) × (Nat → Int32) × (Nat → Int32) × (Nat → Int32)} (h0 : 0 ≤ x2.toInt ∧ x2.toInt + 4 ≤ pl_size.toInt) (hs : 0 ≤ pl_size.toInt ∧ pl_size.toInt ≤ 60) (h : f_X11_shoeFrom x2 court_shoeCount court_claimCount court_suitCount court_shoePerson court_shoeOther court_shoeSort court_shoeDay pl_holds pl_suit pl_size pl_elements = some R) : ∃ q, f_X11_shoe ((pl_elements x2.toNatClampNeg).toInt32) ((pl_elements (x2 + 1).toNatClampNeg).toInt32) ((pl_elements (x2 + 2).toNatClampNeg).toInt32) ((pl_elements (x2 + 3).toNatClampNeg).toInt32) court_shoeCount court_claimCount court_suitCount court_shoePerson court_shoeOther court_shoeSort court_shoeDay = some (q, R.2) ∧ ((R.1 = 0 ∧ q.toInt < 0) ∨ (R.1 = 1 ∧ 0 ≤ q.toInt)) := by
  unfold f_X11_shoeFrom B_X11_shoeFrom_0 at h
  replace h := zk_o2 h
  obtain ⟨r1, u1, a1, h⟩ := h
  unfold f_X6_hasRange B_X6_hasRange_0 at a1
  have a1 := zk_f (show ¬ x2 < 0 by rw [i32_lt, z32_0]; omega) a1
  have a1 := zk_f (show ¬ (4 : Int32) < 0 by decide) a1
  have a1 := zk_f (show ¬ pl_size < x2 by rw [i32_lt]; omega) a1
  have a1 := zk_f (show ¬ (pl_size - x2) < (4 : Int32) by rw [i32_lt, i32_d (by omega) (by omega), z32L_4]; omega) a1
  have e := congrArg Prod.fst (Option.some.inj a1)
  dsimp only at e
  subst e
  replace h := zk_f (by decide) h
  replace h := zk_gd h
  obtain ⟨_, h⟩ := h
  replace h := zk_lt h
  obtain ⟨v0, ev, h⟩ := h
  subst ev
  replace h := zk_gd h
  obtain ⟨_, h⟩ := h
  replace h := zk_lt h
  obtain ⟨v1, ev, h⟩ := h
  subst ev
  replace h := zk_gd h
  obtain ⟨_, h⟩ := h
  replace h := zk_lt h
  obtain ⟨v2, ev, h⟩ := h
  subst ev
  replace h := zk_gd h
  obtain ⟨_, h⟩ := h
  replace h := zk_lt h
  obtain ⟨v3, ev, h⟩ := h
  subst ev
  replace h := zk_o2 h
  obtain ⟨r2, u2, a2, h⟩ := h
  by_cases c : r2 = 0
  · replace h := Option.some.inj (zk_t c h)
    subst h
    refine ⟨-1, ?_, Or.inl ⟨rfl, by decide⟩⟩
    unfold f_X11_shoe B_X11_shoe_0
    rw [a2, pe_b2, if_pos c]
  · replace h := zk_f c h
    replace h := zk_o6 h
    obtain ⟨r3, w1, w2, w3, w4, w5, a3, h⟩ := h
    by_cases c2 : r3 < 0
    · replace h := Option.some.inj (zk_t c2 h)
      subst h
      rw [i32_lt, z32_0] at c2
      refine ⟨r3, ?_, Or.inl ⟨rfl, c2⟩⟩
      unfold f_X11_shoe B_X11_shoe_0
      rw [a2, pe_b2, if_neg c, a3]
      rfl
    · replace h := Option.some.inj (zk_f c2 h)
      subst h
      rw [i32_lt, z32_0] at c2
      refine ⟨r3, ?_, Or.inr ⟨rfl, by omega⟩⟩
      unfold f_X11_shoe B_X11_shoe_0
      rw [a2, pe_b2, if_neg c, a3]
      rfl
set_option maxHeartbeats 4000000 in
set_option maxRecDepth 20000 in
theorem so_zero {court_shoeCount : Int32} {court_suitCount : Int32} {court_claimCount : Int32} {court_shoePerson : Nat → Int32} {court_shoeOther : Nat → Int32} {court_shoeSort : Nat → Int32} {court_shoeDay : Nat → Int32} {pl_suit : Int32} {pl_holds : Int32} {pl_size : Int32} {pl_elements : Nat → Int64} {root_places : Nat → Option Nat} {h_pl : Nat} {x2 x3 z6 z0 : Int32} {N : Nat} {R : Int32 × Int32 × (Nat → Int32) × (Nat → Int32) × (Nat → Int32) × (Nat → Int32)} (hz : z0 = 0) (h6 : z6 = 0) (h3 : 1 ≤ x3.toInt) (h : G_X11_shoes h_pl root_places court_claimCount court_suitCount pl_holds pl_suit pl_size pl_elements N x2 x3 z0 z6 court_shoeCount court_shoePerson court_shoeOther court_shoeSort court_shoeDay = some R) : R = (0, court_shoeCount, court_shoePerson, court_shoeOther, court_shoeSort, court_shoeDay) := by
  subst hz
  subst h6
  cases N with
  | zero => cases h
  | succ N =>
    replace h : B_X11_shoes_69 h_pl (G_X11_shoes h_pl root_places court_claimCount court_suitCount pl_holds pl_suit pl_size pl_elements N) root_places court_claimCount court_suitCount pl_holds pl_suit pl_size pl_elements x2 x3 0 0 court_shoeCount court_shoePerson court_shoeOther court_shoeSort court_shoeDay = some R := h
    unfold B_X11_shoes_69 at h
    replace h := zk_f (show ¬ x3 ≤ 0 by rw [i32_le, z32_0]; omega) h
    by_cases c : x2 < 0
    · exact (Option.some.inj (zk_t c h)).symm
    · replace h := zk_f c h
      rw [i32_lt, z32_0] at c
      have := Int32.toInt_lt x2
      have e1 := i64_4 (b := (0 : Int32).toInt64) (by decide)
      have e0 : (0 : Int32).toInt64.toInt = 0 := by decide
      have e2 := i64_a (a := x2.toInt64) (b := 4 * (0 : Int32).toInt64) (by rw [Int32.toInt_toInt64]; omega) (by omega)
      have e3 := i64_a (a := x2.toInt64 + 4 * (0 : Int32).toInt64) (b := 4) (by rw [e2, Int32.toInt_toInt64]; omega) (by decide)
      rw [e2, e1, Int32.toInt_toInt64, l64_4] at e3
      exact (Option.some.inj (zk_t (by rw [lq_gt, Int64.lt_iff_toInt_lt, e3]; omega) h)).symm
set_option maxHeartbeats 4000000 in
set_option maxRecDepth 20000 in
theorem so_loop {mod_code : Int32} {mod_claims : Int32} {ts : Int32} {at_ : Int32} {f : Int32} {court_suitCount : Int32} {mod_doneMany : Int32} {mod_undoneMany : Int32} {mod_open : Int32} {mod_laid : Int32} {mod_isBoth : Int32} {mod_wished : Int32} {mod_bestMany : Int32} {mod_bestRow : Int32} {mod_ringDigits : Int32} {mod_traces : Int32} {mod_holds : Nat → Int32} {mod_size : Nat → Int32} {mod_elements : Nat → Int64} {court_claimCount : Int32} {pl_suit : Int32} {pl_holds : Int32} {pl_size : Int32} {pl_elements : Nat → Int64} {root_places : Nat → Option Nat} {h_pl : Nat} {x1 x2 x3 : Int32} (hx5 : 0 ≤ x1.toInt ∧ x1.toInt ≤ 5) (hx3 : x3.toInt ≤ 15) (hs1 : mod_size x1.toNatClampNeg = pl_size) (hsz : 0 ≤ pl_size.toInt ∧ pl_size.toInt ≤ 60) (he : ∀ k, k < 60 → mod_elements (60 * x1.toNatClampNeg + k) = pl_elements k) : ∀ (N M : Nat) (x6 : Int32) (court_shoeCount : Int32) (court_shoePerson court_shoeOther court_shoeSort court_shoeDay : Nat → Int32) (mod_wearer mod_wornFor mod_shoeSort mod_shoeDay : Nat → Int32) (R : Int32 × Int32 × (Nat → Int32) × (Nat → Int32) × (Nat → Int32) × (Nat → Int32)) (Q : Int32 × Int32 × (Nat → Int32) × (Nat → Int32) × (Nat → Int32) × (Nat → Int32)), 0 ≤ x6.toInt → x6.toInt ≤ x3.toInt → (x6.toInt = 0 ∨ 0 ≤ x2.toInt) → (0 ≤ court_shoeCount.toInt ∧ court_shoeCount.toInt ≤ 40) → G_X11_shoes h_pl root_places court_claimCount court_suitCount pl_holds pl_suit pl_size pl_elements N x2 x3 pl_size x6 court_shoeCount court_shoePerson court_shoeOther court_shoeSort court_shoeDay = some R → G_X12_shoes mod_code mod_claims ts at_ f court_suitCount mod_doneMany mod_undoneMany mod_open mod_laid mod_isBoth mod_wished mod_bestMany mod_bestRow mod_ringDigits mod_traces mod_holds mod_size mod_elements M x1 x2 x3 x6 court_shoeCount mod_wearer mod_wornFor mod_shoeSort mod_shoeDay = some Q → R.1 = Q.1 ∧ R.2.1 = Q.2.1 ∧ court_shoeCount.toInt ≤ R.2.1.toInt ∧ (court_shoePerson = mod_wearer → R.2.2.1 = Q.2.2.1) ∧ (court_shoeOther = mod_wornFor → R.2.2.2.1 = Q.2.2.2.1) ∧ (court_shoeSort = mod_shoeSort → R.2.2.2.2.1 = Q.2.2.2.2.1) ∧ (court_shoeDay = mod_shoeDay → R.2.2.2.2.2 = Q.2.2.2.2.2) := by
  intro N
  induction N with
  | zero =>
    intro M x6 court_shoeCount court_shoePerson court_shoeOther court_shoeSort court_shoeDay mod_wearer mod_wornFor mod_shoeSort mod_shoeDay R Q _ _ _ _ h
    cases h
  | succ N ih =>
    intro M x6 court_shoeCount court_shoePerson court_shoeOther court_shoeSort court_shoeDay mod_wearer mod_wornFor mod_shoeSort mod_shoeDay R Q h0 h1 h2 hc h k
    cases M with
    | zero => cases k
    | succ M =>
      replace h : B_X11_shoes_69 h_pl (G_X11_shoes h_pl root_places court_claimCount court_suitCount pl_holds pl_suit pl_size pl_elements N) root_places court_claimCount court_suitCount pl_holds pl_suit pl_size pl_elements x2 x3 pl_size x6 court_shoeCount court_shoePerson court_shoeOther court_shoeSort court_shoeDay = some R := h
      replace k : B_X12_shoes_58 (G_X12_shoes mod_code mod_claims ts at_ f court_suitCount mod_doneMany mod_undoneMany mod_open mod_laid mod_isBoth mod_wished mod_bestMany mod_bestRow mod_ringDigits mod_traces mod_holds mod_size mod_elements M) mod_code mod_claims ts at_ f court_suitCount mod_doneMany mod_undoneMany mod_open mod_laid mod_isBoth mod_wished mod_bestMany mod_bestRow mod_ringDigits mod_traces mod_holds mod_size mod_elements x1 x2 x3 x6 court_shoeCount mod_wearer mod_wornFor mod_shoeSort mod_shoeDay = some Q := k
      unfold B_X11_shoes_69 at h
      unfold B_X12_shoes_58 at k
      have b1 := Int32.toInt_lt x2
      have b2 := Int32.le_toInt x2
      by_cases c : x3 ≤ x6
      · replace h := Option.some.inj (zk_t c h)
        replace k := Option.some.inj (zk_t c k)
        rw [i32_le] at c
        have e : x6 = x3 := Int32.toInt_inj.mp (by omega)
        subst h
        subst k
        exact ⟨e, rfl, Int.le_refl _, fun e => e, fun e => e, fun e => e, fun e => e⟩
      · replace h := zk_f c h
        replace k := zk_f c k
        rw [i32_le] at c
        have e46 : ((4 : Int32) * x6).toInt = 4 * x6.toInt := by
          rw [Int32.toInt_mul, z32L_4]
          exact zi_bm2 (by omega) (by omega)
        replace k := zk_lt k
        obtain ⟨v, ev, k⟩ := k
        have hv : v.toInt = x2.toInt + 4 * x6.toInt := by
          rw [ev, i64_a (by rw [Int32.toInt_toInt64]; omega) (by rw [Int32.toInt_toInt64, e46]; omega), Int32.toInt_toInt64, Int32.toInt_toInt64, e46]
        by_cases c2 : x2 < 0
        · replace h := Option.some.inj (zk_t c2 h)
          rw [i32_lt, z32_0] at c2
          replace k := Option.some.inj (zk_t (by rw [lq_lt, Int64.lt_iff_toInt_lt, l64_0, hv]; omega) k)
          subst h
          subst k
          exact ⟨rfl, rfl, Int.le_refl _, fun e => e, fun e => e, fun e => e, fun e => e⟩
        · replace h := zk_f c2 h
          rw [i32_lt, z32_0] at c2
          replace k := zk_f (by rw [lq_lt, Int64.lt_iff_toInt_lt, l64_0, hv]; omega) k
          replace k := zk_gd k
          obtain ⟨_, k⟩ := k
          have e1 := i64_4 (b := x6.toInt64) (by rw [Int32.toInt_toInt64]; omega)
          rw [Int32.toInt_toInt64] at e1
          have e2 := i64_a (a := x2.toInt64) (b := 4 * x6.toInt64) (by rw [Int32.toInt_toInt64]; omega) (by omega)
          rw [e1, Int32.toInt_toInt64] at e2
          have e3 := i64_a (a := x2.toInt64 + 4 * x6.toInt64) (b := 4) (by omega) (by decide)
          rw [e2, l64_4] at e3
          have e4 := i64_a (a := v) (b := 3) (by omega) (by decide)
          rw [hv, l64_3] at e4
          by_cases c3 : 0 < lg_cmp ((x2.toInt64 + (4 * x6.toInt64)) + 4) pl_size.toInt64
          · replace h := Option.some.inj (zk_t c3 h)
            rw [lq_gt, Int64.lt_iff_toInt_lt, e3, Int32.toInt_toInt64] at c3
            replace k := Option.some.inj (zk_f (by rw [lq_lt, Int64.lt_iff_toInt_lt, e4, Int32.toInt_toInt64, hs1]; omega) k)
            subst h
            subst k
            exact ⟨rfl, rfl, Int.le_refl _, fun e => e, fun e => e, fun e => e, fun e => e⟩
          · replace h := zk_f c3 h
            rw [lq_gt, Int64.lt_iff_toInt_lt, e3, Int32.toInt_toInt64] at c3
            replace k := zk_t (by rw [lq_lt, Int64.lt_iff_toInt_lt, e4, Int32.toInt_toInt64, hs1]; omega) k
            have eat : (x2 + (4 : Int32) * x6).toInt = x2.toInt + 4 * x6.toInt := by
              rw [i32_a (by omega) (by omega), e46]
            have ev3 : v.toInt32 = x2 + (4 : Int32) * x6 := i64_n (by rw [hv, eat])
            replace h := zk_o6 h
            obtain ⟨r, w1, w2, w3, w4, w5, a1, h⟩ := h
            obtain ⟨q, hq, hr⟩ := sf_shoe (x2 := x2 + (4 : Int32) * x6) (by omega) hsz a1
            replace k := zk_lt k
            obtain ⟨v20, e20, k⟩ := k
            rw [ev3] at e20
            subst e20
            replace k := zk_gd k
            obtain ⟨_, k⟩ := k
            replace k := zk_gd k
            obtain ⟨_, k⟩ := k
            replace k := zk_gd k
            obtain ⟨_, k⟩ := k
            replace k := zk_gd k
            obtain ⟨_, k⟩ := k
            replace k := zk_o6 k
            obtain ⟨r2, y1, y2, y3, y4, y5, a2, k⟩ := k
            have i0 : mod_elements ((60 : Int32) * x1 + (x2 + (4 : Int32) * x6)).toNatClampNeg = pl_elements (x2 + (4 : Int32) * x6).toNatClampNeg := by
              rw [ix60 hx5 (by omega), he _ (by rw [tcn]; omega)]
            have ii : ∀ (d : Int32) (n : Nat), d.toInt = (n : Int) → n < 4 → mod_elements (((60 : Int32) * x1 + (x2 + (4 : Int32) * x6)) + d).toNatClampNeg = pl_elements ((x2 + (4 : Int32) * x6) + d).toNatClampNeg := by
              intro d n hd hn
              have ed : ((x2 + (4 : Int32) * x6) + d).toInt = x2.toInt + 4 * x6.toInt + d.toInt := by rw [i32_a (by omega) (by omega), eat]
              rw [ix603 hx5 (by omega) (by omega), ← he _ (by rw [tcn]; omega)]
              congr 1
              rw [tcn, tcn, ed]
              omega
            rw [i0, ii 1 1 (by decide) (by omega), ii 2 2 (by decide) (by omega), ii 3 3 (by decide) (by omega)] at a2
            obtain ⟨p1, p2, p9, p3, p4, p5, p6, p7, p8⟩ := pw_shoe hc hq a2
            dsimp only at p1 p2 p9 p3 p4 p5 p6 p7 p8 hr
            subst p1
            subst p2
            rcases hr with ⟨hr1, hr2⟩ | ⟨hr1, hr2⟩
            · replace h := Option.some.inj (zk_t hr1 h)
              replace k := Option.some.inj (zk_f (by rw [i32_le, z32_0]; omega) k)
              subst h
              subst k
              exact ⟨rfl, rfl, p9, p3, p4, p5, p6⟩
            · replace h := zk_f (by rw [hr1]; decide) h
              replace k := zk_t (by rw [i32_le, z32_0]; omega) k
              replace h := zk_lt h
              obtain ⟨g1, e5, h⟩ := h
              replace k := zk_lt k
              obtain ⟨g2, e6, k⟩ := k
              subst e5
              subst e6
              have s3 := i32_s (a := x6) (by omega)
              obtain ⟨t1, t2, t9, t3, t4, t5, t6⟩ := ih M _ _ _ _ _ _ _ _ _ _ R Q (by omega) (by omega) (by omega) ⟨p7, p8⟩ h k
              exact ⟨t1, t2, by omega, fun e => t3 (p3 e), fun e => t4 (p4 e), fun e => t5 (p5 e), fun e => t6 (p6 e)⟩
set_option maxHeartbeats 4000000 in
set_option maxRecDepth 20000 in
theorem pw_shoes {mod_code : Int32} {court_shoeCount : Int32} {mod_claims : Int32} {ts : Int32} {at_ : Int32} {f : Int32} {court_suitCount : Int32} {mod_doneMany : Int32} {mod_undoneMany : Int32} {mod_open : Int32} {mod_laid : Int32} {mod_isBoth : Int32} {mod_wished : Int32} {mod_bestMany : Int32} {mod_bestRow : Int32} {mod_ringDigits : Int32} {mod_traces : Int32} {mod_wearer : Nat → Int32} {mod_wornFor : Nat → Int32} {mod_shoeSort : Nat → Int32} {mod_shoeDay : Nat → Int32} {mod_holds : Nat → Int32} {mod_size : Nat → Int32} {mod_elements : Nat → Int64} {court_claimCount : Int32} {court_shoePerson : Nat → Int32} {court_shoeOther : Nat → Int32} {court_shoeSort : Nat → Int32} {court_shoeDay : Nat → Int32} {pl_suit : Int32} {pl_holds : Int32} {pl_size : Int32} {pl_elements : Nat → Int64} {root_places : Nat → Option Nat} {n m : Nat} {x1 x2 x3 : Int32} (hc : 0 ≤ court_shoeCount.toInt ∧ court_shoeCount.toInt ≤ 40) {j h_pl : Nat} (hj : (¬ x1 < 0 ∧ ¬ 6 ≤ x1) → x1.toNatClampNeg = j) (hP : PLR court_suitCount j pl_holds pl_suit pl_size pl_elements mod_holds mod_size mod_elements) {R : Int32 × Int32 × (Nat → Int32) × (Nat → Int32) × (Nat → Int32) × (Nat → Int32)} {Q : Int32 × Int32 × (Nat → Int32) × (Nat → Int32) × (Nat → Int32) × (Nat → Int32)} (h : f_X11_shoes h_pl n x1 x2 x3 root_places court_shoeCount court_claimCount court_suitCount court_shoePerson court_shoeOther court_shoeSort court_shoeDay pl_holds pl_suit pl_size pl_elements = some R) (k : f_X12_shoes m x1 x2 x3 mod_code court_shoeCount mod_claims ts at_ f court_suitCount mod_doneMany mod_undoneMany mod_open mod_laid mod_isBoth mod_wished mod_bestMany mod_bestRow mod_ringDigits mod_traces mod_wearer mod_wornFor mod_shoeSort mod_shoeDay mod_holds mod_size mod_elements = some Q) : R.1 = Q.1 ∧ R.2.1 = Q.2.1 ∧ court_shoeCount.toInt ≤ R.2.1.toInt ∧ (court_shoePerson = mod_wearer → R.2.2.1 = Q.2.2.1) ∧ (court_shoeOther = mod_wornFor → R.2.2.2.1 = Q.2.2.2.1) ∧ (court_shoeSort = mod_shoeSort → R.2.2.2.2.1 = Q.2.2.2.2.1) ∧ (court_shoeDay = mod_shoeDay → R.2.2.2.2.2 = Q.2.2.2.2.2) := by
  unfold f_X11_shoes at h
  unfold f_X12_shoes at k
  unfold B_X11_shoes_0 at h
  replace h := zk_o2 h
  obtain ⟨cv1, cv2, ch3, h⟩ := h
  unfold f_X11_placeAt at ch3
  unfold B_X11_placeAt_0 at ch3
  by_cases cc4 : x1 < 0
  · have ch3 := zk_t cc4 ch3
    have cc4n := cc4
    (try simp only [i32_lt, i32_le, i32_e, z32_0, z32_1] at cc4n)
    first
    | (exfalso; omega)
    | simp only [Option.some.injEq, Prod.mk.injEq] at ch3
      obtain ⟨rfl, _⟩ := ch3
      replace h := zk_f (by decide) h
      unfold B_X12_shoes_0 at k
      replace k := zk_o2 k
      obtain ⟨mv1, mv2, mh3, k⟩ := k
      unfold f_X12_isShelf at mh3
      unfold B_X12_isShelf_0 at mh3
      obtain ⟨mv4, mv5, mh6, mh3⟩ := zk_o2 mh3
      unfold f_X12_in at mh6
      unfold B_X12_in_0 at mh6
      have mh6 := zk_t cc4 mh6
      simp only [Option.some.injEq, Prod.mk.injEq] at mh6
      obtain ⟨rfl, _⟩ := mh6
      obtain ⟨_, mh3⟩ := zk_gd mh3
      simp only [Option.some.injEq, Prod.mk.injEq] at mh3
      obtain ⟨rfl, _⟩ := mh3
      replace k := zk_t rfl k
      replace h := Option.some.inj h
      replace k := Option.some.inj k
      subst h
      subst k
      try dsimp only
      all_goals first
      | exact ⟨rfl, rfl, Int.le_refl _, fun e => e, fun e => e, fun e => e, fun e => e⟩
      | (exfalso; omega)
  · have ch3 := zk_f cc4 ch3
    have cc4n := cc4
    (try simp only [i32_lt, i32_le, i32_e, z32_0, z32_1] at cc4n)
    first
    | (exfalso; omega)
    | by_cases cc5 : (6 : Int32) ≤ x1
      · have ch3 := zk_t cc5 ch3
        have cc5n := cc5
        (try simp only [i32_lt, i32_le, i32_e, z32_0, z32_1, z32L_6] at cc5n)
        first
        | (exfalso; omega)
        | simp only [Option.some.injEq, Prod.mk.injEq] at ch3
          obtain ⟨rfl, _⟩ := ch3
          replace h := zk_f (by decide) h
          unfold B_X12_shoes_0 at k
          replace k := zk_o2 k
          obtain ⟨mv7, mv8, mh9, k⟩ := k
          unfold f_X12_isShelf at mh9
          unfold B_X12_isShelf_0 at mh9
          obtain ⟨mv10, mv11, mh12, mh9⟩ := zk_o2 mh9
          unfold f_X12_in at mh12
          unfold B_X12_in_0 at mh12
          have mh12 := zk_f cc4 mh12
          have mh12 := zk_t (by (try simp only [i32_lt, i32_le, i32_e, z32_0, z32_1, z32L_5]); omega) mh12
          simp only [Option.some.injEq, Prod.mk.injEq] at mh12
          obtain ⟨rfl, _⟩ := mh12
          obtain ⟨_, mh9⟩ := zk_gd mh9
          simp only [Option.some.injEq, Prod.mk.injEq] at mh9
          obtain ⟨rfl, _⟩ := mh9
          replace k := zk_t rfl k
          replace h := Option.some.inj h
          replace k := Option.some.inj k
          subst h
          subst k
          try dsimp only
          all_goals first
          | exact ⟨rfl, rfl, Int.le_refl _, fun e => e, fun e => e, fun e => e, fun e => e⟩
          | (exfalso; omega)
      · have ch3 := zk_f cc5 ch3
        have cc5n := cc5
        (try simp only [i32_lt, i32_le, i32_e, z32_0, z32_1, z32L_6] at cc5n)
        first
        | (exfalso; omega)
        | obtain ⟨_, ch3⟩ := zk_gd ch3
          obtain ⟨_, ch3⟩ := zk_gd ch3
          simp only [Option.some.injEq, Prod.mk.injEq] at ch3
          obtain ⟨rfl, _⟩ := ch3
          replace h := zk_t (by decide) h
          by_cases cc6 : x3 < (1 : Int32)
          · replace h := zk_t cc6 h
            have cc6n := cc6
            (try simp only [i32_lt, i32_le, i32_e, z32_0, z32_1] at cc6n)
            first
            | (exfalso; omega)
            | have hjj := hj ⟨cc4, cc5⟩
              subst hjj
              obtain ⟨⟨hs1, hs2, hs3⟩, he, hd⟩ := id hP
              have hx5 : 0 ≤ x1.toInt ∧ x1.toInt ≤ 5 := by
                have q1 := cc4
                have q2 := cc5
                rw [i32_lt, z32_0] at q1
                rw [i32_le, z32L_6] at q2
                omega
              unfold B_X12_shoes_0 at k
              replace k := zk_o2 k
              obtain ⟨mv13, mv14, mh15, k⟩ := k
              unfold f_X12_isShelf at mh15
              unfold B_X12_isShelf_0 at mh15
              obtain ⟨mv16, mv17, mh18, mh15⟩ := zk_o2 mh15
              unfold f_X12_in at mh18
              unfold B_X12_in_0 at mh18
              have mh18 := zk_f cc4 mh18
              have mh18 := zk_f (by (try simp only [i32_lt, i32_le, i32_e, z32_0, z32_1, z32L_5]); omega) mh18
              simp only [Option.some.injEq, Prod.mk.injEq] at mh18
              obtain ⟨rfl, _⟩ := mh18
              obtain ⟨_, mh15⟩ := zk_gd mh15
              simp only [Option.some.injEq, Prod.mk.injEq] at mh15
              obtain ⟨rfl, _⟩ := mh15
              replace k := zk_f (by decide) k
              replace k := zk_o2 k
              obtain ⟨mv19, mv20, mh21, k⟩ := k
              unfold f_X12_in at mh21
              unfold B_X12_in_0 at mh21
              have mh21 := zk_t cc6 mh21
              simp only [Option.some.injEq, Prod.mk.injEq] at mh21
              obtain ⟨rfl, _⟩ := mh21
              replace k := zk_t rfl k
              replace h := Option.some.inj h
              replace k := Option.some.inj k
              subst h
              subst k
              try dsimp only
              all_goals first
              | exact ⟨rfl, rfl, Int.le_refl _, fun e => e, fun e => e, fun e => e, fun e => e⟩
              | (exfalso; omega)
          · replace h := zk_f cc6 h
            have cc6n := cc6
            (try simp only [i32_lt, i32_le, i32_e, z32_0, z32_1] at cc6n)
            first
            | (exfalso; omega)
            | by_cases cc7 : x3 ≤ (15 : Int32)
              · replace h := zk_t cc7 h
                have cc7n := cc7
                (try simp only [i32_lt, i32_le, i32_e, z32_0, z32_1, z32L_15] at cc7n)
                first
                | (exfalso; omega)
                | by_cases cc8 : pl_holds = (-1 : Int32)
                  · replace h := zk_t cc8 h
                    have cc8n := cc8
                    (try simp only [i32_lt, i32_le, i32_e, z32_0, z32_1, z32N_1] at cc8n)
                    first
                    | (exfalso; omega)
                    | unfold B_X11_shoes_46 at h
                      replace h := zk_f (by (try simp only [i32_lt, i32_le, i32_e, z32_0, z32_1]); omega) h
                      unfold B_X11_shoes_64 at h
                      have hjj := hj ⟨cc4, cc5⟩
                      subst hjj
                      obtain ⟨⟨hs1, hs2, hs3⟩, he, hd⟩ := id hP
                      have hx5 : 0 ≤ x1.toInt ∧ x1.toInt ≤ 5 := by
                        have q1 := cc4
                        have q2 := cc5
                        rw [i32_lt, z32_0] at q1
                        rw [i32_le, z32L_6] at q2
                        omega
                      unfold B_X12_shoes_0 at k
                      replace k := zk_o2 k
                      obtain ⟨mv22, mv23, mh24, k⟩ := k
                      unfold f_X12_isShelf at mh24
                      unfold B_X12_isShelf_0 at mh24
                      obtain ⟨mv25, mv26, mh27, mh24⟩ := zk_o2 mh24
                      unfold f_X12_in at mh27
                      unfold B_X12_in_0 at mh27
                      have mh27 := zk_f cc4 mh27
                      have mh27 := zk_f (by (try simp only [i32_lt, i32_le, i32_e, z32_0, z32_1, z32L_5]); omega) mh27
                      simp only [Option.some.injEq, Prod.mk.injEq] at mh27
                      obtain ⟨rfl, _⟩ := mh27
                      obtain ⟨_, mh24⟩ := zk_gd mh24
                      simp only [Option.some.injEq, Prod.mk.injEq] at mh24
                      obtain ⟨rfl, _⟩ := mh24
                      replace k := zk_f (by decide) k
                      replace k := zk_o2 k
                      obtain ⟨mv28, mv29, mh30, k⟩ := k
                      unfold f_X12_in at mh30
                      unfold B_X12_in_0 at mh30
                      have mh30 := zk_f cc6 mh30
                      have mh30 := zk_f (by (try simp only [i32_lt, i32_le, i32_e, z32_0, z32_1, z32L_15]); omega) mh30
                      simp only [Option.some.injEq, Prod.mk.injEq] at mh30
                      obtain ⟨rfl, _⟩ := mh30
                      replace k := zk_f (by decide) k
                      replace k := zk_gd k
                      obtain ⟨_, k⟩ := k
                      by_cases mc31 : (mod_holds x1.toNatClampNeg) = (-1 : Int32)
                      · replace k := zk_t mc31 k
                        have mc31n := mc31
                        (try simp only [i32_lt, i32_le, i32_e, z32_0, z32_1, z32N_1] at mc31n)
                        first
                        | (exfalso; omega)
                        | unfold B_X12_shoes_43 at k
                          replace k := zk_gd k
                          obtain ⟨_, k⟩ := k
                          replace k := zk_t mc31 k
                          first
                          | (exfalso; omega)
                          | (have h := so_zero rfl rfl (by omega) h
                             replace k := Option.some.inj k
                             subst h
                             subst k
                             exact ⟨rfl, rfl, Int.le_refl _, fun e => e, fun e => e, fun e => e, fun e => e⟩)
                      · replace k := zk_f mc31 k
                        have mc31n := mc31
                        (try simp only [i32_lt, i32_le, i32_e, z32_0, z32_1, z32N_1] at mc31n)
                        first
                        | (exfalso; omega)
                        | obtain ⟨_, k⟩ := zk_gd k
                          by_cases mc32 : (mod_holds x1.toNatClampNeg) = (-3 : Int32)
                          · replace k := zk_t mc32 k
                            have mc32n := mc32
                            (try simp only [i32_lt, i32_le, i32_e, z32_0, z32_1, z32N_3, z32L_3] at mc32n)
                            first
                            | (exfalso; omega)
                            | unfold B_X12_shoes_43 at k
                              replace k := zk_gd k
                              obtain ⟨_, k⟩ := k
                              replace k := zk_f mc31 k
                              first
                              | (exfalso; omega)
                              | exact so_loop hx5 (by omega) hs1 ⟨hs2, hs3⟩ he _ _ _ _ _ _ _ _ _ _ _ _ R Q (by decide) (by rw [z32_0]; omega) (Or.inl z32_0) hc h k
                          · replace k := zk_f mc32 k
                            have mc32n := mc32
                            (try simp only [i32_lt, i32_le, i32_e, z32_0, z32_1, z32N_3, z32L_3] at mc32n)
                            first
                            | (exfalso; omega)
                            | first
                              | (exfalso; omega)
                              | (have h := so_zero rfl rfl (by omega) h
                                 replace k := Option.some.inj k
                                 subst h
                                 subst k
                                 exact ⟨rfl, rfl, Int.le_refl _, fun e => e, fun e => e, fun e => e, fun e => e⟩)
                  · replace h := zk_f cc8 h
                    have cc8n := cc8
                    (try simp only [i32_lt, i32_le, i32_e, z32_0, z32_1, z32N_1] at cc8n)
                    first
                    | (exfalso; omega)
                    | by_cases cc9 : pl_holds = (1 : Int32)
                      · replace h := zk_t cc9 h
                        have cc9n := cc9
                        (try simp only [i32_lt, i32_le, i32_e, z32_0, z32_1] at cc9n)
                        first
                        | (exfalso; omega)
                        | unfold B_X11_shoes_46 at h
                          replace h := zk_t cc9 h
                          unfold B_X11_shoes_64 at h
                          have hjj := hj ⟨cc4, cc5⟩
                          subst hjj
                          obtain ⟨⟨hs1, hs2, hs3⟩, he, hd⟩ := id hP
                          have hx5 : 0 ≤ x1.toInt ∧ x1.toInt ≤ 5 := by
                            have q1 := cc4
                            have q2 := cc5
                            rw [i32_lt, z32_0] at q1
                            rw [i32_le, z32L_6] at q2
                            omega
                          unfold B_X12_shoes_0 at k
                          replace k := zk_o2 k
                          obtain ⟨mv33, mv34, mh35, k⟩ := k
                          unfold f_X12_isShelf at mh35
                          unfold B_X12_isShelf_0 at mh35
                          obtain ⟨mv36, mv37, mh38, mh35⟩ := zk_o2 mh35
                          unfold f_X12_in at mh38
                          unfold B_X12_in_0 at mh38
                          have mh38 := zk_f cc4 mh38
                          have mh38 := zk_f (by (try simp only [i32_lt, i32_le, i32_e, z32_0, z32_1, z32L_5]); omega) mh38
                          simp only [Option.some.injEq, Prod.mk.injEq] at mh38
                          obtain ⟨rfl, _⟩ := mh38
                          obtain ⟨_, mh35⟩ := zk_gd mh35
                          simp only [Option.some.injEq, Prod.mk.injEq] at mh35
                          obtain ⟨rfl, _⟩ := mh35
                          replace k := zk_f (by decide) k
                          replace k := zk_o2 k
                          obtain ⟨mv39, mv40, mh41, k⟩ := k
                          unfold f_X12_in at mh41
                          unfold B_X12_in_0 at mh41
                          have mh41 := zk_f cc6 mh41
                          have mh41 := zk_f (by (try simp only [i32_lt, i32_le, i32_e, z32_0, z32_1, z32L_15]); omega) mh41
                          simp only [Option.some.injEq, Prod.mk.injEq] at mh41
                          obtain ⟨rfl, _⟩ := mh41
                          replace k := zk_f (by decide) k
                          replace k := zk_gd k
                          obtain ⟨_, k⟩ := k
                          by_cases mc42 : (mod_holds x1.toNatClampNeg) = (-1 : Int32)
                          · replace k := zk_t mc42 k
                            have mc42n := mc42
                            (try simp only [i32_lt, i32_le, i32_e, z32_0, z32_1, z32N_1] at mc42n)
                            first
                            | (exfalso; omega)
                            | unfold B_X12_shoes_43 at k
                              replace k := zk_gd k
                              obtain ⟨_, k⟩ := k
                              replace k := zk_t mc42 k
                              first
                              | (exfalso; omega)
                              | (have h := so_zero rfl rfl (by omega) h
                                 replace k := Option.some.inj k
                                 subst h
                                 subst k
                                 exact ⟨rfl, rfl, Int.le_refl _, fun e => e, fun e => e, fun e => e, fun e => e⟩)
                          · replace k := zk_f mc42 k
                            have mc42n := mc42
                            (try simp only [i32_lt, i32_le, i32_e, z32_0, z32_1, z32N_1] at mc42n)
                            first
                            | (exfalso; omega)
                            | obtain ⟨_, k⟩ := zk_gd k
                              by_cases mc43 : (mod_holds x1.toNatClampNeg) = (-3 : Int32)
                              · replace k := zk_t mc43 k
                                have mc43n := mc43
                                (try simp only [i32_lt, i32_le, i32_e, z32_0, z32_1, z32N_3, z32L_3] at mc43n)
                                first
                                | (exfalso; omega)
                                | unfold B_X12_shoes_43 at k
                                  replace k := zk_gd k
                                  obtain ⟨_, k⟩ := k
                                  replace k := zk_f mc42 k
                                  first
                                  | (exfalso; omega)
                                  | exact so_loop hx5 (by omega) hs1 ⟨hs2, hs3⟩ he _ _ _ _ _ _ _ _ _ _ _ _ R Q (by decide) (by rw [z32_0]; omega) (Or.inl z32_0) hc h k
                              · replace k := zk_f mc43 k
                                have mc43n := mc43
                                (try simp only [i32_lt, i32_le, i32_e, z32_0, z32_1, z32N_3, z32L_3] at mc43n)
                                first
                                | (exfalso; omega)
                                | first
                                  | (exfalso; omega)
                                  | (have h := so_zero rfl rfl (by omega) h
                                     replace k := Option.some.inj k
                                     subst h
                                     subst k
                                     exact ⟨rfl, rfl, Int.le_refl _, fun e => e, fun e => e, fun e => e, fun e => e⟩)
                      · replace h := zk_f cc9 h
                        have cc9n := cc9
                        (try simp only [i32_lt, i32_le, i32_e, z32_0, z32_1] at cc9n)
                        first
                        | (exfalso; omega)
                        | have hjj := hj ⟨cc4, cc5⟩
                          subst hjj
                          obtain ⟨⟨hs1, hs2, hs3⟩, he, hd⟩ := id hP
                          have hx5 : 0 ≤ x1.toInt ∧ x1.toInt ≤ 5 := by
                            have q1 := cc4
                            have q2 := cc5
                            rw [i32_lt, z32_0] at q1
                            rw [i32_le, z32L_6] at q2
                            omega
                          unfold B_X12_shoes_0 at k
                          replace k := zk_o2 k
                          obtain ⟨mv44, mv45, mh46, k⟩ := k
                          unfold f_X12_isShelf at mh46
                          unfold B_X12_isShelf_0 at mh46
                          obtain ⟨mv47, mv48, mh49, mh46⟩ := zk_o2 mh46
                          unfold f_X12_in at mh49
                          unfold B_X12_in_0 at mh49
                          have mh49 := zk_f cc4 mh49
                          have mh49 := zk_f (by (try simp only [i32_lt, i32_le, i32_e, z32_0, z32_1, z32L_5]); omega) mh49
                          simp only [Option.some.injEq, Prod.mk.injEq] at mh49
                          obtain ⟨rfl, _⟩ := mh49
                          obtain ⟨_, mh46⟩ := zk_gd mh46
                          simp only [Option.some.injEq, Prod.mk.injEq] at mh46
                          obtain ⟨rfl, _⟩ := mh46
                          replace k := zk_f (by decide) k
                          replace k := zk_o2 k
                          obtain ⟨mv50, mv51, mh52, k⟩ := k
                          unfold f_X12_in at mh52
                          unfold B_X12_in_0 at mh52
                          have mh52 := zk_f cc6 mh52
                          have mh52 := zk_f (by (try simp only [i32_lt, i32_le, i32_e, z32_0, z32_1, z32L_15]); omega) mh52
                          simp only [Option.some.injEq, Prod.mk.injEq] at mh52
                          obtain ⟨rfl, _⟩ := mh52
                          replace k := zk_f (by decide) k
                          replace k := zk_gd k
                          obtain ⟨_, k⟩ := k
                          by_cases mc53 : (mod_holds x1.toNatClampNeg) = (-1 : Int32)
                          · replace k := zk_t mc53 k
                            have mc53n := mc53
                            (try simp only [i32_lt, i32_le, i32_e, z32_0, z32_1, z32N_1] at mc53n)
                            first
                            | (exfalso; omega)
                            | unfold B_X12_shoes_43 at k
                              replace k := zk_gd k
                              obtain ⟨_, k⟩ := k
                              replace k := zk_t mc53 k
                              replace h := Option.some.inj h
                              replace k := Option.some.inj k
                              subst h
                              subst k
                              try dsimp only
                              all_goals first
                              | exact ⟨rfl, rfl, Int.le_refl _, fun e => e, fun e => e, fun e => e, fun e => e⟩
                              | (exfalso; omega)
                          · replace k := zk_f mc53 k
                            have mc53n := mc53
                            (try simp only [i32_lt, i32_le, i32_e, z32_0, z32_1, z32N_1] at mc53n)
                            first
                            | (exfalso; omega)
                            | obtain ⟨_, k⟩ := zk_gd k
                              by_cases mc54 : (mod_holds x1.toNatClampNeg) = (-3 : Int32)
                              · replace k := zk_t mc54 k
                                have mc54n := mc54
                                (try simp only [i32_lt, i32_le, i32_e, z32_0, z32_1, z32N_3, z32L_3] at mc54n)
                                first
                                | (exfalso; omega)
                                | unfold B_X12_shoes_43 at k
                                  replace k := zk_gd k
                                  obtain ⟨_, k⟩ := k
                                  replace k := zk_f mc53 k
                                  exfalso
                                  omega
                              · replace k := zk_f mc54 k
                                have mc54n := mc54
                                (try simp only [i32_lt, i32_le, i32_e, z32_0, z32_1, z32N_3, z32L_3] at mc54n)
                                first
                                | (exfalso; omega)
                                | have h := Option.some.inj h
                                  replace k := Option.some.inj k
                                  subst h
                                  subst k
                                  try dsimp only
                                  all_goals first
                                  | exact ⟨rfl, rfl, Int.le_refl _, fun e => e, fun e => e, fun e => e, fun e => e⟩
                                  | (exfalso; omega)
              · replace h := zk_f cc7 h
                have cc7n := cc7
                (try simp only [i32_lt, i32_le, i32_e, z32_0, z32_1, z32L_15] at cc7n)
                first
                | (exfalso; omega)
                | have hjj := hj ⟨cc4, cc5⟩
                  subst hjj
                  obtain ⟨⟨hs1, hs2, hs3⟩, he, hd⟩ := id hP
                  have hx5 : 0 ≤ x1.toInt ∧ x1.toInt ≤ 5 := by
                    have q1 := cc4
                    have q2 := cc5
                    rw [i32_lt, z32_0] at q1
                    rw [i32_le, z32L_6] at q2
                    omega
                  unfold B_X12_shoes_0 at k
                  replace k := zk_o2 k
                  obtain ⟨mv55, mv56, mh57, k⟩ := k
                  unfold f_X12_isShelf at mh57
                  unfold B_X12_isShelf_0 at mh57
                  obtain ⟨mv58, mv59, mh60, mh57⟩ := zk_o2 mh57
                  unfold f_X12_in at mh60
                  unfold B_X12_in_0 at mh60
                  have mh60 := zk_f cc4 mh60
                  have mh60 := zk_f (by (try simp only [i32_lt, i32_le, i32_e, z32_0, z32_1, z32L_5]); omega) mh60
                  simp only [Option.some.injEq, Prod.mk.injEq] at mh60
                  obtain ⟨rfl, _⟩ := mh60
                  obtain ⟨_, mh57⟩ := zk_gd mh57
                  simp only [Option.some.injEq, Prod.mk.injEq] at mh57
                  obtain ⟨rfl, _⟩ := mh57
                  replace k := zk_f (by decide) k
                  replace k := zk_o2 k
                  obtain ⟨mv61, mv62, mh63, k⟩ := k
                  unfold f_X12_in at mh63
                  unfold B_X12_in_0 at mh63
                  have mh63 := zk_f cc6 mh63
                  have mh63 := zk_t (by (try simp only [i32_lt, i32_le, i32_e, z32_0, z32_1, z32L_15]); omega) mh63
                  simp only [Option.some.injEq, Prod.mk.injEq] at mh63
                  obtain ⟨rfl, _⟩ := mh63
                  replace k := zk_t rfl k
                  replace h := Option.some.inj h
                  replace k := Option.some.inj k
                  subst h
                  subst k
                  try dsimp only
                  all_goals first
                  | exact ⟨rfl, rfl, Int.le_refl _, fun e => e, fun e => e, fun e => e, fun e => e⟩
                  | (exfalso; omega)

theorem CI_00 {x1 : Int32} {am ma as : Nat → Int32} (h : am x1.toInt.toNat = 0) : CI x1 0 am ma as 0 := by
  refine ⟨by decide, h, fun k hk => ?_, fun k hk => ?_, fun v hv => ?_, fun j k hj hk e => ?_⟩
  · exact absurd hk (by rw [z32_0]; exact Nat.not_lt_zero k)
  · exact absurd hk (by rw [z32_0]; exact Nat.not_lt_zero k)
  · rw [bt_z]
    constructor
    · intro z; cases z
    · rintro ⟨k, hk, _⟩
      exact absurd hk (by rw [z32_0]; exact Nat.not_lt_zero k)
  · exact absurd hj (by rw [z32_0]; exact Nat.not_lt_zero j)
theorem PI_0 {x1 : Int32} {pi : Nat → Int32} (h : ∀ p, p < 32 → pi (32 * x1.toInt.toNat + p) = 0) : PI x1 0 0 0 0 pi := by
  intro p hp
  rw [h p hp]
  unfold PV
  simp only [bt_z]
  decide
theorem nar0 : vp_nar .byte 0 = 0 := by decide
set_option maxHeartbeats 4000000 in
set_option maxRecDepth 20000 in
theorem ps_loop {mod_code : Int32} {court_shoeCount : Int32} {mod_claims : Int32} {ts : Int32} {at_ : Int32} {f : Int32} {court_suitCount : Int32} {mod_doneMany : Int32} {mod_undoneMany : Int32} {mod_open : Int32} {mod_laid : Int32} {mod_isBoth : Int32} {mod_wished : Int32} {mod_bestMany : Int32} {mod_bestRow : Int32} {mod_ringDigits : Int32} {mod_traces : Int32} {tm : Nat → Int32} {mod_askedMany : Nat → Int32} {mod_asked : Nat → Int32} {mod_endKind : Nat → Int32} {mod_isWon : Nat → Int32} {mod_firstMany : Nat → Int32} {mod_suedBy : Nat → Int32} {mod_suedOn : Nat → Int32} {mod_suitDay : Nat → Int32} {mod_suitLand : Nat → Int32} {mod_undoneFrom : Nat → Int32} (hn : 0 ≤ court_suitCount.toInt ∧ court_suitCount.toInt ≤ 44) : ∀ (N : Nat) (x1 : Int32) (mod_pointIs : Nat → Int32) (Q : Int32 × Int32 × Int32 × Int32 × Int32 × (Nat → Int32) × (Nat → Int32) × (Nat → Int32) × (Nat → Int32) × (Nat → Int32) × (Nat → Int32) × (Nat → Int32) × (Nat → Int32) × (Nat → Int32) × (Nat → Int32) × (Nat → Int32)), 0 ≤ x1.toInt → x1.toInt ≤ 32 → G_X12_suit mod_code court_shoeCount mod_claims mod_doneMany mod_undoneMany mod_open mod_laid mod_isBoth mod_wished mod_bestMany mod_bestRow mod_ringDigits mod_traces tm N x1 ts at_ f court_suitCount mod_suedBy mod_suedOn mod_endKind mod_isWon mod_suitDay mod_suitLand mod_undoneFrom mod_askedMany mod_firstMany mod_asked mod_pointIs = some Q → ∃ (pi2 : Nat → Int32) (U : Int32 × Int32 × (Nat → Int32) × (Nat → Int32) × (Nat → Int32) × (Nat → Int32) × (Nat → Int32) × (Nat → Int32) × (Nat → Int32) × (Nat → Int32) × (Nat → Int32) × (Nat → Int32)), (∀ p, x1.toInt.toNat ≤ p → p < 32 → pi2 (32 * court_suitCount.toInt.toNat + p) = 0) ∧ (∀ j, (j < 32 * court_suitCount.toInt.toNat + x1.toInt.toNat ∨ 32 * court_suitCount.toInt.toNat + 32 ≤ j) → pi2 j = mod_pointIs j) ∧ f_X12_readSuit 100000 court_suitCount mod_code court_shoeCount mod_claims ts at_ f court_suitCount mod_doneMany mod_undoneMany mod_open mod_laid mod_isBoth mod_wished mod_bestMany mod_bestRow mod_ringDigits mod_traces tm mod_suedBy mod_suedOn mod_endKind mod_isWon mod_suitDay mod_suitLand mod_askedMany mod_firstMany mod_asked pi2 = some U ∧ ((U.2.1.toInt < 0 ∧ Q = (court_suitCount + 1 - 1, 0, U.1, U.2.1, court_suitCount + 1, U.2.2.1, U.2.2.2.1, U.2.2.2.2.1, U.2.2.2.2.2.1, U.2.2.2.2.2.2.1, U.2.2.2.2.2.2.2.1, mod_undoneFrom, U.2.2.2.2.2.2.2.2.1, U.2.2.2.2.2.2.2.2.2.1, U.2.2.2.2.2.2.2.2.2.2.1, U.2.2.2.2.2.2.2.2.2.2.2)) ∨ (0 ≤ U.2.1.toInt ∧ Q = ((-100 : Int32) - U.2.1, 0, U.1, U.2.1, court_suitCount, U.2.2.1, U.2.2.2.1, U.2.2.2.2.1, U.2.2.2.2.2.1, U.2.2.2.2.2.2.1, U.2.2.2.2.2.2.2.1, mod_undoneFrom, U.2.2.2.2.2.2.2.2.1, U.2.2.2.2.2.2.2.2.2.1, U.2.2.2.2.2.2.2.2.2.2.1, U.2.2.2.2.2.2.2.2.2.2.2))) := by
  intro N
  induction N with
  | zero =>
    intro x1 mod_pointIs Q _ _ h
    cases h
  | succ N ih =>
    intro x1 mod_pointIs Q h0 h1 h
    replace h : B_X12_suit_44 (G_X12_suit mod_code court_shoeCount mod_claims mod_doneMany mod_undoneMany mod_open mod_laid mod_isBoth mod_wished mod_bestMany mod_bestRow mod_ringDigits mod_traces tm N) mod_code court_shoeCount mod_claims mod_doneMany mod_undoneMany mod_open mod_laid mod_isBoth mod_wished mod_bestMany mod_bestRow mod_ringDigits mod_traces tm x1 ts at_ f court_suitCount mod_suedBy mod_suedOn mod_endKind mod_isWon mod_suitDay mod_suitLand mod_undoneFrom mod_askedMany mod_firstMany mod_asked mod_pointIs = some Q := h
    unfold B_X12_suit_44 at h
    by_cases c : (32 : Int32) ≤ x1
    · replace h := zk_t c h
      rw [i32_le, z32L_32] at c
      replace h := zk_o12 h
      obtain ⟨u7, u8, u9, u10, u11, u12, u13, u14, u15, u16, u17, u18, a1, h⟩ := h
      refine ⟨mod_pointIs, (u7, u8, u9, u10, u11, u12, u13, u14, u15, u16, u17, u18), fun p k1 k2 => by exfalso; omega, fun j _ => rfl, a1, ?_⟩
      by_cases c2 : u8 < 0
      · replace h := zk_t c2 h
        replace h := zk_lt h
        obtain ⟨v, e, h⟩ := h
        subst e
        rw [i32_lt, z32_0] at c2
        exact Or.inl ⟨c2, (Option.some.inj h).symm⟩
      · replace h := zk_f c2 h
        rw [i32_lt, z32_0] at c2
        exact Or.inr ⟨by show 0 ≤ u8.toInt; omega, (Option.some.inj h).symm⟩
    · replace h := zk_f c h
      rw [i32_le, z32L_32] at c
      replace h := zk_gd h
      obtain ⟨_, h⟩ := h
      replace h := zk_lt h
      obtain ⟨f1, e1, h⟩ := h
      replace h := zk_lt h
      obtain ⟨f2, e2, h⟩ := h
      subst e1
      subst e2
      have s3 := i32_s (a := x1) (by omega)
      obtain ⟨pi2, U, q1, q2, q3, q4⟩ := ih _ _ Q (by omega) (by omega) h
      refine ⟨pi2, U, fun p k1 k2 => ?_, fun j hj => ?_, q3, q4⟩
      · by_cases cp : p = x1.toInt.toNat
        · rw [q2 _ (by omega), ix32 hn (by omega)]
          unfold upd
          rw [if_pos (by omega)]
          exact nar0
        · exact q1 p (by omega) k2
      · rw [q2 j (by omega), ix32 hn (by omega)]
        exact upd_n (by omega)
set_option maxHeartbeats 4000000 in
set_option maxRecDepth 20000 in
theorem pw_suit {mod_code : Int32} {court_shoeCount : Int32} {mod_claims : Int32} {ts : Int32} {at_ : Int32} {f : Int32} {court_suitCount : Int32} {mod_doneMany : Int32} {mod_undoneMany : Int32} {mod_open : Int32} {mod_laid : Int32} {mod_isBoth : Int32} {mod_wished : Int32} {mod_bestMany : Int32} {mod_bestRow : Int32} {mod_ringDigits : Int32} {mod_traces : Int32} {tm : Nat → Int32} {mod_askedMany : Nat → Int32} {mod_asked : Nat → Int32} {mod_pointIs : Nat → Int32} {mod_endKind : Nat → Int32} {mod_isWon : Nat → Int32} {mod_firstMany : Nat → Int32} {mod_suedBy : Nat → Int32} {mod_suedOn : Nat → Int32} {mod_suitDay : Nat → Int32} {mod_suitLand : Nat → Int32} {mod_undoneFrom : Nat → Int32} {tb : Nat → Int32} {su_who : Int32} {su_against : Int32} {su_kind : Int32} {su_won : Int32} {su_day : Int32} {su_land : Int32} {su_undoneFrom : Int32} {su_first : Int32} {su_asked : Nat → Int32} {sp : Value} {na : Int32} {m : Nat} {v0 : Value} {a9 n9 f3 w1 g1 k1 v1 d1 l1 n1 b1 s1 so1 no1 fo1 ne1 : Int32} {as1 : Nat → Int32} {Q : Int32 × Int32 × Int32 × Int32 × Int32 × (Nat → Int32) × (Nat → Int32) × (Nat → Int32) × (Nat → Int32) × (Nat → Int32) × (Nat → Int32) × (Nat → Int32) × (Nat → Int32) × (Nat → Int32) × (Nat → Int32) × (Nat → Int32)} (hT : TS ts) (hR : TR ts tb tm) (hcc : 0 ≤ mod_claims.toInt ∧ mod_claims.toInt ≤ 32) (hn : 0 ≤ court_suitCount.toInt ∧ court_suitCount.toInt < 40) (h : f_X8_read mod_claims ts tb sp 0 na (-1) su_who su_against su_kind su_won su_day su_land su_undoneFrom 0 0 su_first 0 0 0 0 su_asked = some (v0, a9, n9, f3, w1, g1, k1, v1, d1, l1, n1, b1, s1, so1, no1, fo1, ne1, as1)) (k : f_X12_suit m mod_code court_shoeCount mod_claims ts at_ f court_suitCount mod_doneMany mod_undoneMany mod_open mod_laid mod_isBoth mod_wished mod_bestMany mod_bestRow mod_ringDigits mod_traces tm mod_suedBy mod_suedOn mod_endKind mod_isWon mod_suitDay mod_suitLand mod_undoneFrom mod_askedMany mod_firstMany mod_asked mod_pointIs = some Q) : Q.2.1 = 0 ∧ (RFR court_suitCount.toInt.toNat (mod_suedBy, mod_suedOn, mod_endKind, mod_isWon, mod_suitDay, mod_suitLand, mod_askedMany, mod_firstMany, mod_asked, mod_pointIs) (Q.2.2.2.2.2.1, Q.2.2.2.2.2.2.1, Q.2.2.2.2.2.2.2.1, Q.2.2.2.2.2.2.2.2.1, Q.2.2.2.2.2.2.2.2.2.1, Q.2.2.2.2.2.2.2.2.2.2.1, Q.2.2.2.2.2.2.2.2.2.2.2.2.1, Q.2.2.2.2.2.2.2.2.2.2.2.2.2.1, Q.2.2.2.2.2.2.2.2.2.2.2.2.2.2.1, Q.2.2.2.2.2.2.2.2.2.2.2.2.2.2.2) ∧ Q.2.2.2.2.2.2.2.2.2.2.2.1 = upd mod_undoneFrom court_suitCount.toNatClampNeg (-1)) ∧ (f3.toInt < 0 → Q.1 = court_suitCount + 1 - 1 ∧ Q.2.2.2.2.1 = court_suitCount + 1 ∧ f3 = -1 ∧ (0 ≤ w1.toInt ∧ w1.toInt ≤ 19 ∧ 0 ≤ g1.toInt ∧ g1.toInt ≤ 19) ∧ (0 ≤ k1.toInt ∧ k1.toInt ≤ 6) ∧ (0 ≤ v1.toInt ∧ v1.toInt ≤ 1) ∧ (0 ≤ d1.toInt ∧ d1.toInt ≤ 9999 ∧ 0 ≤ l1.toInt ∧ l1.toInt ≤ 7) ∧ ∃ am ma pi fm : Nat → Int32, CI court_suitCount n1 am ma as1 b1 ∧ FR court_suitCount (upd mod_askedMany court_suitCount.toNatClampNeg 0) mod_asked am ma ∧ PI court_suitCount so1 no1 fo1 ne1 pi ∧ FP court_suitCount mod_pointIs pi ∧ ((k1 = 6 → fm = upd (upd mod_firstMany court_suitCount.toNatClampNeg n1) court_suitCount.toNatClampNeg s1) ∧ (k1 ≠ 6 → fm = upd mod_firstMany court_suitCount.toNatClampNeg n1)) ∧ Q.2.2.2.2.2 = (upd mod_suedBy court_suitCount.toNatClampNeg w1, upd mod_suedOn court_suitCount.toNatClampNeg g1, upd mod_endKind court_suitCount.toNatClampNeg k1, upd mod_isWon court_suitCount.toNatClampNeg v1, upd mod_suitDay court_suitCount.toNatClampNeg d1, upd mod_suitLand court_suitCount.toNatClampNeg l1, upd mod_undoneFrom court_suitCount.toNatClampNeg (-1), am, fm, ma, pi)) ∧ (0 ≤ f3.toInt → Q.1 = (-100 : Int32) - f3 ∧ Q.2.2.2.2.1 = court_suitCount) := by
  unfold f_X12_suit B_X12_suit_0 at k
  replace k := zk_f (show ¬ court_suitCount = 40 by rw [i32_e, z32L_40]; omega) k
  replace k := zk_gd k
  obtain ⟨_, k⟩ := k
  replace k := zk_lt k
  obtain ⟨f1, e1, k⟩ := k
  replace k := zk_gd k
  obtain ⟨_, k⟩ := k
  replace k := zk_lt k
  obtain ⟨f2, e2, k⟩ := k
  subst e1
  subst e2
  obtain ⟨pi2, U, q1, q2, q3, q4⟩ := ps_loop ⟨hn.1, by omega⟩ _ _ _ Q (by decide) (by decide) k
  rw [z32_0] at q1 q2
  have hI0 : CI court_suitCount 0 (upd mod_askedMany court_suitCount.toNatClampNeg 0) mod_asked su_asked 0 := CI_00 (by unfold upd; exact if_pos rfl)
  have hP0 : PI court_suitCount 0 0 0 0 pi2 := PI_0 (fun p hp => q1 p (Nat.zero_le _) hp)
  obtain ⟨e1, er, e2⟩ := sim_read hT hR ⟨hn.1, by omega⟩ hcc hI0 hP0 h q3
  have er2 := RFR_rt er (show RFR court_suitCount.toInt.toNat (mod_suedBy, mod_suedOn, mod_endKind, mod_isWon, mod_suitDay, mod_suitLand, mod_askedMany, mod_firstMany, mod_asked, mod_pointIs) _ from ⟨fun _ _ => rfl, fun _ _ => rfl, fun _ _ => rfl, fun _ _ => rfl, fun _ _ => rfl, fun _ _ => rfl, fun j hj => upd_n hj, fun _ _ => rfl, fun _ _ => rfl, fun j hj => q2 j (by omega)⟩)
  rcases q4 with ⟨c, hQ⟩ | ⟨c, hQ⟩
  · rw [e1] at c
    obtain ⟨z1, z2, z3, z4, z5, am, ma, pi, fm, y1, y2, y3, y4, y5, y6⟩ := e2 c
    subst hQ
    refine ⟨rfl, ⟨er2, rfl⟩, fun _ => ⟨rfl, rfl, z1, z2, z3, z4, z5, am, ma, pi, fm, y1, y2, y3, fun j hj => (y4 j hj).trans (q2 j (by omega)), y5, ?_⟩, fun z => by exfalso; omega⟩
    dsimp only
    rw [y6]
  · rw [e1] at c
    subst hQ
    exact ⟨rfl, ⟨er2, rfl⟩, fun z => by exfalso; omega, fun _ => ⟨by dsimp only; rw [e1], rfl⟩⟩
def WU (n : Int32) (a b : Nat → Int32) : Prop := ∀ i, i < n.toInt.toNat → a i = b i
def CV (sz nS nT : Int32) (so nu : Nat → Int32) : Prop := ∀ k, k < sz.toInt.toNat → ((so k).toInt = 0 ∨ (so k).toInt = 1 ∨ (so k).toInt = 2) ∧ ((so k).toInt = 2 → 0 ≤ (nu k).toInt ∧ (nu k).toInt < nS.toInt) ∧ ((so k).toInt ≠ 2 → 0 ≤ (nu k).toInt ∧ (nu k).toInt < nT.toInt)
def SH (x : Nat) (f : Nat → Int32) : Nat → Int32 := fun k => if x - 1 ≤ k ∧ k < 39 then f (k + 1) else f k
theorem WU_u {n v : Int32} {k : Nat} {a b : Nat → Int32} (h : WU n a b) : WU n (upd a k v) (upd b k v) := by
  intro i hi
  unfold upd
  rw [h i hi]
theorem CV_mono {sz nS nT nS2 nT2 : Int32} {so nu : Nat → Int32} (h : CV sz nS nT so nu) (h1 : nS.toInt ≤ nS2.toInt) (h2 : nT.toInt ≤ nT2.toInt) : CV sz nS2 nT2 so nu := by
  intro k hk
  obtain ⟨a, b, c⟩ := h k hk
  exact ⟨a, fun z => by have := b z; omega, fun z => by have := c z; omega⟩
theorem CV_add {sz2 d nS nT x1 x2 : Int32} {so nu so2 nu2 : Nat → Int32} (h : ∀ k, k < d.toInt.toNat → ((so k).toInt = 0 ∨ (so k).toInt = 1 ∨ (so k).toInt = 2) ∧ ((so k).toInt = 2 → 0 ≤ (nu k).toInt ∧ (nu k).toInt < nS.toInt) ∧ ((so k).toInt ≠ 2 → 0 ≤ (nu k).toInt ∧ (nu k).toInt < nT.toInt)) (hs : sz2.toInt = d.toInt + 1) (hd : 0 ≤ d.toInt) (hv : x1.toInt = 0 ∨ x1.toInt = 1 ∨ x1.toInt = 2) (h2 : x1.toInt = 2 → 0 ≤ x2.toInt ∧ x2.toInt < nS.toInt) (h3 : x1.toInt ≠ 2 → 0 ≤ x2.toInt ∧ x2.toInt < nT.toInt) (e1 : so2 = upd so d.toNatClampNeg x1) (e2 : nu2 = upd nu d.toNatClampNeg x2) : CV sz2 nS nT so2 nu2 := by
  intro k hk
  subst e1
  subst e2
  have ed : d.toNatClampNeg = d.toInt.toNat := rfl
  unfold upd
  by_cases c : k = d.toNatClampNeg
  · rw [if_pos c, if_pos c]
    exact ⟨hv, h2, h3⟩
  · rw [if_neg c, if_neg c]
    exact h k (by omega)
set_option maxHeartbeats 4000000 in
set_option maxRecDepth 20000 in
theorem pw_set {mod_code : Int32} {court_shoeCount : Int32} {mod_claims : Int32} {ts : Int32} {at_ : Int32} {f : Int32} {court_suitCount : Int32} {mod_doneMany : Int32} {mod_undoneMany : Int32} {mod_open : Int32} {mod_laid : Int32} {mod_isBoth : Int32} {mod_wished : Int32} {mod_bestMany : Int32} {mod_bestRow : Int32} {mod_ringDigits : Int32} {mod_traces : Int32} {mod_shoeDay : Nat → Int32} {mod_isWon : Nat → Int32} {mod_undoneFrom : Nat → Int32} {court_claimCount : Int32} {court_shoeDay : Nat → Int32} {court_suits : Nat → Option Nat} {S_who : Nat → Int32} {S_against : Nat → Int32} {S_kind : Nat → Int32} {S_won : Nat → Int32} {S_day : Nat → Int32} {S_land : Nat → Int32} {S_undoneFrom : Nat → Int32} {S_asked : Nat → Nat → Int32} {S_askedCount : Nat → Int32} {S_askedBits : Nat → Int32} {S_first : Nat → Int32} {S_foundSo : Nat → Int32} {S_foundNot : Nat → Int32} {S_fought : Nat → Int32} {S_needed : Nat → Int32} {chg_done : Int32} {chg_size : Int32} {x1 x2 x3 : Int32} (hv : x1.toInt = 0 ∨ x1.toInt = 1 ∨ x1.toInt = 2) (h2 : x1.toInt = 2 → 0 ≤ x2.toInt ∧ x2.toInt < court_shoeCount.toInt) (h3 : x1.toInt ≠ 2 → 0 ≤ x2.toInt ∧ x2.toInt < court_suitCount.toInt) {R : (Nat → Int32) × (Nat → Int32) × (Nat → Int32)} {Q : (Nat → Int32) × (Nat → Int32) × (Nat → Int32)} (h : f_X1_set x1 x2 x3 court_shoeCount court_claimCount court_suitCount court_shoeDay court_suits chg_done chg_size S_who S_against S_kind S_won S_day S_land S_undoneFrom S_asked S_askedCount S_askedBits S_first S_foundSo S_foundNot S_fought S_needed = some R) (k : f_X12_set x1 x2 x3 mod_code court_shoeCount mod_claims ts at_ f court_suitCount mod_doneMany mod_undoneMany mod_open mod_laid mod_isBoth mod_wished mod_bestMany mod_bestRow mod_ringDigits mod_traces mod_shoeDay mod_isWon mod_undoneFrom = some Q) : (court_shoeDay = mod_shoeDay → R.1 = Q.1) ∧ (WU court_suitCount S_won mod_isWon → WU court_suitCount R.2.1 Q.2.1) ∧ (WU court_suitCount S_undoneFrom mod_undoneFrom → WU court_suitCount R.2.2 Q.2.2) := by
  unfold f_X1_set at h
  unfold f_X12_set at k
  unfold B_X1_set_0 at h
  by_cases cc1 : x1 = (2 : Int32)
  · replace h := zk_t cc1 h
    have cc1n := cc1
    (try simp only [i32_lt, i32_le, i32_e, z32_0, z32_1, z32L_2] at cc1n)
    first
    | (exfalso; omega)
    | by_cases cc2 : x2 < 0
      · replace h := zk_t cc2 h
        have cc2n := cc2
        (try simp only [i32_lt, i32_le, i32_e, z32_0, z32_1] at cc2n)
        first
        | (exfalso; omega)
        | unfold B_X12_set_0 at k
          replace k := zk_f (by (try simp only [i32_lt, i32_le, i32_e, z32_0, z32_1]); omega) k
          replace k := zk_f (by (try simp only [i32_lt, i32_le, i32_e, z32_0, z32_1]); omega) k
          replace k := zk_gd k
          obtain ⟨_, k⟩ := k
          replace k := zk_lt k
          obtain ⟨mv1, me2, k⟩ := k
          subst me2
          replace h := Option.some.inj h
          replace k := Option.some.inj k
          subst h
          subst k
          try dsimp only
          all_goals first
          | (exfalso; omega)
          | exact ⟨fun e => by rw [e], fun w => w, fun w => w⟩
          | exact ⟨fun e => e, fun w => WU_u w, fun w => w⟩
          | exact ⟨fun e => e, fun w => w, fun w => WU_u w⟩
      · replace h := zk_f cc2 h
        have cc2n := cc2
        (try simp only [i32_lt, i32_le, i32_e, z32_0, z32_1] at cc2n)
        first
        | (exfalso; omega)
        | by_cases cc3 : court_shoeCount ≤ x2
          · replace h := zk_t cc3 h
            have cc3n := cc3
            (try simp only [i32_lt, i32_le, i32_e, z32_0, z32_1] at cc3n)
            first
            | (exfalso; omega)
            | unfold B_X12_set_0 at k
              replace k := zk_f (by (try simp only [i32_lt, i32_le, i32_e, z32_0, z32_1]); omega) k
              replace k := zk_f (by (try simp only [i32_lt, i32_le, i32_e, z32_0, z32_1]); omega) k
              replace k := zk_gd k
              obtain ⟨_, k⟩ := k
              replace k := zk_lt k
              obtain ⟨mv3, me4, k⟩ := k
              subst me4
              replace h := Option.some.inj h
              replace k := Option.some.inj k
              subst h
              subst k
              try dsimp only
              all_goals first
              | (exfalso; omega)
              | exact ⟨fun e => by rw [e], fun w => w, fun w => w⟩
              | exact ⟨fun e => e, fun w => WU_u w, fun w => w⟩
              | exact ⟨fun e => e, fun w => w, fun w => WU_u w⟩
          · replace h := zk_f cc3 h
            have cc3n := cc3
            (try simp only [i32_lt, i32_le, i32_e, z32_0, z32_1] at cc3n)
            first
            | (exfalso; omega)
            | obtain ⟨_, h⟩ := zk_gd h
              replace h := zk_lt h
              obtain ⟨cv4, ce5, h⟩ := h
              subst ce5
              unfold B_X12_set_0 at k
              replace k := zk_f (by (try simp only [i32_lt, i32_le, i32_e, z32_0, z32_1]); omega) k
              replace k := zk_f (by (try simp only [i32_lt, i32_le, i32_e, z32_0, z32_1]); omega) k
              replace k := zk_gd k
              obtain ⟨_, k⟩ := k
              replace k := zk_lt k
              obtain ⟨mv5, me6, k⟩ := k
              subst me6
              replace h := Option.some.inj h
              replace k := Option.some.inj k
              subst h
              subst k
              try dsimp only
              all_goals first
              | (exfalso; omega)
              | exact ⟨fun e => by rw [e], fun w => w, fun w => w⟩
              | exact ⟨fun e => e, fun w => WU_u w, fun w => w⟩
              | exact ⟨fun e => e, fun w => w, fun w => WU_u w⟩
  · replace h := zk_f cc1 h
    have cc1n := cc1
    (try simp only [i32_lt, i32_le, i32_e, z32_0, z32_1, z32L_2] at cc1n)
    first
    | (exfalso; omega)
    | obtain ⟨cv6, cv7, ch8, h⟩ := zk_o2 h
      unfold f_X2_suitAt at ch8
      unfold B_X2_suitAt_0 at ch8
      by_cases cc9 : x2 < 0
      · have ch8 := zk_t cc9 ch8
        have cc9n := cc9
        (try simp only [i32_lt, i32_le, i32_e, z32_0, z32_1] at cc9n)
        first
        | (exfalso; omega)
        | simp only [Option.some.injEq, Prod.mk.injEq] at ch8
          obtain ⟨rfl, _⟩ := ch8
          replace h := zk_t (by decide) h
          unfold B_X12_set_0 at k
          by_cases mc7 : x1 = 0
          · replace k := zk_t mc7 k
            have mc7n := mc7
            (try simp only [i32_lt, i32_le, i32_e, z32_0, z32_1] at mc7n)
            first
            | (exfalso; omega)
            | obtain ⟨_, k⟩ := zk_gd k
              replace k := zk_lt k
              obtain ⟨mv8, me9, k⟩ := k
              subst me9
              replace h := Option.some.inj h
              replace k := Option.some.inj k
              subst h
              subst k
              try dsimp only
              all_goals first
              | (exfalso; omega)
              | exact ⟨fun e => by rw [e], fun w => w, fun w => w⟩
              | exact ⟨fun e => e, fun w => WU_u w, fun w => w⟩
              | exact ⟨fun e => e, fun w => w, fun w => WU_u w⟩
          · replace k := zk_f mc7 k
            have mc7n := mc7
            (try simp only [i32_lt, i32_le, i32_e, z32_0, z32_1] at mc7n)
            first
            | (exfalso; omega)
            | by_cases mc10 : x1 = (1 : Int32)
              · replace k := zk_t mc10 k
                have mc10n := mc10
                (try simp only [i32_lt, i32_le, i32_e, z32_0, z32_1] at mc10n)
                first
                | (exfalso; omega)
                | obtain ⟨_, k⟩ := zk_gd k
                  replace k := zk_lt k
                  obtain ⟨mv11, me12, k⟩ := k
                  subst me12
                  replace h := Option.some.inj h
                  replace k := Option.some.inj k
                  subst h
                  subst k
                  try dsimp only
                  all_goals first
                  | (exfalso; omega)
                  | exact ⟨fun e => by rw [e], fun w => w, fun w => w⟩
                  | exact ⟨fun e => e, fun w => WU_u w, fun w => w⟩
                  | exact ⟨fun e => e, fun w => w, fun w => WU_u w⟩
              · replace k := zk_f mc10 k
                have mc10n := mc10
                (try simp only [i32_lt, i32_le, i32_e, z32_0, z32_1] at mc10n)
                first
                | (exfalso; omega)
                | obtain ⟨_, k⟩ := zk_gd k
                  replace k := zk_lt k
                  obtain ⟨mv13, me14, k⟩ := k
                  subst me14
                  replace h := Option.some.inj h
                  replace k := Option.some.inj k
                  subst h
                  subst k
                  try dsimp only
                  all_goals first
                  | (exfalso; omega)
                  | exact ⟨fun e => by rw [e], fun w => w, fun w => w⟩
                  | exact ⟨fun e => e, fun w => WU_u w, fun w => w⟩
                  | exact ⟨fun e => e, fun w => w, fun w => WU_u w⟩
      · have ch8 := zk_f cc9 ch8
        have cc9n := cc9
        (try simp only [i32_lt, i32_le, i32_e, z32_0, z32_1] at cc9n)
        first
        | (exfalso; omega)
        | by_cases cc10 : court_suitCount ≤ x2
          · have ch8 := zk_t cc10 ch8
            have cc10n := cc10
            (try simp only [i32_lt, i32_le, i32_e, z32_0, z32_1] at cc10n)
            first
            | (exfalso; omega)
            | simp only [Option.some.injEq, Prod.mk.injEq] at ch8
              obtain ⟨rfl, _⟩ := ch8
              replace h := zk_t (by decide) h
              unfold B_X12_set_0 at k
              by_cases mc15 : x1 = 0
              · replace k := zk_t mc15 k
                have mc15n := mc15
                (try simp only [i32_lt, i32_le, i32_e, z32_0, z32_1] at mc15n)
                first
                | (exfalso; omega)
                | obtain ⟨_, k⟩ := zk_gd k
                  replace k := zk_lt k
                  obtain ⟨mv16, me17, k⟩ := k
                  subst me17
                  replace h := Option.some.inj h
                  replace k := Option.some.inj k
                  subst h
                  subst k
                  try dsimp only
                  all_goals first
                  | (exfalso; omega)
                  | exact ⟨fun e => by rw [e], fun w => w, fun w => w⟩
                  | exact ⟨fun e => e, fun w => WU_u w, fun w => w⟩
                  | exact ⟨fun e => e, fun w => w, fun w => WU_u w⟩
              · replace k := zk_f mc15 k
                have mc15n := mc15
                (try simp only [i32_lt, i32_le, i32_e, z32_0, z32_1] at mc15n)
                first
                | (exfalso; omega)
                | by_cases mc18 : x1 = (1 : Int32)
                  · replace k := zk_t mc18 k
                    have mc18n := mc18
                    (try simp only [i32_lt, i32_le, i32_e, z32_0, z32_1] at mc18n)
                    first
                    | (exfalso; omega)
                    | obtain ⟨_, k⟩ := zk_gd k
                      replace k := zk_lt k
                      obtain ⟨mv19, me20, k⟩ := k
                      subst me20
                      replace h := Option.some.inj h
                      replace k := Option.some.inj k
                      subst h
                      subst k
                      try dsimp only
                      all_goals first
                      | (exfalso; omega)
                      | exact ⟨fun e => by rw [e], fun w => w, fun w => w⟩
                      | exact ⟨fun e => e, fun w => WU_u w, fun w => w⟩
                      | exact ⟨fun e => e, fun w => w, fun w => WU_u w⟩
                  · replace k := zk_f mc18 k
                    have mc18n := mc18
                    (try simp only [i32_lt, i32_le, i32_e, z32_0, z32_1] at mc18n)
                    first
                    | (exfalso; omega)
                    | obtain ⟨_, k⟩ := zk_gd k
                      replace k := zk_lt k
                      obtain ⟨mv21, me22, k⟩ := k
                      subst me22
                      replace h := Option.some.inj h
                      replace k := Option.some.inj k
                      subst h
                      subst k
                      try dsimp only
                      all_goals first
                      | (exfalso; omega)
                      | exact ⟨fun e => by rw [e], fun w => w, fun w => w⟩
                      | exact ⟨fun e => e, fun w => WU_u w, fun w => w⟩
                      | exact ⟨fun e => e, fun w => w, fun w => WU_u w⟩
          · have ch8 := zk_f cc10 ch8
            have cc10n := cc10
            (try simp only [i32_lt, i32_le, i32_e, z32_0, z32_1] at cc10n)
            first
            | (exfalso; omega)
            | obtain ⟨_, ch8⟩ := zk_gd ch8
              obtain ⟨_, ch8⟩ := zk_gd ch8
              obtain ⟨_, ch8⟩ := zk_gd ch8
              simp only [Option.some.injEq, Prod.mk.injEq] at ch8
              obtain ⟨rfl, _⟩ := ch8
              replace h := zk_f cc9 h
              by_cases cc11 : x1 = 0
              · replace h := zk_t cc11 h
                have cc11n := cc11
                (try simp only [i32_lt, i32_le, i32_e, z32_0, z32_1] at cc11n)
                first
                | (exfalso; omega)
                | obtain ⟨_, h⟩ := zk_gd h
                  replace h := zk_lt h
                  obtain ⟨cv12, ce13, h⟩ := h
                  subst ce13
                  unfold B_X12_set_0 at k
                  replace k := zk_t cc11 k
                  replace k := zk_gd k
                  obtain ⟨_, k⟩ := k
                  replace k := zk_lt k
                  obtain ⟨mv23, me24, k⟩ := k
                  subst me24
                  replace h := Option.some.inj h
                  replace k := Option.some.inj k
                  subst h
                  subst k
                  try dsimp only
                  all_goals first
                  | (exfalso; omega)
                  | exact ⟨fun e => by rw [e], fun w => w, fun w => w⟩
                  | exact ⟨fun e => e, fun w => WU_u w, fun w => w⟩
                  | exact ⟨fun e => e, fun w => w, fun w => WU_u w⟩
              · replace h := zk_f cc11 h
                have cc11n := cc11
                (try simp only [i32_lt, i32_le, i32_e, z32_0, z32_1] at cc11n)
                first
                | (exfalso; omega)
                | unfold B_X1_set_59 at h
                  replace h := zk_gd h
                  obtain ⟨_, h⟩ := h
                  replace h := zk_lt h
                  obtain ⟨cv14, ce15, h⟩ := h
                  subst ce15
                  unfold B_X12_set_0 at k
                  replace k := zk_f cc11 k
                  by_cases mc25 : x1 = (1 : Int32)
                  · replace k := zk_t mc25 k
                    have mc25n := mc25
                    (try simp only [i32_lt, i32_le, i32_e, z32_0, z32_1] at mc25n)
                    first
                    | (exfalso; omega)
                    | obtain ⟨_, k⟩ := zk_gd k
                      replace k := zk_lt k
                      obtain ⟨mv26, me27, k⟩ := k
                      subst me27
                      replace h := Option.some.inj h
                      replace k := Option.some.inj k
                      subst h
                      subst k
                      try dsimp only
                      all_goals first
                      | (exfalso; omega)
                      | exact ⟨fun e => by rw [e], fun w => w, fun w => w⟩
                      | exact ⟨fun e => e, fun w => WU_u w, fun w => w⟩
                      | exact ⟨fun e => e, fun w => w, fun w => WU_u w⟩
                  · replace k := zk_f mc25 k
                    have mc25n := mc25
                    (try simp only [i32_lt, i32_le, i32_e, z32_0, z32_1] at mc25n)
                    first
                    | (exfalso; omega)
                    | obtain ⟨_, k⟩ := zk_gd k
                      replace k := zk_lt k
                      obtain ⟨mv28, me29, k⟩ := k
                      subst me29
                      replace h := Option.some.inj h
                      replace k := Option.some.inj k
                      subst h
                      subst k
                      try dsimp only
                      all_goals first
                      | (exfalso; omega)
                      | exact ⟨fun e => by rw [e], fun w => w, fun w => w⟩
                      | exact ⟨fun e => e, fun w => WU_u w, fun w => w⟩
                      | exact ⟨fun e => e, fun w => w, fun w => WU_u w⟩
set_option maxHeartbeats 4000000 in
set_option maxRecDepth 20000 in
theorem ch_loop {mod_code : Int32} {court_shoeCount : Int32} {mod_claims : Int32} {ts : Int32} {at_ : Int32} {f : Int32} {court_suitCount : Int32} {mod_doneMany : Int32} {mod_undoneMany : Int32} {mod_open : Int32} {mod_laid : Int32} {mod_isBoth : Int32} {mod_wished : Int32} {mod_bestMany : Int32} {mod_bestRow : Int32} {mod_ringDigits : Int32} {mod_traces : Int32} {mod_shoeDay : Nat → Int32} {mod_isWon : Nat → Int32} {mod_undoneFrom : Nat → Int32} {x1 x2 x3 x4 : Int32} : ∀ (N : Nat) (x5 : Int32) (mod_changeOf mod_changeAt mod_before mod_behind : Nat → Int32) (Q : Int32 × Int32 × Int32 × (Nat → Int32) × (Nat → Int32) × (Nat → Int32) × (Nat → Int32) × (Nat → Int32) × (Nat → Int32) × (Nat → Int32)), 1 ≤ x5.toInt → x5.toInt ≤ 40 → G_X12_changes mod_code court_shoeCount mod_claims ts at_ f court_suitCount mod_open mod_laid mod_isBoth mod_wished mod_bestMany mod_bestRow mod_ringDigits mod_traces N x1 x2 x3 x4 x5 mod_doneMany mod_undoneMany mod_shoeDay mod_isWon mod_undoneFrom mod_changeOf mod_changeAt mod_before mod_behind = some Q → ∃ (M : Nat) (a b c d : Nat → Int32), a = SH x5.toInt.toNat mod_changeOf ∧ b = SH x5.toInt.toNat mod_changeAt ∧ c = SH x5.toInt.toNat mod_before ∧ d = SH x5.toInt.toNat mod_behind ∧ B_X12_changes_148 (G_X12_changes mod_code court_shoeCount mod_claims ts at_ f court_suitCount mod_open mod_laid mod_isBoth mod_wished mod_bestMany mod_bestRow mod_ringDigits mod_traces M) mod_code court_shoeCount mod_claims ts at_ f court_suitCount mod_open mod_laid mod_isBoth mod_wished mod_bestMany mod_bestRow mod_ringDigits mod_traces x1 x2 x3 x4 (mod_doneMany - 1) mod_undoneMany mod_shoeDay mod_isWon mod_undoneFrom a b c d = some Q := by
  intro N
  induction N with
  | zero =>
    intro x5 mod_changeOf mod_changeAt mod_before mod_behind Q _ _ h
    cases h
  | succ N ih =>
    intro x5 mod_changeOf mod_changeAt mod_before mod_behind Q h0 h1 h
    replace h : B_X12_changes_61 (G_X12_changes mod_code court_shoeCount mod_claims ts at_ f court_suitCount mod_open mod_laid mod_isBoth mod_wished mod_bestMany mod_bestRow mod_ringDigits mod_traces N) mod_code court_shoeCount mod_claims ts at_ f court_suitCount mod_open mod_laid mod_isBoth mod_wished mod_bestMany mod_bestRow mod_ringDigits mod_traces x1 x2 x3 x4 x5 mod_doneMany mod_undoneMany mod_shoeDay mod_isWon mod_undoneFrom mod_changeOf mod_changeAt mod_before mod_behind = some Q := h
    unfold B_X12_changes_61 at h
    by_cases c : (40 : Int32) ≤ x5
    · replace h := zk_t c h
      rw [i32_le, z32L_40] at c
      replace h := zk_lt h
      obtain ⟨v, e, h⟩ := h
      subst e
      have e : ∀ f : Nat → Int32, f = SH x5.toInt.toNat f := fun f => by
        funext k
        unfold SH
        rw [if_neg (by omega)]
      exact ⟨N, _, _, _, _, e _, e _, e _, e _, h⟩
    · replace h := zk_f c h
      rw [i32_le, z32L_40] at c
      have s3 := i32_s (a := x5) (by omega)
      have s4 := i32_m1 (a := x5) (by omega)
      replace h := zk_gd h
      obtain ⟨_, h⟩ := h
      replace h := zk_lt h
      obtain ⟨v1, e1, h⟩ := h
      replace h := zk_gd h
      obtain ⟨_, h⟩ := h
      replace h := zk_lt h
      obtain ⟨v2, e2, h⟩ := h
      replace h := zk_gd h
      obtain ⟨_, h⟩ := h
      replace h := zk_lt h
      obtain ⟨v3, e3, h⟩ := h
      replace h := zk_gd h
      obtain ⟨_, h⟩ := h
      replace h := zk_lt h
      obtain ⟨v4, e4, h⟩ := h
      replace h := zk_gd h
      obtain ⟨_, h⟩ := h
      replace h := zk_lt h
      obtain ⟨v5, e5, h⟩ := h
      replace h := zk_gd h
      obtain ⟨_, h⟩ := h
      replace h := zk_lt h
      obtain ⟨v6, e6, h⟩ := h
      replace h := zk_gd h
      obtain ⟨_, h⟩ := h
      replace h := zk_lt h
      obtain ⟨v7, e7, h⟩ := h
      replace h := zk_gd h
      obtain ⟨_, h⟩ := h
      replace h := zk_lt h
      obtain ⟨v8, e8, h⟩ := h
      replace h := zk_lt h
      obtain ⟨v9, e9, h⟩ := h
      subst e1 e2 e3 e4 e5 e6 e7 e8 e9
      obtain ⟨M, a, b, c', d, q1, q2, q3, q4, q5⟩ := ih _ _ _ _ _ Q (by omega) (by omega) h
      have e : ∀ f : Nat → Int32, SH (x5 + 1).toInt.toNat (upd f (x5 - 1).toNatClampNeg (f x5.toNatClampNeg)) = SH x5.toInt.toNat f := fun f => by
        have ex : x5.toNatClampNeg = x5.toInt.toNat := rfl
        have em : (x5 - 1).toNatClampNeg = (x5 - 1).toInt.toNat := rfl
        funext k
        unfold SH upd
        by_cases ck : k = (x5 - 1).toNatClampNeg
        · rw [if_neg (by omega), if_pos ck, if_pos (by omega)]
          congr 1
          omega
        · by_cases c2 : (x5 + 1).toInt.toNat - 1 ≤ k ∧ k < 39
          · rw [if_pos c2, if_neg (by omega), if_pos (by omega)]
          · rw [if_neg c2, if_neg ck, if_neg (by omega)]
      rw [e] at q1 q2 q3 q4
      exact ⟨M, a, b, c', d, q1, q2, q3, q4, q5⟩
set_option maxHeartbeats 4000000 in
set_option maxRecDepth 20000 in
theorem do_drop  {a r : Nat → Int32} (h : f_X1_dropOldest a 40 = some r) : r = SH 1 a := by
  unfold f_X1_dropOldest B_X1_dropOldest_0 at h
  replace h := zk_gd h
  obtain ⟨_, h⟩ := h
  replace h := zk_lt h
  obtain ⟨v, e, h⟩ := h
  subst e
  replace h := Option.some.inj h
  subst h
  have e1 : (1 : Int32).toNatClampNeg = 1 := by decide
  have e0 : (0 : Int32).toNatClampNeg = 0 := by decide
  have e39 : (Int32.ofNat 40 - 1).toNatClampNeg = 39 := by decide
  funext k
  unfold SH va_cpy
  rw [e1, e0, e39]
  by_cases c : k < 39
  · rw [if_pos (by omega), if_pos (by omega)]
    congr 1
    omega
  · rw [if_neg (by omega), if_neg (by omega)]
set_option maxHeartbeats 4000000 in
set_option maxRecDepth 20000 in
theorem pw_50 {mod_code : Int32} {court_shoeCount : Int32} {mod_claims : Int32} {ts : Int32} {at_ : Int32} {f : Int32} {court_suitCount : Int32} {mod_undoneMany : Int32} {mod_open : Int32} {mod_laid : Int32} {mod_isBoth : Int32} {mod_wished : Int32} {mod_bestMany : Int32} {mod_bestRow : Int32} {mod_ringDigits : Int32} {mod_traces : Int32} {mod_shoeDay : Nat → Int32} {mod_isWon : Nat → Int32} {mod_undoneFrom : Nat → Int32} {court_claimCount : Int32} {court_shoeDay : Nat → Int32} {court_suits : Nat → Option Nat} {S_who : Nat → Int32} {S_against : Nat → Int32} {S_kind : Nat → Int32} {S_won : Nat → Int32} {S_day : Nat → Int32} {S_land : Nat → Int32} {S_undoneFrom : Nat → Int32} {S_asked : Nat → Nat → Int32} {S_askedCount : Nat → Int32} {S_askedBits : Nat → Int32} {S_first : Nat → Int32} {S_foundSo : Nat → Int32} {S_foundNot : Nat → Int32} {S_fought : Nat → Int32} {S_needed : Nat → Int32} {chg_done : Int32} {chg_size : Int32} {chg_sorts : Nat → Int32} {chg_numbers : Nat → Int32} {chg_befores : Nat → Int32} {chg_afters : Nat → Int32} {x1 x2 x3 x4 : Int32} {g : Int32 → Int32 → Int32 → Int32 → Int32 → Int32 → Int32 → (Nat → Int32) → (Nat → Int32) → (Nat → Int32) → (Nat → Int32) → (Nat → Int32) → (Nat → Int32) → (Nat → Int32) → (Option (Int32 × Int32 × Int32 × (Nat → Int32) × (Nat → Int32) × (Nat → Int32) × (Nat → Int32) × (Nat → Int32) × (Nat → Int32) × (Nat → Int32)))} (hv : x1.toInt = 0 ∨ x1.toInt = 1 ∨ x1.toInt = 2) (h2 : x1.toInt = 2 → 0 ≤ x2.toInt ∧ x2.toInt < court_shoeCount.toInt) (h3 : x1.toInt ≠ 2 → 0 ≤ x2.toInt ∧ x2.toInt < court_suitCount.toInt) {R : (Nat → Int32) × Int32 × Int32 × (Nat → Int32) × (Nat → Int32) × (Nat → Int32) × (Nat → Int32) × (Nat → Int32) × (Nat → Int32)} {Q : Int32 × Int32 × Int32 × (Nat → Int32) × (Nat → Int32) × (Nat → Int32) × (Nat → Int32) × (Nat → Int32) × (Nat → Int32) × (Nat → Int32)} (h : B_X1_make_50 court_shoeCount court_claimCount court_suitCount court_suits S_who S_against S_kind S_day S_land S_asked S_askedCount S_askedBits S_first S_foundSo S_foundNot S_fought S_needed x1 x2 x3 x4 court_shoeDay chg_done chg_size chg_sorts chg_numbers chg_befores chg_afters S_won S_undoneFrom = some R) (k : B_X12_changes_148 g mod_code court_shoeCount mod_claims ts at_ f court_suitCount mod_open mod_laid mod_isBoth mod_wished mod_bestMany mod_bestRow mod_ringDigits mod_traces x1 x2 x4 x3 chg_done mod_undoneMany mod_shoeDay mod_isWon mod_undoneFrom chg_sorts chg_numbers chg_befores chg_afters = some Q) : Q.1 = x3 ∧ R.2.1 = Q.2.1 ∧ R.2.2.1 = R.2.1 ∧ Q.2.2.1 = mod_undoneMany ∧ R.2.2.2.1 = Q.2.2.2.2.2.2.1 ∧ R.2.2.2.2.1 = Q.2.2.2.2.2.2.2.1 ∧ R.2.2.2.2.2.1 = Q.2.2.2.2.2.2.2.2.1 ∧ R.2.2.2.2.2.2.1 = Q.2.2.2.2.2.2.2.2.2 ∧ R.2.1 = chg_done + 1 ∧ R.2.2.2.1 = upd chg_sorts chg_done.toNatClampNeg x1 ∧ R.2.2.2.2.1 = upd chg_numbers chg_done.toNatClampNeg x2 ∧ (court_shoeDay = mod_shoeDay → R.1 = Q.2.2.2.1) ∧ (WU court_suitCount S_won mod_isWon → WU court_suitCount R.2.2.2.2.2.2.2.1 Q.2.2.2.2.1) ∧ (WU court_suitCount S_undoneFrom mod_undoneFrom → WU court_suitCount R.2.2.2.2.2.2.2.2 Q.2.2.2.2.2.1) := by
  unfold B_X1_make_50 at h
  unfold B_X12_changes_148 at k
  replace h := zk_gd h
  obtain ⟨_, h⟩ := h
  replace h := zk_lt h
  obtain ⟨cv1, ce2, h⟩ := h
  subst ce2
  replace h := zk_gd h
  obtain ⟨_, h⟩ := h
  replace h := zk_lt h
  obtain ⟨cv3, ce4, h⟩ := h
  subst ce4
  replace h := zk_gd h
  obtain ⟨_, h⟩ := h
  replace h := zk_lt h
  obtain ⟨cv5, ce6, h⟩ := h
  subst ce6
  replace h := zk_gd h
  obtain ⟨_, h⟩ := h
  replace h := zk_lt h
  obtain ⟨cv7, ce8, h⟩ := h
  subst ce8
  replace h := zk_lt h
  obtain ⟨cv9, ce10, h⟩ := h
  subst ce10
  replace h := zk_o3 h
  obtain ⟨cv11, cv12, cv13, ch14, h⟩ := h
  skip
  replace k := zk_gd k
  obtain ⟨_, k⟩ := k
  replace k := zk_lt k
  obtain ⟨mv1, me2, k⟩ := k
  subst me2
  replace k := zk_gd k
  obtain ⟨_, k⟩ := k
  replace k := zk_lt k
  obtain ⟨mv3, me4, k⟩ := k
  subst me4
  replace k := zk_gd k
  obtain ⟨_, k⟩ := k
  replace k := zk_lt k
  obtain ⟨mv5, me6, k⟩ := k
  subst me6
  replace k := zk_gd k
  obtain ⟨_, k⟩ := k
  replace k := zk_lt k
  obtain ⟨mv7, me8, k⟩ := k
  subst me8
  replace k := zk_lt k
  obtain ⟨mv9, me10, k⟩ := k
  subst me10
  replace k := zk_o3 k
  obtain ⟨mv11, mv12, mv13, mh14, k⟩ := k
  skip
  replace h := Option.some.inj h
  replace k := Option.some.inj k
  subst h
  subst k
  try dsimp only
  obtain ⟨t1, t2, t3⟩ := pw_set hv h2 h3 ch14 mh14
  exact ⟨rfl, rfl, rfl, rfl, rfl, rfl, rfl, rfl, rfl, rfl, rfl, t1, t2, t3⟩
set_option maxHeartbeats 4000000 in
set_option maxRecDepth 20000 in
theorem pw_make {mod_code : Int32} {court_shoeCount : Int32} {mod_claims : Int32} {ts : Int32} {at_ : Int32} {f : Int32} {court_suitCount : Int32} {mod_undoneMany : Int32} {mod_open : Int32} {mod_laid : Int32} {mod_isBoth : Int32} {mod_wished : Int32} {mod_bestMany : Int32} {mod_bestRow : Int32} {mod_ringDigits : Int32} {mod_traces : Int32} {mod_shoeDay : Nat → Int32} {mod_isWon : Nat → Int32} {mod_undoneFrom : Nat → Int32} {court_claimCount : Int32} {court_shoeDay : Nat → Int32} {court_suits : Nat → Option Nat} {S_who : Nat → Int32} {S_against : Nat → Int32} {S_kind : Nat → Int32} {S_won : Nat → Int32} {S_day : Nat → Int32} {S_land : Nat → Int32} {S_undoneFrom : Nat → Int32} {S_asked : Nat → Nat → Int32} {S_askedCount : Nat → Int32} {S_askedBits : Nat → Int32} {S_first : Nat → Int32} {S_foundSo : Nat → Int32} {S_foundNot : Nat → Int32} {S_fought : Nat → Int32} {S_needed : Nat → Int32} {chg_done : Int32} {chg_size : Int32} {chg_sorts : Nat → Int32} {chg_numbers : Nat → Int32} {chg_befores : Nat → Int32} {chg_afters : Nat → Int32} {m : Nat} {x1 x2 x3 x4 : Int32} {R : (Nat → Int32) × Int32 × Int32 × (Nat → Int32) × (Nat → Int32) × (Nat → Int32) × (Nat → Int32) × (Nat → Int32) × (Nat → Int32)} {Q : Int32 × Int32 × Int32 × (Nat → Int32) × (Nat → Int32) × (Nat → Int32) × (Nat → Int32) × (Nat → Int32) × (Nat → Int32) × (Nat → Int32)} (hv : x1.toInt = 0 ∨ x1.toInt = 1 ∨ x1.toInt = 2) (h2 : x1.toInt = 2 → 0 ≤ x2.toInt ∧ x2.toInt < court_shoeCount.toInt) (h3 : x1.toInt ≠ 2 → 0 ≤ x2.toInt ∧ x2.toInt < court_suitCount.toInt) (hd : 0 ≤ chg_done.toInt ∧ chg_done.toInt ≤ 40) (hsz : chg_size.toInt = chg_done.toInt + mod_undoneMany.toInt) (hu : 0 ≤ mod_undoneMany.toInt ∧ chg_size.toInt ≤ 40) (hV : CV chg_size court_shoeCount court_suitCount chg_sorts chg_numbers) (hw0 : x1.toInt = 0 → x3 = mod_isWon x2.toNatClampNeg) (hw1 : x1.toInt = 1 → x3 = mod_undoneFrom x2.toNatClampNeg) (hw2 : x1.toInt = 2 → x3 = mod_shoeDay x2.toNatClampNeg) (h : f_X1_make x1 x2 x3 x4 court_shoeCount court_claimCount court_suitCount court_shoeDay court_suits chg_done chg_size chg_sorts chg_numbers chg_befores chg_afters S_who S_against S_kind S_won S_day S_land S_undoneFrom S_asked S_askedCount S_askedBits S_first S_foundSo S_foundNot S_fought S_needed = some R) (k : f_X12_changes m x1 x2 x4 mod_code court_shoeCount mod_claims ts at_ f court_suitCount chg_done mod_undoneMany mod_open mod_laid mod_isBoth mod_wished mod_bestMany mod_bestRow mod_ringDigits mod_traces mod_shoeDay mod_isWon mod_undoneFrom chg_sorts chg_numbers chg_befores chg_afters = some Q) : Q.1 = x3 ∧ R.2.1 = Q.2.1 ∧ R.2.2.1.toInt = Q.2.1.toInt + Q.2.2.1.toInt ∧ R.2.2.2.1 = Q.2.2.2.2.2.2.1 ∧ R.2.2.2.2.1 = Q.2.2.2.2.2.2.2.1 ∧ R.2.2.2.2.2.1 = Q.2.2.2.2.2.2.2.2.1 ∧ R.2.2.2.2.2.2.1 = Q.2.2.2.2.2.2.2.2.2 ∧ CV R.2.2.1 court_shoeCount court_suitCount R.2.2.2.1 R.2.2.2.2.1 ∧ (court_shoeDay = mod_shoeDay → R.1 = Q.2.2.2.1) ∧ (WU court_suitCount S_won mod_isWon → WU court_suitCount R.2.2.2.2.2.2.2.1 Q.2.2.2.2.1) ∧ (WU court_suitCount S_undoneFrom mod_undoneFrom → WU court_suitCount R.2.2.2.2.2.2.2.2 Q.2.2.2.2.2.1) := by
  have k : B_X12_changes_33 (G_X12_changes mod_code court_shoeCount mod_claims ts at_ f court_suitCount mod_open mod_laid mod_isBoth mod_wished mod_bestMany mod_bestRow mod_ringDigits mod_traces m) mod_code court_shoeCount mod_claims ts at_ f court_suitCount mod_open mod_laid mod_isBoth mod_wished mod_bestMany mod_bestRow mod_ringDigits mod_traces x1 x2 x4 x3 chg_done mod_undoneMany mod_shoeDay mod_isWon mod_undoneFrom chg_sorts chg_numbers chg_befores chg_afters = some Q := by
    unfold f_X12_changes B_X12_changes_0 at k
    by_cases c : x1 = 0
    · replace k := zk_t c k
      rw [i32_e, z32_0] at c
      replace k := zk_gd k
      obtain ⟨_, k⟩ := k
      rw [← hw0 c] at k
      exact k
    · replace k := zk_f c k
      rw [i32_e, z32_0] at c
      by_cases c1 : x1 = 1
      · replace k := zk_t c1 k
        rw [i32_e, z32_1] at c1
        replace k := zk_gd k
        obtain ⟨_, k⟩ := k
        rw [← hw1 c1] at k
        exact k
      · replace k := zk_f c1 k
        rw [i32_e, z32_1] at c1
        replace k := zk_gd k
        obtain ⟨_, k⟩ := k
        rw [← hw2 (by omega)] at k
        exact k
  unfold B_X12_changes_33 at k
  unfold f_X1_make B_X1_make_0 at h
  by_cases c : x3 = x4
  · replace h := Option.some.inj (zk_t c h)
    replace k := Option.some.inj (zk_t c k)
    subst h
    subst k
    exact ⟨rfl, rfl, hsz, rfl, rfl, rfl, rfl, hV, fun e => e, fun w => w, fun w => w⟩
  · replace h := zk_f c h
    replace k := zk_f c k
    by_cases c2 : chg_done < 40
    · replace h := zk_t c2 h
      rw [i32_lt, z32L_40] at c2
      replace k := zk_f (show ¬ chg_done = 40 by rw [i32_e, z32L_40]; omega) k
      obtain ⟨p1, p2, p3, p4, p5, p6, p7, p8, p9, p10, p11, p12⟩ := pw_50 hv h2 h3 h k
      have s3 := i32_s (a := chg_done) (by omega)
      refine ⟨p1, p2, by rw [p3, ← p2, p4, z32_0]; omega, p5, p6, p7, p8, ?_, p12⟩
      exact CV_add (d := chg_done) (so := chg_sorts) (nu := chg_numbers) (fun k hk => hV k (by omega)) (by rw [p3, p9, s3]) hd.1 hv h2 h3 p10 p11
    · replace h := zk_f c2 h
      rw [i32_lt, z32L_40] at c2
      have e40 : chg_done = 40 := by rw [i32_e, z32L_40]; omega
      replace k := zk_t e40 k
      replace h := zk_o1 h
      obtain ⟨a1, d1, h⟩ := h
      replace h := zk_o1 h
      obtain ⟨a2, d2, h⟩ := h
      replace h := zk_o1 h
      obtain ⟨a3, d3, h⟩ := h
      replace h := zk_o1 h
      obtain ⟨a4, d4, h⟩ := h
      have d1 := do_drop d1
      have d2 := do_drop d2
      have d3 := do_drop d3
      have d4 := do_drop d4
      obtain ⟨M, a, b, c', d, q1, q2, q3, q4, q5⟩ := ch_loop _ _ _ _ _ _ Q (by decide) (by decide) k
      have q1 : a = a1 := q1.trans d1.symm
      have q2 : b = a2 := q2.trans d2.symm
      have q3 : c' = a3 := q3.trans d3.symm
      have q4 : d = a4 := q4.trans d4.symm
      subst q1
      subst q2
      subst q3
      subst q4
      have e39 : chg_done - 1 = 39 := by rw [e40]; decide
      rw [e39] at q5
      obtain ⟨p1, p2, p3, p4, p5, p6, p7, p8, p9, p10, p11, p12⟩ := pw_50 hv h2 h3 h q5
      refine ⟨p1, p2, by rw [p3, ← p2, p4, z32_0]; omega, p5, p6, p7, p8, ?_, p12⟩
      have e9 : (39 : Int32).toInt = 39 := by decide
      refine CV_add (d := 39) (so := a) (nu := b) (fun k hk => ?_) (by rw [p3, p9]; decide) (by decide) hv h2 h3 p10 p11
      have hk2 := hV (k + 1) (by omega)
      rw [d1, d2]
      unfold SH
      rw [if_pos (by omega), if_pos (by omega)]
      exact hk2

set_option maxHeartbeats 4000000 in
set_option maxRecDepth 20000 in
theorem pw_undo {mod_code : Int32} {court_shoeCount : Int32} {mod_claims : Int32} {ts : Int32} {at_ : Int32} {f : Int32} {court_suitCount : Int32} {mod_undoneMany : Int32} {mod_open : Int32} {mod_laid : Int32} {mod_isBoth : Int32} {mod_wished : Int32} {mod_bestMany : Int32} {mod_bestRow : Int32} {mod_ringDigits : Int32} {mod_traces : Int32} {mod_shoeDay : Nat → Int32} {mod_isWon : Nat → Int32} {mod_undoneFrom : Nat → Int32} {court_claimCount : Int32} {court_shoeDay : Nat → Int32} {court_suits : Nat → Option Nat} {S_who : Nat → Int32} {S_against : Nat → Int32} {S_kind : Nat → Int32} {S_won : Nat → Int32} {S_day : Nat → Int32} {S_land : Nat → Int32} {S_undoneFrom : Nat → Int32} {S_asked : Nat → Nat → Int32} {S_askedCount : Nat → Int32} {S_askedBits : Nat → Int32} {S_first : Nat → Int32} {S_foundSo : Nat → Int32} {S_foundNot : Nat → Int32} {S_fought : Nat → Int32} {S_needed : Nat → Int32} {chg_done : Int32} {chg_size : Int32} {chg_sorts : Nat → Int32} {chg_numbers : Nat → Int32} {chg_befores : Nat → Int32} (hd : 0 ≤ chg_done.toInt ∧ chg_done.toInt ≤ 40) (hsz : chg_size.toInt = chg_done.toInt + mod_undoneMany.toInt) (hu : 0 ≤ mod_undoneMany.toInt ∧ chg_size.toInt ≤ 40) (hV : CV chg_size court_shoeCount court_suitCount chg_sorts chg_numbers) {R : Int32 × (Nat → Int32) × Int32 × (Nat → Int32) × (Nat → Int32)} {Q : Int32 × Int32 × Int32 × (Nat → Int32) × (Nat → Int32) × (Nat → Int32)} (h : f_X11_undo court_shoeCount court_claimCount court_suitCount court_shoeDay court_suits chg_done chg_size chg_sorts chg_numbers chg_befores S_who S_against S_kind S_won S_day S_land S_undoneFrom S_asked S_askedCount S_askedBits S_first S_foundSo S_foundNot S_fought S_needed = some R) (k : f_X12_undo mod_code court_shoeCount mod_claims ts at_ f court_suitCount chg_done mod_undoneMany mod_open mod_laid mod_isBoth mod_wished mod_bestMany mod_bestRow mod_ringDigits mod_traces mod_shoeDay mod_isWon mod_undoneFrom chg_sorts chg_numbers chg_befores = some Q) : R.1 = Q.1 ∧ R.2.2.1 = Q.2.1 ∧ chg_size.toInt = Q.2.1.toInt + Q.2.2.1.toInt ∧ (court_shoeDay = mod_shoeDay → R.2.1 = Q.2.2.2.1) ∧ (WU court_suitCount S_won mod_isWon → WU court_suitCount R.2.2.2.1 Q.2.2.2.2.1) ∧ (WU court_suitCount S_undoneFrom mod_undoneFrom → WU court_suitCount R.2.2.2.2 Q.2.2.2.2.2) := by
  have hm1 := i32_m1 (a := chg_done) (by omega)
  have hm2 := i32_m1 (a := mod_undoneMany) (by omega)
  have hp1 := i32_s (a := chg_done) (by omega)
  have hp2 := i32_s (a := mod_undoneMany) (by omega)
  have hp3 : 0 ≤ (chg_done + 1).toInt → (chg_done + 1).toInt ≤ 100 → (chg_size - (chg_done + 1)).toInt = chg_size.toInt - (chg_done + 1).toInt := fun _ _ => i32_d (by omega) (by omega)
  unfold f_X11_undo at h
  unfold f_X12_undo at k
  unfold B_X11_undo_0 at h
  replace h := zk_o5 h
  obtain ⟨cv1, cv2, cv3, cv4, cv5, ch6, h⟩ := h
  unfold f_X1_back at ch6
  unfold B_X1_back_0 at ch6
  by_cases cc7 : 0 < chg_done
  · have ch6 := zk_t cc7 ch6
    have cc7n := cc7
    (try simp only [i32_lt, i32_le, i32_e, z32_0, z32_1] at cc7n)
    first
    | (exfalso; omega)
    | obtain ⟨cv8, ce9, ch6⟩ := zk_lt ch6
      subst ce9
      obtain ⟨_, ch6⟩ := zk_gd ch6
      obtain ⟨_, ch6⟩ := zk_gd ch6
      obtain ⟨_, ch6⟩ := zk_gd ch6
      obtain ⟨cv10, cv11, cv12, ch13, ch6⟩ := zk_o3 ch6
      skip
      simp only [Option.some.injEq, Prod.mk.injEq] at ch6
      obtain ⟨rfl, rfl, rfl, rfl, rfl⟩ := ch6
      unfold B_X12_undo_0 at k
      replace k := zk_f (by (try simp only [i32_lt, i32_le, i32_e, z32_0, z32_1]); omega) k
      replace k := zk_lt k
      obtain ⟨mv1, me2, k⟩ := k
      subst me2
      replace k := zk_lt k
      obtain ⟨mv3, me4, k⟩ := k
      subst me4
      replace k := zk_gd k
      obtain ⟨_, k⟩ := k
      replace k := zk_gd k
      obtain ⟨_, k⟩ := k
      replace k := zk_gd k
      obtain ⟨_, k⟩ := k
      replace k := zk_o3 k
      obtain ⟨mv5, mv6, mv7, mh8, k⟩ := k
      skip
      have hk := hV (chg_done - 1).toNatClampNeg (by rw [tcn]; omega)
      obtain ⟨t1, t2, t3⟩ := pw_set hk.1 hk.2.1 hk.2.2 ch13 mh8
      replace h := Option.some.inj h
      replace k := Option.some.inj k
      subst h
      subst k
      try dsimp only
      all_goals first
      | (exfalso; omega)
      | exact ⟨rfl, rfl, by (try dsimp only); omega, t1, t2, t3⟩
  · have ch6 := zk_f cc7 ch6
    have cc7n := cc7
    (try simp only [i32_lt, i32_le, i32_e, z32_0, z32_1] at cc7n)
    first
    | (exfalso; omega)
    | simp only [Option.some.injEq, Prod.mk.injEq] at ch6
      obtain ⟨rfl, rfl, rfl, rfl, rfl⟩ := ch6
      unfold B_X12_undo_0 at k
      by_cases mc9 : chg_done = 0
      · replace k := zk_t mc9 k
        have mc9n := mc9
        (try simp only [i32_lt, i32_le, i32_e, z32_0, z32_1] at mc9n)
        first
        | (exfalso; omega)
        | have h := Option.some.inj h
          replace k := Option.some.inj k
          subst h
          subst k
          try dsimp only
          all_goals first
          | (exfalso; omega)
          | exact ⟨rfl, rfl, hsz, fun e => e, fun w => w, fun w => w⟩
      · replace k := zk_f mc9 k
        have mc9n := mc9
        (try simp only [i32_lt, i32_le, i32_e, z32_0, z32_1] at mc9n)
        first
        | (exfalso; omega)
        | obtain ⟨mv10, me11, k⟩ := zk_lt k
          subst me11
          replace k := zk_lt k
          obtain ⟨mv12, me13, k⟩ := k
          subst me13
          replace k := zk_gd k
          obtain ⟨_, k⟩ := k
          replace k := zk_gd k
          obtain ⟨_, k⟩ := k
          replace k := zk_gd k
          obtain ⟨_, k⟩ := k
          replace k := zk_o3 k
          obtain ⟨mv14, mv15, mv16, mh17, k⟩ := k
          skip
          replace h := Option.some.inj h
          replace k := Option.some.inj k
          subst h
          subst k
          try dsimp only
          all_goals first
          | (exfalso; omega)
          | exact ⟨rfl, rfl, hsz, fun e => e, fun w => w, fun w => w⟩
set_option maxHeartbeats 4000000 in
set_option maxRecDepth 20000 in
theorem pw_redo {mod_code : Int32} {court_shoeCount : Int32} {mod_claims : Int32} {ts : Int32} {at_ : Int32} {f : Int32} {court_suitCount : Int32} {mod_undoneMany : Int32} {mod_open : Int32} {mod_laid : Int32} {mod_isBoth : Int32} {mod_wished : Int32} {mod_bestMany : Int32} {mod_bestRow : Int32} {mod_ringDigits : Int32} {mod_traces : Int32} {mod_shoeDay : Nat → Int32} {mod_isWon : Nat → Int32} {mod_undoneFrom : Nat → Int32} {court_claimCount : Int32} {court_shoeDay : Nat → Int32} {court_suits : Nat → Option Nat} {S_who : Nat → Int32} {S_against : Nat → Int32} {S_kind : Nat → Int32} {S_won : Nat → Int32} {S_day : Nat → Int32} {S_land : Nat → Int32} {S_undoneFrom : Nat → Int32} {S_asked : Nat → Nat → Int32} {S_askedCount : Nat → Int32} {S_askedBits : Nat → Int32} {S_first : Nat → Int32} {S_foundSo : Nat → Int32} {S_foundNot : Nat → Int32} {S_fought : Nat → Int32} {S_needed : Nat → Int32} {chg_done : Int32} {chg_size : Int32} {chg_sorts : Nat → Int32} {chg_numbers : Nat → Int32} {chg_afters : Nat → Int32} (hd : 0 ≤ chg_done.toInt ∧ chg_done.toInt ≤ 40) (hsz : chg_size.toInt = chg_done.toInt + mod_undoneMany.toInt) (hu : 0 ≤ mod_undoneMany.toInt ∧ chg_size.toInt ≤ 40) (hV : CV chg_size court_shoeCount court_suitCount chg_sorts chg_numbers) {R : Int32 × (Nat → Int32) × Int32 × (Nat → Int32) × (Nat → Int32)} {Q : Int32 × Int32 × Int32 × (Nat → Int32) × (Nat → Int32) × (Nat → Int32)} (h : f_X11_redo court_shoeCount court_claimCount court_suitCount court_shoeDay court_suits chg_done chg_size chg_sorts chg_numbers chg_afters S_who S_against S_kind S_won S_day S_land S_undoneFrom S_asked S_askedCount S_askedBits S_first S_foundSo S_foundNot S_fought S_needed = some R) (k : f_X12_redo mod_code court_shoeCount mod_claims ts at_ f court_suitCount chg_done mod_undoneMany mod_open mod_laid mod_isBoth mod_wished mod_bestMany mod_bestRow mod_ringDigits mod_traces mod_shoeDay mod_isWon mod_undoneFrom chg_sorts chg_numbers chg_afters = some Q) : R.1 = Q.1 ∧ R.2.2.1 = Q.2.1 ∧ chg_size.toInt = Q.2.1.toInt + Q.2.2.1.toInt ∧ (court_shoeDay = mod_shoeDay → R.2.1 = Q.2.2.2.1) ∧ (WU court_suitCount S_won mod_isWon → WU court_suitCount R.2.2.2.1 Q.2.2.2.2.1) ∧ (WU court_suitCount S_undoneFrom mod_undoneFrom → WU court_suitCount R.2.2.2.2 Q.2.2.2.2.2) := by
  have hm1 := i32_m1 (a := chg_done) (by omega)
  have hm2 := i32_m1 (a := mod_undoneMany) (by omega)
  have hp1 := i32_s (a := chg_done) (by omega)
  have hp2 := i32_s (a := mod_undoneMany) (by omega)
  have hp3 : 0 ≤ (chg_done + 1).toInt → (chg_done + 1).toInt ≤ 100 → (chg_size - (chg_done + 1)).toInt = chg_size.toInt - (chg_done + 1).toInt := fun _ _ => i32_d (by omega) (by omega)
  unfold f_X11_redo at h
  unfold f_X12_redo at k
  unfold B_X11_redo_0 at h
  replace h := zk_o5 h
  obtain ⟨cv1, cv2, cv3, cv4, cv5, ch6, h⟩ := h
  unfold f_X1_again at ch6
  unfold B_X1_again_0 at ch6
  by_cases cc7 : chg_done < chg_size
  · have ch6 := zk_t cc7 ch6
    have cc7n := cc7
    (try simp only [i32_lt, i32_le, i32_e, z32_0, z32_1] at cc7n)
    first
    | (exfalso; omega)
    | obtain ⟨_, ch6⟩ := zk_gd ch6
      obtain ⟨_, ch6⟩ := zk_gd ch6
      obtain ⟨_, ch6⟩ := zk_gd ch6
      obtain ⟨cv8, cv9, cv10, ch11, ch6⟩ := zk_o3 ch6
      skip
      obtain ⟨cv12, ce13, ch6⟩ := zk_lt ch6
      subst ce13
      simp only [Option.some.injEq, Prod.mk.injEq] at ch6
      obtain ⟨rfl, rfl, rfl, rfl, rfl⟩ := ch6
      unfold B_X12_redo_0 at k
      by_cases mc1 : mod_undoneMany = 0
      · replace k := zk_t mc1 k
        have mc1n := mc1
        (try simp only [i32_lt, i32_le, i32_e, z32_0, z32_1] at mc1n)
        first
        | (exfalso; omega)
        | have h := Option.some.inj h
          replace k := Option.some.inj k
          subst h
          subst k
          try dsimp only
          all_goals first
          | (exfalso; omega)
          | exact ⟨rfl, rfl, hsz, fun e => e, fun w => w, fun w => w⟩
      · replace k := zk_f mc1 k
        have mc1n := mc1
        (try simp only [i32_lt, i32_le, i32_e, z32_0, z32_1] at mc1n)
        first
        | (exfalso; omega)
        | obtain ⟨_, k⟩ := zk_gd k
          replace k := zk_gd k
          obtain ⟨_, k⟩ := k
          replace k := zk_gd k
          obtain ⟨_, k⟩ := k
          replace k := zk_o3 k
          obtain ⟨mv2, mv3, mv4, mh5, k⟩ := k
          skip
          replace k := zk_lt k
          obtain ⟨mv6, me7, k⟩ := k
          subst me7
          replace k := zk_lt k
          obtain ⟨mv8, me9, k⟩ := k
          subst me9
          have hk := hV chg_done.toNatClampNeg (by rw [tcn]; omega)
          obtain ⟨t1, t2, t3⟩ := pw_set hk.1 hk.2.1 hk.2.2 ch11 mh5
          replace h := Option.some.inj h
          replace k := Option.some.inj k
          subst h
          subst k
          try dsimp only
          all_goals first
          | (exfalso; omega)
          | exact ⟨(by rw [i32_e]; (try dsimp only); omega), rfl, by (try dsimp only); omega, t1, t2, t3⟩
  · have ch6 := zk_f cc7 ch6
    have cc7n := cc7
    (try simp only [i32_lt, i32_le, i32_e, z32_0, z32_1] at cc7n)
    first
    | (exfalso; omega)
    | simp only [Option.some.injEq, Prod.mk.injEq] at ch6
      obtain ⟨rfl, rfl, rfl, rfl, rfl⟩ := ch6
      unfold B_X12_redo_0 at k
      by_cases mc10 : mod_undoneMany = 0
      · replace k := zk_t mc10 k
        have mc10n := mc10
        (try simp only [i32_lt, i32_le, i32_e, z32_0, z32_1] at mc10n)
        first
        | (exfalso; omega)
        | have h := Option.some.inj h
          replace k := Option.some.inj k
          subst h
          subst k
          try dsimp only
          all_goals first
          | (exfalso; omega)
          | exact ⟨rfl, rfl, hsz, fun e => e, fun w => w, fun w => w⟩
      · replace k := zk_f mc10 k
        have mc10n := mc10
        (try simp only [i32_lt, i32_le, i32_e, z32_0, z32_1] at mc10n)
        first
        | (exfalso; omega)
        | obtain ⟨_, k⟩ := zk_gd k
          replace k := zk_gd k
          obtain ⟨_, k⟩ := k
          replace k := zk_gd k
          obtain ⟨_, k⟩ := k
          replace k := zk_o3 k
          obtain ⟨mv11, mv12, mv13, mh14, k⟩ := k
          skip
          replace k := zk_lt k
          obtain ⟨mv15, me16, k⟩ := k
          subst me16
          replace k := zk_lt k
          obtain ⟨mv17, me18, k⟩ := k
          subst me18
          replace h := Option.some.inj h
          replace k := Option.some.inj k
          subst h
          subst k
          try dsimp only
          all_goals first
          | (exfalso; omega)
          | exact ⟨rfl, rfl, hsz, fun e => e, fun w => w, fun w => w⟩
set_option maxHeartbeats 4000000 in
set_option maxRecDepth 20000 in
theorem pw_moveShoe {mod_code : Int32} {court_shoeCount : Int32} {mod_claims : Int32} {ts : Int32} {at_ : Int32} {f : Int32} {court_suitCount : Int32} {mod_undoneMany : Int32} {mod_open : Int32} {mod_laid : Int32} {mod_isBoth : Int32} {mod_wished : Int32} {mod_bestMany : Int32} {mod_bestRow : Int32} {mod_ringDigits : Int32} {mod_traces : Int32} {mod_shoeDay : Nat → Int32} {mod_isWon : Nat → Int32} {mod_undoneFrom : Nat → Int32} {court_claimCount : Int32} {court_shoeDay : Nat → Int32} {court_suits : Nat → Option Nat} {S_who : Nat → Int32} {S_against : Nat → Int32} {S_kind : Nat → Int32} {S_won : Nat → Int32} {S_day : Nat → Int32} {S_land : Nat → Int32} {S_undoneFrom : Nat → Int32} {S_asked : Nat → Nat → Int32} {S_askedCount : Nat → Int32} {S_askedBits : Nat → Int32} {S_first : Nat → Int32} {S_foundSo : Nat → Int32} {S_foundNot : Nat → Int32} {S_fought : Nat → Int32} {S_needed : Nat → Int32} {chg_done : Int32} {chg_size : Int32} {chg_sorts : Nat → Int32} {chg_numbers : Nat → Int32} {chg_befores : Nat → Int32} {chg_afters : Nat → Int32} {x1 x2 : Int32} (hde : court_shoeDay = mod_shoeDay) (hn : 0 ≤ court_suitCount.toInt ∧ court_suitCount.toInt ≤ 40) (hc : 0 ≤ court_shoeCount.toInt ∧ court_shoeCount.toInt ≤ 40) (hd : 0 ≤ chg_done.toInt ∧ chg_done.toInt ≤ 40) (hsz : chg_size.toInt = chg_done.toInt + mod_undoneMany.toInt) (hu : 0 ≤ mod_undoneMany.toInt ∧ chg_size.toInt ≤ 40) (hV : CV chg_size court_shoeCount court_suitCount chg_sorts chg_numbers) {R : Int32 × (Nat → Int32) × Int32 × Int32 × (Nat → Int32) × (Nat → Int32) × (Nat → Int32) × (Nat → Int32) × (Nat → Int32) × (Nat → Int32)} {Q : Int32 × Int32 × Int32 × (Nat → Int32) × (Nat → Int32) × (Nat → Int32) × (Nat → Int32) × (Nat → Int32) × (Nat → Int32) × (Nat → Int32)} (h : f_X11_moveShoe x1 x2 court_shoeCount court_claimCount court_suitCount court_shoeDay court_suits chg_done chg_size chg_sorts chg_numbers chg_befores chg_afters S_who S_against S_kind S_won S_day S_land S_undoneFrom S_asked S_askedCount S_askedBits S_first S_foundSo S_foundNot S_fought S_needed = some R) (k : f_X12_moveShoe x1 x2 mod_code court_shoeCount mod_claims ts at_ f court_suitCount chg_done mod_undoneMany mod_open mod_laid mod_isBoth mod_wished mod_bestMany mod_bestRow mod_ringDigits mod_traces mod_shoeDay mod_isWon mod_undoneFrom chg_sorts chg_numbers chg_befores chg_afters = some Q) : R.1 = Q.1 ∧ R.2.2.1 = Q.2.1 ∧ R.2.2.2.1.toInt = Q.2.1.toInt + Q.2.2.1.toInt ∧ R.2.2.2.2.1 = Q.2.2.2.2.2.2.1 ∧ R.2.2.2.2.2.1 = Q.2.2.2.2.2.2.2.1 ∧ R.2.2.2.2.2.2.1 = Q.2.2.2.2.2.2.2.2.1 ∧ R.2.2.2.2.2.2.2.1 = Q.2.2.2.2.2.2.2.2.2 ∧ CV R.2.2.2.1 court_shoeCount court_suitCount R.2.2.2.2.1 R.2.2.2.2.2.1 ∧ (court_shoeDay = mod_shoeDay → R.2.1 = Q.2.2.2.1) ∧ (WU court_suitCount S_won mod_isWon → WU court_suitCount R.2.2.2.2.2.2.2.2.1 Q.2.2.2.2.1) ∧ (WU court_suitCount S_undoneFrom mod_undoneFrom → WU court_suitCount R.2.2.2.2.2.2.2.2.2 Q.2.2.2.2.2.1) := by
  have hn1 := i32_m1 (a := court_suitCount) (by omega)
  have hc1 := i32_m1 (a := court_shoeCount) (by omega)
  unfold f_X11_moveShoe at h
  unfold f_X12_moveShoe at k
  unfold B_X11_moveShoe_0 at h
  replace h := zk_o2 h
  obtain ⟨cv1, cv2, ch3, h⟩ := h
  unfold f_X11_isShoeNumber at ch3
  unfold B_X11_isShoeNumber_0 at ch3
  by_cases cc4 : x1 < 0
  · have ch3 := zk_t cc4 ch3
    have cc4n := cc4
    (try simp only [i32_lt, i32_le, i32_e, z32_0, z32_1] at cc4n)
    first
    | (exfalso; omega)
    | simp only [Option.some.injEq, Prod.mk.injEq] at ch3
      obtain ⟨rfl, _⟩ := ch3
      replace h := zk_t rfl h
      unfold B_X12_moveShoe_0 at k
      replace k := zk_o2 k
      obtain ⟨mv1, mv2, mh3, k⟩ := k
      unfold f_X12_isShoe at mh3
      unfold B_X12_isShoe_0 at mh3
      obtain ⟨mv4, mv5, mh6, mh3⟩ := zk_o2 mh3
      unfold f_X12_in at mh6
      unfold B_X12_in_0 at mh6
      have mh6 := zk_t cc4 mh6
      simp only [Option.some.injEq, Prod.mk.injEq] at mh6
      obtain ⟨rfl, _⟩ := mh6
      obtain ⟨_, mh3⟩ := zk_gd mh3
      simp only [Option.some.injEq, Prod.mk.injEq] at mh3
      obtain ⟨rfl, _⟩ := mh3
      replace k := zk_t rfl k
      replace h := Option.some.inj h
      replace k := Option.some.inj k
      subst h
      subst k
      try dsimp only
      all_goals first
      | (exfalso; omega)
      | exact ⟨rfl, rfl, hsz, rfl, rfl, rfl, rfl, hV, fun e => e, fun w => w, fun w => w⟩
  · have ch3 := zk_f cc4 ch3
    have cc4n := cc4
    (try simp only [i32_lt, i32_le, i32_e, z32_0, z32_1] at cc4n)
    first
    | (exfalso; omega)
    | by_cases cc5 : court_shoeCount ≤ x1
      · have ch3 := zk_t cc5 ch3
        have cc5n := cc5
        (try simp only [i32_lt, i32_le, i32_e, z32_0, z32_1] at cc5n)
        first
        | (exfalso; omega)
        | simp only [Option.some.injEq, Prod.mk.injEq] at ch3
          obtain ⟨rfl, _⟩ := ch3
          replace h := zk_t rfl h
          unfold B_X12_moveShoe_0 at k
          replace k := zk_o2 k
          obtain ⟨mv7, mv8, mh9, k⟩ := k
          unfold f_X12_isShoe at mh9
          unfold B_X12_isShoe_0 at mh9
          obtain ⟨mv10, mv11, mh12, mh9⟩ := zk_o2 mh9
          unfold f_X12_in at mh12
          unfold B_X12_in_0 at mh12
          have mh12 := zk_f cc4 mh12
          have mh12 := zk_t (by (try simp only [i32_lt, i32_le, i32_e, z32_0, z32_1]); omega) mh12
          simp only [Option.some.injEq, Prod.mk.injEq] at mh12
          obtain ⟨rfl, _⟩ := mh12
          obtain ⟨_, mh9⟩ := zk_gd mh9
          simp only [Option.some.injEq, Prod.mk.injEq] at mh9
          obtain ⟨rfl, _⟩ := mh9
          replace k := zk_t rfl k
          replace h := Option.some.inj h
          replace k := Option.some.inj k
          subst h
          subst k
          try dsimp only
          all_goals first
          | (exfalso; omega)
          | exact ⟨rfl, rfl, hsz, rfl, rfl, rfl, rfl, hV, fun e => e, fun w => w, fun w => w⟩
      · have ch3 := zk_f cc5 ch3
        have cc5n := cc5
        (try simp only [i32_lt, i32_le, i32_e, z32_0, z32_1] at cc5n)
        first
        | (exfalso; omega)
        | simp only [Option.some.injEq, Prod.mk.injEq] at ch3
          obtain ⟨rfl, _⟩ := ch3
          replace h := zk_f (by decide) h
          replace h := zk_o2 h
          obtain ⟨cv6, cv7, ch8, h⟩ := h
          unfold f_X11_isDay at ch8
          unfold B_X11_isDay_0 at ch8
          by_cases cc9 : x2 < 0
          · have ch8 := zk_t cc9 ch8
            have cc9n := cc9
            (try simp only [i32_lt, i32_le, i32_e, z32_0, z32_1] at cc9n)
            first
            | (exfalso; omega)
            | simp only [Option.some.injEq, Prod.mk.injEq] at ch8
              obtain ⟨rfl, _⟩ := ch8
              replace h := zk_t rfl h
              unfold B_X12_moveShoe_0 at k
              replace k := zk_o2 k
              obtain ⟨mv13, mv14, mh15, k⟩ := k
              unfold f_X12_isShoe at mh15
              unfold B_X12_isShoe_0 at mh15
              obtain ⟨mv16, mv17, mh18, mh15⟩ := zk_o2 mh15
              unfold f_X12_in at mh18
              unfold B_X12_in_0 at mh18
              have mh18 := zk_f cc4 mh18
              have mh18 := zk_f (by (try simp only [i32_lt, i32_le, i32_e, z32_0, z32_1]); omega) mh18
              simp only [Option.some.injEq, Prod.mk.injEq] at mh18
              obtain ⟨rfl, _⟩ := mh18
              obtain ⟨_, mh15⟩ := zk_gd mh15
              simp only [Option.some.injEq, Prod.mk.injEq] at mh15
              obtain ⟨rfl, _⟩ := mh15
              replace k := zk_f (by decide) k
              replace k := zk_o2 k
              obtain ⟨mv19, mv20, mh21, k⟩ := k
              unfold f_X12_isDay at mh21
              unfold B_X12_isDay_0 at mh21
              obtain ⟨mv22, mv23, mh24, mh21⟩ := zk_o2 mh21
              unfold f_X12_in at mh24
              unfold B_X12_in_0 at mh24
              have mh24 := zk_t cc9 mh24
              simp only [Option.some.injEq, Prod.mk.injEq] at mh24
              obtain ⟨rfl, _⟩ := mh24
              obtain ⟨_, mh21⟩ := zk_gd mh21
              simp only [Option.some.injEq, Prod.mk.injEq] at mh21
              obtain ⟨rfl, _⟩ := mh21
              replace k := zk_t rfl k
              replace h := Option.some.inj h
              replace k := Option.some.inj k
              subst h
              subst k
              try dsimp only
              all_goals first
              | (exfalso; omega)
              | exact ⟨rfl, rfl, hsz, rfl, rfl, rfl, rfl, hV, fun e => e, fun w => w, fun w => w⟩
          · have ch8 := zk_f cc9 ch8
            have cc9n := cc9
            (try simp only [i32_lt, i32_le, i32_e, z32_0, z32_1] at cc9n)
            first
            | (exfalso; omega)
            | by_cases cc10 : (10000 : Int32) ≤ x2
              · have ch8 := zk_t cc10 ch8
                have cc10n := cc10
                (try simp only [i32_lt, i32_le, i32_e, z32_0, z32_1, z32L_10000] at cc10n)
                first
                | (exfalso; omega)
                | simp only [Option.some.injEq, Prod.mk.injEq] at ch8
                  obtain ⟨rfl, _⟩ := ch8
                  replace h := zk_t rfl h
                  unfold B_X12_moveShoe_0 at k
                  replace k := zk_o2 k
                  obtain ⟨mv25, mv26, mh27, k⟩ := k
                  unfold f_X12_isShoe at mh27
                  unfold B_X12_isShoe_0 at mh27
                  obtain ⟨mv28, mv29, mh30, mh27⟩ := zk_o2 mh27
                  unfold f_X12_in at mh30
                  unfold B_X12_in_0 at mh30
                  have mh30 := zk_f cc4 mh30
                  have mh30 := zk_f (by (try simp only [i32_lt, i32_le, i32_e, z32_0, z32_1]); omega) mh30
                  simp only [Option.some.injEq, Prod.mk.injEq] at mh30
                  obtain ⟨rfl, _⟩ := mh30
                  obtain ⟨_, mh27⟩ := zk_gd mh27
                  simp only [Option.some.injEq, Prod.mk.injEq] at mh27
                  obtain ⟨rfl, _⟩ := mh27
                  replace k := zk_f (by decide) k
                  replace k := zk_o2 k
                  obtain ⟨mv31, mv32, mh33, k⟩ := k
                  unfold f_X12_isDay at mh33
                  unfold B_X12_isDay_0 at mh33
                  obtain ⟨mv34, mv35, mh36, mh33⟩ := zk_o2 mh33
                  unfold f_X12_in at mh36
                  unfold B_X12_in_0 at mh36
                  have mh36 := zk_f cc9 mh36
                  have mh36 := zk_t (by (try simp only [i32_lt, i32_le, i32_e, z32_0, z32_1, z32L_9999]); omega) mh36
                  simp only [Option.some.injEq, Prod.mk.injEq] at mh36
                  obtain ⟨rfl, _⟩ := mh36
                  obtain ⟨_, mh33⟩ := zk_gd mh33
                  simp only [Option.some.injEq, Prod.mk.injEq] at mh33
                  obtain ⟨rfl, _⟩ := mh33
                  replace k := zk_t rfl k
                  replace h := Option.some.inj h
                  replace k := Option.some.inj k
                  subst h
                  subst k
                  try dsimp only
                  all_goals first
                  | (exfalso; omega)
                  | exact ⟨rfl, rfl, hsz, rfl, rfl, rfl, rfl, hV, fun e => e, fun w => w, fun w => w⟩
              · have ch8 := zk_f cc10 ch8
                have cc10n := cc10
                (try simp only [i32_lt, i32_le, i32_e, z32_0, z32_1, z32L_10000] at cc10n)
                first
                | (exfalso; omega)
                | simp only [Option.some.injEq, Prod.mk.injEq] at ch8
                  obtain ⟨rfl, _⟩ := ch8
                  replace h := zk_f (by decide) h
                  replace h := zk_gd h
                  obtain ⟨_, h⟩ := h
                  replace h := zk_lt h
                  obtain ⟨cv11, ce12, h⟩ := h
                  subst ce12
                  replace h := zk_o9 h
                  obtain ⟨cv13, cv14, cv15, cv16, cv17, cv18, cv19, cv20, cv21, ch22, h⟩ := h
                  skip
                  unfold B_X12_moveShoe_0 at k
                  replace k := zk_o2 k
                  obtain ⟨mv37, mv38, mh39, k⟩ := k
                  unfold f_X12_isShoe at mh39
                  unfold B_X12_isShoe_0 at mh39
                  obtain ⟨mv40, mv41, mh42, mh39⟩ := zk_o2 mh39
                  unfold f_X12_in at mh42
                  unfold B_X12_in_0 at mh42
                  have mh42 := zk_f cc4 mh42
                  have mh42 := zk_f (by (try simp only [i32_lt, i32_le, i32_e, z32_0, z32_1]); omega) mh42
                  simp only [Option.some.injEq, Prod.mk.injEq] at mh42
                  obtain ⟨rfl, _⟩ := mh42
                  obtain ⟨_, mh39⟩ := zk_gd mh39
                  simp only [Option.some.injEq, Prod.mk.injEq] at mh39
                  obtain ⟨rfl, _⟩ := mh39
                  replace k := zk_f (by decide) k
                  replace k := zk_o2 k
                  obtain ⟨mv43, mv44, mh45, k⟩ := k
                  unfold f_X12_isDay at mh45
                  unfold B_X12_isDay_0 at mh45
                  obtain ⟨mv46, mv47, mh48, mh45⟩ := zk_o2 mh45
                  unfold f_X12_in at mh48
                  unfold B_X12_in_0 at mh48
                  have mh48 := zk_f cc9 mh48
                  have mh48 := zk_f (by (try simp only [i32_lt, i32_le, i32_e, z32_0, z32_1, z32L_9999]); omega) mh48
                  simp only [Option.some.injEq, Prod.mk.injEq] at mh48
                  obtain ⟨rfl, _⟩ := mh48
                  obtain ⟨_, mh45⟩ := zk_gd mh45
                  simp only [Option.some.injEq, Prod.mk.injEq] at mh45
                  obtain ⟨rfl, _⟩ := mh45
                  replace k := zk_f (by decide) k
                  replace k := zk_o10 k
                  obtain ⟨mv49, mv50, mv51, mv52, mv53, mv54, mv55, mv56, mv57, mv58, mh59, k⟩ := k
                  skip
                  first
                  | (exfalso; omega)
                  | skip
                    obtain ⟨t0, t1⟩ := pw_make (by decide) (fun _ => by omega) (fun z => absurd (by decide) z) hd hsz hu hV (fun z => absurd z (by decide)) (fun z => absurd z (by decide)) (fun _ => by rw [hde]) ch22 mh59
                    replace h := Option.some.inj h
                    replace k := Option.some.inj k
                    subst h
                    subst k
                    exact ⟨t0.symm, t1⟩
set_option maxHeartbeats 4000000 in
set_option maxRecDepth 20000 in
theorem pw_won {mod_code : Int32} {court_shoeCount : Int32} {mod_claims : Int32} {ts : Int32} {at_ : Int32} {f : Int32} {court_suitCount : Int32} {mod_undoneMany : Int32} {mod_open : Int32} {mod_laid : Int32} {mod_isBoth : Int32} {mod_wished : Int32} {mod_bestMany : Int32} {mod_bestRow : Int32} {mod_ringDigits : Int32} {mod_traces : Int32} {mod_shoeDay : Nat → Int32} {mod_isWon : Nat → Int32} {mod_undoneFrom : Nat → Int32} {court_claimCount : Int32} {court_shoeDay : Nat → Int32} {court_suits : Nat → Option Nat} {S_who : Nat → Int32} {S_against : Nat → Int32} {S_kind : Nat → Int32} {S_won : Nat → Int32} {S_day : Nat → Int32} {S_land : Nat → Int32} {S_undoneFrom : Nat → Int32} {S_asked : Nat → Nat → Int32} {S_askedCount : Nat → Int32} {S_askedBits : Nat → Int32} {S_first : Nat → Int32} {S_foundSo : Nat → Int32} {S_foundNot : Nat → Int32} {S_fought : Nat → Int32} {S_needed : Nat → Int32} {chg_done : Int32} {chg_size : Int32} {chg_sorts : Nat → Int32} {chg_numbers : Nat → Int32} {chg_befores : Nat → Int32} {chg_afters : Nat → Int32} {x1 x2 : Int32} (hw : WU court_suitCount S_won mod_isWon) (hn : 0 ≤ court_suitCount.toInt ∧ court_suitCount.toInt ≤ 40) (hc : 0 ≤ court_shoeCount.toInt ∧ court_shoeCount.toInt ≤ 40) (hd : 0 ≤ chg_done.toInt ∧ chg_done.toInt ≤ 40) (hsz : chg_size.toInt = chg_done.toInt + mod_undoneMany.toInt) (hu : 0 ≤ mod_undoneMany.toInt ∧ chg_size.toInt ≤ 40) (hV : CV chg_size court_shoeCount court_suitCount chg_sorts chg_numbers) {R : Int32 × (Nat → Int32) × Int32 × Int32 × (Nat → Int32) × (Nat → Int32) × (Nat → Int32) × (Nat → Int32) × (Nat → Int32) × (Nat → Int32)} {Q : Int32 × Int32 × Int32 × (Nat → Int32) × (Nat → Int32) × (Nat → Int32) × (Nat → Int32) × (Nat → Int32) × (Nat → Int32) × (Nat → Int32)} (h : f_X11_won x1 x2 court_shoeCount court_claimCount court_suitCount court_shoeDay court_suits chg_done chg_size chg_sorts chg_numbers chg_befores chg_afters S_who S_against S_kind S_won S_day S_land S_undoneFrom S_asked S_askedCount S_askedBits S_first S_foundSo S_foundNot S_fought S_needed = some R) (k : f_X12_won x1 x2 mod_code court_shoeCount mod_claims ts at_ f court_suitCount chg_done mod_undoneMany mod_open mod_laid mod_isBoth mod_wished mod_bestMany mod_bestRow mod_ringDigits mod_traces mod_shoeDay mod_isWon mod_undoneFrom chg_sorts chg_numbers chg_befores chg_afters = some Q) : R.1 = Q.1 ∧ R.2.2.1 = Q.2.1 ∧ R.2.2.2.1.toInt = Q.2.1.toInt + Q.2.2.1.toInt ∧ R.2.2.2.2.1 = Q.2.2.2.2.2.2.1 ∧ R.2.2.2.2.2.1 = Q.2.2.2.2.2.2.2.1 ∧ R.2.2.2.2.2.2.1 = Q.2.2.2.2.2.2.2.2.1 ∧ R.2.2.2.2.2.2.2.1 = Q.2.2.2.2.2.2.2.2.2 ∧ CV R.2.2.2.1 court_shoeCount court_suitCount R.2.2.2.2.1 R.2.2.2.2.2.1 ∧ (court_shoeDay = mod_shoeDay → R.2.1 = Q.2.2.2.1) ∧ (WU court_suitCount S_won mod_isWon → WU court_suitCount R.2.2.2.2.2.2.2.2.1 Q.2.2.2.2.1) ∧ (WU court_suitCount S_undoneFrom mod_undoneFrom → WU court_suitCount R.2.2.2.2.2.2.2.2.2 Q.2.2.2.2.2.1) := by
  have hn1 := i32_m1 (a := court_suitCount) (by omega)
  have hc1 := i32_m1 (a := court_shoeCount) (by omega)
  unfold f_X11_won at h
  unfold f_X12_won at k
  unfold B_X11_won_0 at h
  replace h := zk_o2 h
  obtain ⟨cv1, cv2, ch3, h⟩ := h
  unfold f_X2_suitAt at ch3
  unfold B_X2_suitAt_0 at ch3
  by_cases cc4 : x1 < 0
  · have ch3 := zk_t cc4 ch3
    have cc4n := cc4
    (try simp only [i32_lt, i32_le, i32_e, z32_0, z32_1] at cc4n)
    first
    | (exfalso; omega)
    | simp only [Option.some.injEq, Prod.mk.injEq] at ch3
      obtain ⟨rfl, _⟩ := ch3
      replace h := zk_t (by decide) h
      unfold B_X12_won_0 at k
      replace k := zk_o2 k
      obtain ⟨mv1, mv2, mh3, k⟩ := k
      unfold f_X12_isSuit at mh3
      unfold B_X12_isSuit_0 at mh3
      obtain ⟨mv4, mv5, mh6, mh3⟩ := zk_o2 mh3
      unfold f_X12_in at mh6
      unfold B_X12_in_0 at mh6
      have mh6 := zk_t cc4 mh6
      simp only [Option.some.injEq, Prod.mk.injEq] at mh6
      obtain ⟨rfl, _⟩ := mh6
      obtain ⟨_, mh3⟩ := zk_gd mh3
      simp only [Option.some.injEq, Prod.mk.injEq] at mh3
      obtain ⟨rfl, _⟩ := mh3
      replace k := zk_t rfl k
      replace h := Option.some.inj h
      replace k := Option.some.inj k
      subst h
      subst k
      try dsimp only
      all_goals first
      | (exfalso; omega)
      | exact ⟨rfl, rfl, hsz, rfl, rfl, rfl, rfl, hV, fun e => e, fun w => w, fun w => w⟩
  · have ch3 := zk_f cc4 ch3
    have cc4n := cc4
    (try simp only [i32_lt, i32_le, i32_e, z32_0, z32_1] at cc4n)
    first
    | (exfalso; omega)
    | by_cases cc5 : court_suitCount ≤ x1
      · have ch3 := zk_t cc5 ch3
        have cc5n := cc5
        (try simp only [i32_lt, i32_le, i32_e, z32_0, z32_1] at cc5n)
        first
        | (exfalso; omega)
        | simp only [Option.some.injEq, Prod.mk.injEq] at ch3
          obtain ⟨rfl, _⟩ := ch3
          replace h := zk_t (by decide) h
          unfold B_X12_won_0 at k
          replace k := zk_o2 k
          obtain ⟨mv7, mv8, mh9, k⟩ := k
          unfold f_X12_isSuit at mh9
          unfold B_X12_isSuit_0 at mh9
          obtain ⟨mv10, mv11, mh12, mh9⟩ := zk_o2 mh9
          unfold f_X12_in at mh12
          unfold B_X12_in_0 at mh12
          have mh12 := zk_f cc4 mh12
          have mh12 := zk_t (by (try simp only [i32_lt, i32_le, i32_e, z32_0, z32_1]); omega) mh12
          simp only [Option.some.injEq, Prod.mk.injEq] at mh12
          obtain ⟨rfl, _⟩ := mh12
          obtain ⟨_, mh9⟩ := zk_gd mh9
          simp only [Option.some.injEq, Prod.mk.injEq] at mh9
          obtain ⟨rfl, _⟩ := mh9
          replace k := zk_t rfl k
          replace h := Option.some.inj h
          replace k := Option.some.inj k
          subst h
          subst k
          try dsimp only
          all_goals first
          | (exfalso; omega)
          | exact ⟨rfl, rfl, hsz, rfl, rfl, rfl, rfl, hV, fun e => e, fun w => w, fun w => w⟩
      · have ch3 := zk_f cc5 ch3
        have cc5n := cc5
        (try simp only [i32_lt, i32_le, i32_e, z32_0, z32_1] at cc5n)
        first
        | (exfalso; omega)
        | obtain ⟨_, ch3⟩ := zk_gd ch3
          obtain ⟨_, ch3⟩ := zk_gd ch3
          obtain ⟨_, ch3⟩ := zk_gd ch3
          simp only [Option.some.injEq, Prod.mk.injEq] at ch3
          obtain ⟨rfl, _⟩ := ch3
          replace h := zk_f cc4 h
          replace h := zk_o2 h
          obtain ⟨cv6, cv7, ch8, h⟩ := h
          unfold f_X11_isChoice at ch8
          unfold B_X11_isChoice_0 at ch8
          by_cases cc9 : x2 = 0
          · have ch8 := zk_t cc9 ch8
            have cc9n := cc9
            (try simp only [i32_lt, i32_le, i32_e, z32_0, z32_1] at cc9n)
            first
            | (exfalso; omega)
            | unfold B_X11_isChoice_9 at ch8
              simp only [Option.some.injEq, Prod.mk.injEq] at ch8
              obtain ⟨rfl, _⟩ := ch8
              replace h := zk_f (by decide) h
              replace h := zk_gd h
              obtain ⟨_, h⟩ := h
              replace h := zk_lt h
              obtain ⟨cv10, ce11, h⟩ := h
              subst ce11
              replace h := zk_o9 h
              obtain ⟨cv12, cv13, cv14, cv15, cv16, cv17, cv18, cv19, cv20, ch21, h⟩ := h
              skip
              unfold B_X12_won_0 at k
              replace k := zk_o2 k
              obtain ⟨mv13, mv14, mh15, k⟩ := k
              unfold f_X12_isSuit at mh15
              unfold B_X12_isSuit_0 at mh15
              obtain ⟨mv16, mv17, mh18, mh15⟩ := zk_o2 mh15
              unfold f_X12_in at mh18
              unfold B_X12_in_0 at mh18
              have mh18 := zk_f cc4 mh18
              have mh18 := zk_f (by (try simp only [i32_lt, i32_le, i32_e, z32_0, z32_1]); omega) mh18
              simp only [Option.some.injEq, Prod.mk.injEq] at mh18
              obtain ⟨rfl, _⟩ := mh18
              obtain ⟨_, mh15⟩ := zk_gd mh15
              simp only [Option.some.injEq, Prod.mk.injEq] at mh15
              obtain ⟨rfl, _⟩ := mh15
              replace k := zk_f (by decide) k
              replace k := zk_o2 k
              obtain ⟨mv19, mv20, mh21, k⟩ := k
              unfold f_X12_in at mh21
              unfold B_X12_in_0 at mh21
              have mh21 := zk_f (by (try simp only [i32_lt, i32_le, i32_e, z32_0, z32_1]); omega) mh21
              have mh21 := zk_f (by (try simp only [i32_lt, i32_le, i32_e, z32_0, z32_1]); omega) mh21
              simp only [Option.some.injEq, Prod.mk.injEq] at mh21
              obtain ⟨rfl, _⟩ := mh21
              replace k := zk_f (by decide) k
              replace k := zk_o10 k
              obtain ⟨mv22, mv23, mv24, mv25, mv26, mv27, mv28, mv29, mv30, mv31, mh32, k⟩ := k
              skip
              first
              | (exfalso; omega)
              | skip
                obtain ⟨t0, t1⟩ := pw_make (by decide) (fun z => absurd z (by decide)) (fun _ => by omega) hd hsz hu hV (fun _ => hw _ (by rw [tcn]; omega)) (fun z => absurd z (by decide)) (fun z => absurd z (by decide)) ch21 mh32
                replace h := Option.some.inj h
                replace k := Option.some.inj k
                subst h
                subst k
                exact ⟨t0.symm, t1⟩
          · have ch8 := zk_f cc9 ch8
            have cc9n := cc9
            (try simp only [i32_lt, i32_le, i32_e, z32_0, z32_1] at cc9n)
            first
            | (exfalso; omega)
            | by_cases cc22 : x2 = (1 : Int32)
              · have ch8 := zk_t cc22 ch8
                have cc22n := cc22
                (try simp only [i32_lt, i32_le, i32_e, z32_0, z32_1] at cc22n)
                first
                | (exfalso; omega)
                | unfold B_X11_isChoice_9 at ch8
                  simp only [Option.some.injEq, Prod.mk.injEq] at ch8
                  obtain ⟨rfl, _⟩ := ch8
                  replace h := zk_f (by decide) h
                  replace h := zk_gd h
                  obtain ⟨_, h⟩ := h
                  replace h := zk_lt h
                  obtain ⟨cv23, ce24, h⟩ := h
                  subst ce24
                  replace h := zk_o9 h
                  obtain ⟨cv25, cv26, cv27, cv28, cv29, cv30, cv31, cv32, cv33, ch34, h⟩ := h
                  skip
                  unfold B_X12_won_0 at k
                  replace k := zk_o2 k
                  obtain ⟨mv33, mv34, mh35, k⟩ := k
                  unfold f_X12_isSuit at mh35
                  unfold B_X12_isSuit_0 at mh35
                  obtain ⟨mv36, mv37, mh38, mh35⟩ := zk_o2 mh35
                  unfold f_X12_in at mh38
                  unfold B_X12_in_0 at mh38
                  have mh38 := zk_f cc4 mh38
                  have mh38 := zk_f (by (try simp only [i32_lt, i32_le, i32_e, z32_0, z32_1]); omega) mh38
                  simp only [Option.some.injEq, Prod.mk.injEq] at mh38
                  obtain ⟨rfl, _⟩ := mh38
                  obtain ⟨_, mh35⟩ := zk_gd mh35
                  simp only [Option.some.injEq, Prod.mk.injEq] at mh35
                  obtain ⟨rfl, _⟩ := mh35
                  replace k := zk_f (by decide) k
                  replace k := zk_o2 k
                  obtain ⟨mv39, mv40, mh41, k⟩ := k
                  unfold f_X12_in at mh41
                  unfold B_X12_in_0 at mh41
                  have mh41 := zk_f (by (try simp only [i32_lt, i32_le, i32_e, z32_0, z32_1]); omega) mh41
                  have mh41 := zk_f (by (try simp only [i32_lt, i32_le, i32_e, z32_0, z32_1]); omega) mh41
                  simp only [Option.some.injEq, Prod.mk.injEq] at mh41
                  obtain ⟨rfl, _⟩ := mh41
                  replace k := zk_f (by decide) k
                  replace k := zk_o10 k
                  obtain ⟨mv42, mv43, mv44, mv45, mv46, mv47, mv48, mv49, mv50, mv51, mh52, k⟩ := k
                  skip
                  first
                  | (exfalso; omega)
                  | skip
                    obtain ⟨t0, t1⟩ := pw_make (by decide) (fun z => absurd z (by decide)) (fun _ => by omega) hd hsz hu hV (fun _ => hw _ (by rw [tcn]; omega)) (fun z => absurd z (by decide)) (fun z => absurd z (by decide)) ch34 mh52
                    replace h := Option.some.inj h
                    replace k := Option.some.inj k
                    subst h
                    subst k
                    exact ⟨t0.symm, t1⟩
              · have ch8 := zk_f cc22 ch8
                have cc22n := cc22
                (try simp only [i32_lt, i32_le, i32_e, z32_0, z32_1] at cc22n)
                first
                | (exfalso; omega)
                | simp only [Option.some.injEq, Prod.mk.injEq] at ch8
                  obtain ⟨rfl, _⟩ := ch8
                  replace h := zk_t rfl h
                  unfold B_X12_won_0 at k
                  replace k := zk_o2 k
                  obtain ⟨mv53, mv54, mh55, k⟩ := k
                  unfold f_X12_isSuit at mh55
                  unfold B_X12_isSuit_0 at mh55
                  obtain ⟨mv56, mv57, mh58, mh55⟩ := zk_o2 mh55
                  unfold f_X12_in at mh58
                  unfold B_X12_in_0 at mh58
                  have mh58 := zk_f cc4 mh58
                  have mh58 := zk_f (by (try simp only [i32_lt, i32_le, i32_e, z32_0, z32_1]); omega) mh58
                  simp only [Option.some.injEq, Prod.mk.injEq] at mh58
                  obtain ⟨rfl, _⟩ := mh58
                  obtain ⟨_, mh55⟩ := zk_gd mh55
                  simp only [Option.some.injEq, Prod.mk.injEq] at mh55
                  obtain ⟨rfl, _⟩ := mh55
                  replace k := zk_f (by decide) k
                  replace k := zk_o2 k
                  obtain ⟨mv59, mv60, mh61, k⟩ := k
                  unfold f_X12_in at mh61
                  unfold B_X12_in_0 at mh61
                  by_cases mc62 : x2 < (0 : Int32)
                  · have mh61 := zk_t mc62 mh61
                    have mc62n := mc62
                    (try simp only [i32_lt, i32_le, i32_e, z32_0, z32_1] at mc62n)
                    first
                    | (exfalso; omega)
                    | simp only [Option.some.injEq, Prod.mk.injEq] at mh61
                      obtain ⟨rfl, _⟩ := mh61
                      replace k := zk_t rfl k
                      replace h := Option.some.inj h
                      replace k := Option.some.inj k
                      subst h
                      subst k
                      try dsimp only
                      all_goals first
                      | (exfalso; omega)
                      | exact ⟨rfl, rfl, hsz, rfl, rfl, rfl, rfl, hV, fun e => e, fun w => w, fun w => w⟩
                  · have mh61 := zk_f mc62 mh61
                    have mc62n := mc62
                    (try simp only [i32_lt, i32_le, i32_e, z32_0, z32_1] at mc62n)
                    first
                    | (exfalso; omega)
                    | by_cases mc63 : (1 : Int32) < x2
                      · have mh61 := zk_t mc63 mh61
                        have mc63n := mc63
                        (try simp only [i32_lt, i32_le, i32_e, z32_0, z32_1] at mc63n)
                        first
                        | (exfalso; omega)
                        | simp only [Option.some.injEq, Prod.mk.injEq] at mh61
                          obtain ⟨rfl, _⟩ := mh61
                          replace k := zk_t rfl k
                          replace h := Option.some.inj h
                          replace k := Option.some.inj k
                          subst h
                          subst k
                          try dsimp only
                          all_goals first
                          | (exfalso; omega)
                          | exact ⟨rfl, rfl, hsz, rfl, rfl, rfl, rfl, hV, fun e => e, fun w => w, fun w => w⟩
                      · have mh61 := zk_f mc63 mh61
                        have mc63n := mc63
                        (try simp only [i32_lt, i32_le, i32_e, z32_0, z32_1] at mc63n)
                        first
                        | (exfalso; omega)
                        | simp only [Option.some.injEq, Prod.mk.injEq] at mh61
                          obtain ⟨rfl, _⟩ := mh61
                          replace k := zk_f (by decide) k
                          replace k := zk_o10 k
                          obtain ⟨mv64, mv65, mv66, mv67, mv68, mv69, mv70, mv71, mv72, mv73, mh74, k⟩ := k
                          skip
                          replace h := Option.some.inj h
                          replace k := Option.some.inj k
                          subst h
                          subst k
                          try dsimp only
                          all_goals first
                          | (exfalso; omega)
                          | exact ⟨rfl, rfl, hsz, rfl, rfl, rfl, rfl, hV, fun e => e, fun w => w, fun w => w⟩

set_option maxHeartbeats 4000000 in
set_option maxRecDepth 20000 in
theorem pw_undone {mod_code : Int32} {court_shoeCount : Int32} {mod_claims : Int32} {ts : Int32} {at_ : Int32} {f : Int32} {court_suitCount : Int32} {mod_undoneMany : Int32} {mod_open : Int32} {mod_laid : Int32} {mod_isBoth : Int32} {mod_wished : Int32} {mod_bestMany : Int32} {mod_bestRow : Int32} {mod_ringDigits : Int32} {mod_traces : Int32} {mod_shoeDay : Nat → Int32} {mod_isWon : Nat → Int32} {mod_suitDay : Nat → Int32} {mod_undoneFrom : Nat → Int32} {court_claimCount : Int32} {court_shoeDay : Nat → Int32} {court_suits : Nat → Option Nat} {S_who : Nat → Int32} {S_against : Nat → Int32} {S_kind : Nat → Int32} {S_won : Nat → Int32} {S_day : Nat → Int32} {S_land : Nat → Int32} {S_undoneFrom : Nat → Int32} {S_asked : Nat → Nat → Int32} {S_askedCount : Nat → Int32} {S_askedBits : Nat → Int32} {S_first : Nat → Int32} {S_foundSo : Nat → Int32} {S_foundNot : Nat → Int32} {S_fought : Nat → Int32} {S_needed : Nat → Int32} {chg_done : Int32} {chg_size : Int32} {chg_sorts : Nat → Int32} {chg_numbers : Nat → Int32} {chg_befores : Nat → Int32} {chg_afters : Nat → Int32} {x1 x2 : Int32} (hw : WU court_suitCount S_undoneFrom mod_undoneFrom) (hy : WU court_suitCount S_day mod_suitDay) (hdy : ∀ i, i < court_suitCount.toInt.toNat → 0 ≤ (S_day i).toInt) (hn : 0 ≤ court_suitCount.toInt ∧ court_suitCount.toInt ≤ 40) (hc : 0 ≤ court_shoeCount.toInt ∧ court_shoeCount.toInt ≤ 40) (hd : 0 ≤ chg_done.toInt ∧ chg_done.toInt ≤ 40) (hsz : chg_size.toInt = chg_done.toInt + mod_undoneMany.toInt) (hu : 0 ≤ mod_undoneMany.toInt ∧ chg_size.toInt ≤ 40) (hV : CV chg_size court_shoeCount court_suitCount chg_sorts chg_numbers) {R : Int32 × (Nat → Int32) × Int32 × Int32 × (Nat → Int32) × (Nat → Int32) × (Nat → Int32) × (Nat → Int32) × (Nat → Int32) × (Nat → Int32)} {Q : Int32 × Int32 × Int32 × (Nat → Int32) × (Nat → Int32) × (Nat → Int32) × (Nat → Int32) × (Nat → Int32) × (Nat → Int32) × (Nat → Int32)} (h : f_X11_undone x1 x2 court_shoeCount court_claimCount court_suitCount court_shoeDay court_suits chg_done chg_size chg_sorts chg_numbers chg_befores chg_afters S_who S_against S_kind S_won S_day S_land S_undoneFrom S_asked S_askedCount S_askedBits S_first S_foundSo S_foundNot S_fought S_needed = some R) (k : f_X12_undone x1 x2 mod_code court_shoeCount mod_claims ts at_ f court_suitCount chg_done mod_undoneMany mod_open mod_laid mod_isBoth mod_wished mod_bestMany mod_bestRow mod_ringDigits mod_traces mod_shoeDay mod_isWon mod_suitDay mod_undoneFrom chg_sorts chg_numbers chg_befores chg_afters = some Q) : R.1 = Q.1 ∧ R.2.2.1 = Q.2.1 ∧ R.2.2.2.1.toInt = Q.2.1.toInt + Q.2.2.1.toInt ∧ R.2.2.2.2.1 = Q.2.2.2.2.2.2.1 ∧ R.2.2.2.2.2.1 = Q.2.2.2.2.2.2.2.1 ∧ R.2.2.2.2.2.2.1 = Q.2.2.2.2.2.2.2.2.1 ∧ R.2.2.2.2.2.2.2.1 = Q.2.2.2.2.2.2.2.2.2 ∧ CV R.2.2.2.1 court_shoeCount court_suitCount R.2.2.2.2.1 R.2.2.2.2.2.1 ∧ (court_shoeDay = mod_shoeDay → R.2.1 = Q.2.2.2.1) ∧ (WU court_suitCount S_won mod_isWon → WU court_suitCount R.2.2.2.2.2.2.2.2.1 Q.2.2.2.2.1) ∧ (WU court_suitCount S_undoneFrom mod_undoneFrom → WU court_suitCount R.2.2.2.2.2.2.2.2.2 Q.2.2.2.2.2.1) := by
  have hn1 := i32_m1 (a := court_suitCount) (by omega)
  have hc1 := i32_m1 (a := court_shoeCount) (by omega)
  unfold f_X11_undone at h
  unfold f_X12_undone at k
  unfold B_X11_undone_0 at h
  replace h := zk_o2 h
  obtain ⟨cv1, cv2, ch3, h⟩ := h
  unfold f_X2_suitAt at ch3
  unfold B_X2_suitAt_0 at ch3
  by_cases cc4 : x1 < 0
  · have ch3 := zk_t cc4 ch3
    have cc4n := cc4
    (try simp only [i32_lt, i32_le, i32_e, z32_0, z32_1] at cc4n)
    first
    | (exfalso; omega)
    | simp only [Option.some.injEq, Prod.mk.injEq] at ch3
      obtain ⟨rfl, _⟩ := ch3
      replace h := zk_t (by decide) h
      unfold B_X12_undone_0 at k
      replace k := zk_o2 k
      obtain ⟨mv1, mv2, mh3, k⟩ := k
      unfold f_X12_isSuit at mh3
      unfold B_X12_isSuit_0 at mh3
      obtain ⟨mv4, mv5, mh6, mh3⟩ := zk_o2 mh3
      unfold f_X12_in at mh6
      unfold B_X12_in_0 at mh6
      have mh6 := zk_t cc4 mh6
      simp only [Option.some.injEq, Prod.mk.injEq] at mh6
      obtain ⟨rfl, _⟩ := mh6
      obtain ⟨_, mh3⟩ := zk_gd mh3
      simp only [Option.some.injEq, Prod.mk.injEq] at mh3
      obtain ⟨rfl, _⟩ := mh3
      replace k := zk_t rfl k
      replace h := Option.some.inj h
      replace k := Option.some.inj k
      subst h
      subst k
      try dsimp only
      all_goals first
      | (exfalso; omega)
      | exact ⟨rfl, rfl, hsz, rfl, rfl, rfl, rfl, hV, fun e => e, fun w => w, fun w => w⟩
  · have ch3 := zk_f cc4 ch3
    have cc4n := cc4
    (try simp only [i32_lt, i32_le, i32_e, z32_0, z32_1] at cc4n)
    first
    | (exfalso; omega)
    | by_cases cc5 : court_suitCount ≤ x1
      · have ch3 := zk_t cc5 ch3
        have cc5n := cc5
        (try simp only [i32_lt, i32_le, i32_e, z32_0, z32_1] at cc5n)
        first
        | (exfalso; omega)
        | simp only [Option.some.injEq, Prod.mk.injEq] at ch3
          obtain ⟨rfl, _⟩ := ch3
          replace h := zk_t (by decide) h
          unfold B_X12_undone_0 at k
          replace k := zk_o2 k
          obtain ⟨mv7, mv8, mh9, k⟩ := k
          unfold f_X12_isSuit at mh9
          unfold B_X12_isSuit_0 at mh9
          obtain ⟨mv10, mv11, mh12, mh9⟩ := zk_o2 mh9
          unfold f_X12_in at mh12
          unfold B_X12_in_0 at mh12
          have mh12 := zk_f cc4 mh12
          have mh12 := zk_t (by (try simp only [i32_lt, i32_le, i32_e, z32_0, z32_1]); omega) mh12
          simp only [Option.some.injEq, Prod.mk.injEq] at mh12
          obtain ⟨rfl, _⟩ := mh12
          obtain ⟨_, mh9⟩ := zk_gd mh9
          simp only [Option.some.injEq, Prod.mk.injEq] at mh9
          obtain ⟨rfl, _⟩ := mh9
          replace k := zk_t rfl k
          replace h := Option.some.inj h
          replace k := Option.some.inj k
          subst h
          subst k
          try dsimp only
          all_goals first
          | (exfalso; omega)
          | exact ⟨rfl, rfl, hsz, rfl, rfl, rfl, rfl, hV, fun e => e, fun w => w, fun w => w⟩
      · have ch3 := zk_f cc5 ch3
        have cc5n := cc5
        (try simp only [i32_lt, i32_le, i32_e, z32_0, z32_1] at cc5n)
        first
        | (exfalso; omega)
        | obtain ⟨_, ch3⟩ := zk_gd ch3
          obtain ⟨_, ch3⟩ := zk_gd ch3
          obtain ⟨_, ch3⟩ := zk_gd ch3
          simp only [Option.some.injEq, Prod.mk.injEq] at ch3
          obtain ⟨rfl, _⟩ := ch3
          replace h := zk_f cc4 h
          replace h := zk_o2 h
          obtain ⟨cv6, cv7, ch8, h⟩ := h
          unfold f_X11_isDay at ch8
          unfold B_X11_isDay_0 at ch8
          by_cases cc9 : x2 < 0
          · have ch8 := zk_t cc9 ch8
            have cc9n := cc9
            (try simp only [i32_lt, i32_le, i32_e, z32_0, z32_1] at cc9n)
            first
            | (exfalso; omega)
            | simp only [Option.some.injEq, Prod.mk.injEq] at ch8
              obtain ⟨rfl, _⟩ := ch8
              replace h := zk_t rfl h
              have hx1 : x1.toNatClampNeg < court_suitCount.toInt.toNat := by rw [tcn]; omega
              have hw1 : (S_undoneFrom x1.toNatClampNeg).toInt = (mod_undoneFrom x1.toNatClampNeg).toInt := by rw [hw _ hx1]
              have hy1 : (S_day x1.toNatClampNeg).toInt = (mod_suitDay x1.toNatClampNeg).toInt := by rw [hy _ hx1]
              have hdd := hdy _ hx1
              unfold B_X12_undone_0 at k
              replace k := zk_o2 k
              obtain ⟨mv13, mv14, mh15, k⟩ := k
              unfold f_X12_isSuit at mh15
              unfold B_X12_isSuit_0 at mh15
              obtain ⟨mv16, mv17, mh18, mh15⟩ := zk_o2 mh15
              unfold f_X12_in at mh18
              unfold B_X12_in_0 at mh18
              have mh18 := zk_f cc4 mh18
              have mh18 := zk_f (by (try simp only [i32_lt, i32_le, i32_e, z32_0, z32_1]); omega) mh18
              simp only [Option.some.injEq, Prod.mk.injEq] at mh18
              obtain ⟨rfl, _⟩ := mh18
              obtain ⟨_, mh15⟩ := zk_gd mh15
              simp only [Option.some.injEq, Prod.mk.injEq] at mh15
              obtain ⟨rfl, _⟩ := mh15
              replace k := zk_f (by decide) k
              replace k := zk_gd k
              obtain ⟨_, k⟩ := k
              replace k := zk_o2 k
              obtain ⟨mv19, mv20, mh21, k⟩ := k
              unfold f_X12_in at mh21
              unfold B_X12_in_0 at mh21
              by_cases mc22 : x2 < (mod_suitDay x1.toNatClampNeg)
              · have mh21 := zk_t mc22 mh21
                have mc22n := mc22
                (try simp only [i32_lt, i32_le, i32_e, z32_0, z32_1] at mc22n)
                first
                | (exfalso; omega)
                | simp only [Option.some.injEq, Prod.mk.injEq] at mh21
                  obtain ⟨rfl, _⟩ := mh21
                  replace k := zk_t rfl k
                  replace h := Option.some.inj h
                  replace k := Option.some.inj k
                  subst h
                  subst k
                  try dsimp only
                  all_goals first
                  | (exfalso; omega)
                  | exact ⟨rfl, rfl, hsz, rfl, rfl, rfl, rfl, hV, fun e => e, fun w => w, fun w => w⟩
              · have mh21 := zk_f mc22 mh21
                have mc22n := mc22
                (try simp only [i32_lt, i32_le, i32_e, z32_0, z32_1] at mc22n)
                first
                | (exfalso; omega)
                | have mh21 := zk_f (by (try simp only [i32_lt, i32_le, i32_e, z32_0, z32_1, z32L_9999]); omega) mh21
                  simp only [Option.some.injEq, Prod.mk.injEq] at mh21
                  obtain ⟨rfl, _⟩ := mh21
                  replace k := zk_f (by decide) k
                  replace k := zk_gd k
                  obtain ⟨_, k⟩ := k
                  by_cases mc23 : (mod_undoneFrom x1.toNatClampNeg) < 0
                  · replace k := zk_t mc23 k
                    have mc23n := mc23
                    (try simp only [i32_lt, i32_le, i32_e, z32_0, z32_1] at mc23n)
                    first
                    | (exfalso; omega)
                    | obtain ⟨mv24, mv25, mv26, mv27, mv28, mv29, mv30, mv31, mv32, mv33, mh34, k⟩ := zk_o10 k
                      skip
                      replace h := Option.some.inj h
                      replace k := Option.some.inj k
                      subst h
                      subst k
                      try dsimp only
                      all_goals first
                      | (exfalso; omega)
                      | exact ⟨rfl, rfl, hsz, rfl, rfl, rfl, rfl, hV, fun e => e, fun w => w, fun w => w⟩
                  · replace k := zk_f mc23 k
                    have mc23n := mc23
                    (try simp only [i32_lt, i32_le, i32_e, z32_0, z32_1] at mc23n)
                    first
                    | (exfalso; omega)
                    | have h := Option.some.inj h
                      replace k := Option.some.inj k
                      subst h
                      subst k
                      try dsimp only
                      all_goals first
                      | (exfalso; omega)
                      | exact ⟨rfl, rfl, hsz, rfl, rfl, rfl, rfl, hV, fun e => e, fun w => w, fun w => w⟩
          · have ch8 := zk_f cc9 ch8
            have cc9n := cc9
            (try simp only [i32_lt, i32_le, i32_e, z32_0, z32_1] at cc9n)
            first
            | (exfalso; omega)
            | by_cases cc10 : (10000 : Int32) ≤ x2
              · have ch8 := zk_t cc10 ch8
                have cc10n := cc10
                (try simp only [i32_lt, i32_le, i32_e, z32_0, z32_1, z32L_10000] at cc10n)
                first
                | (exfalso; omega)
                | simp only [Option.some.injEq, Prod.mk.injEq] at ch8
                  obtain ⟨rfl, _⟩ := ch8
                  replace h := zk_t rfl h
                  have hx1 : x1.toNatClampNeg < court_suitCount.toInt.toNat := by rw [tcn]; omega
                  have hw1 : (S_undoneFrom x1.toNatClampNeg).toInt = (mod_undoneFrom x1.toNatClampNeg).toInt := by rw [hw _ hx1]
                  have hy1 : (S_day x1.toNatClampNeg).toInt = (mod_suitDay x1.toNatClampNeg).toInt := by rw [hy _ hx1]
                  have hdd := hdy _ hx1
                  unfold B_X12_undone_0 at k
                  replace k := zk_o2 k
                  obtain ⟨mv35, mv36, mh37, k⟩ := k
                  unfold f_X12_isSuit at mh37
                  unfold B_X12_isSuit_0 at mh37
                  obtain ⟨mv38, mv39, mh40, mh37⟩ := zk_o2 mh37
                  unfold f_X12_in at mh40
                  unfold B_X12_in_0 at mh40
                  have mh40 := zk_f cc4 mh40
                  have mh40 := zk_f (by (try simp only [i32_lt, i32_le, i32_e, z32_0, z32_1]); omega) mh40
                  simp only [Option.some.injEq, Prod.mk.injEq] at mh40
                  obtain ⟨rfl, _⟩ := mh40
                  obtain ⟨_, mh37⟩ := zk_gd mh37
                  simp only [Option.some.injEq, Prod.mk.injEq] at mh37
                  obtain ⟨rfl, _⟩ := mh37
                  replace k := zk_f (by decide) k
                  replace k := zk_gd k
                  obtain ⟨_, k⟩ := k
                  replace k := zk_o2 k
                  obtain ⟨mv41, mv42, mh43, k⟩ := k
                  unfold f_X12_in at mh43
                  unfold B_X12_in_0 at mh43
                  by_cases mc44 : x2 < (mod_suitDay x1.toNatClampNeg)
                  · have mh43 := zk_t mc44 mh43
                    have mc44n := mc44
                    (try simp only [i32_lt, i32_le, i32_e, z32_0, z32_1] at mc44n)
                    first
                    | (exfalso; omega)
                    | simp only [Option.some.injEq, Prod.mk.injEq] at mh43
                      obtain ⟨rfl, _⟩ := mh43
                      replace k := zk_t rfl k
                      replace h := Option.some.inj h
                      replace k := Option.some.inj k
                      subst h
                      subst k
                      try dsimp only
                      all_goals first
                      | (exfalso; omega)
                      | exact ⟨rfl, rfl, hsz, rfl, rfl, rfl, rfl, hV, fun e => e, fun w => w, fun w => w⟩
                  · have mh43 := zk_f mc44 mh43
                    have mc44n := mc44
                    (try simp only [i32_lt, i32_le, i32_e, z32_0, z32_1] at mc44n)
                    first
                    | (exfalso; omega)
                    | have mh43 := zk_t (by (try simp only [i32_lt, i32_le, i32_e, z32_0, z32_1, z32L_9999]); omega) mh43
                      simp only [Option.some.injEq, Prod.mk.injEq] at mh43
                      obtain ⟨rfl, _⟩ := mh43
                      replace k := zk_t rfl k
                      replace h := Option.some.inj h
                      replace k := Option.some.inj k
                      subst h
                      subst k
                      try dsimp only
                      all_goals first
                      | (exfalso; omega)
                      | exact ⟨rfl, rfl, hsz, rfl, rfl, rfl, rfl, hV, fun e => e, fun w => w, fun w => w⟩
              · have ch8 := zk_f cc10 ch8
                have cc10n := cc10
                (try simp only [i32_lt, i32_le, i32_e, z32_0, z32_1, z32L_10000] at cc10n)
                first
                | (exfalso; omega)
                | simp only [Option.some.injEq, Prod.mk.injEq] at ch8
                  obtain ⟨rfl, _⟩ := ch8
                  replace h := zk_f (by decide) h
                  replace h := zk_gd h
                  obtain ⟨_, h⟩ := h
                  by_cases cc11 : (S_day x1.toNatClampNeg) ≤ x2
                  · replace h := zk_t cc11 h
                    have cc11n := cc11
                    (try simp only [i32_lt, i32_le, i32_e, z32_0, z32_1] at cc11n)
                    first
                    | (exfalso; omega)
                    | obtain ⟨_, h⟩ := zk_gd h
                      by_cases cc12 : (S_undoneFrom x1.toNatClampNeg) < 0
                      · replace h := zk_t cc12 h
                        have cc12n := cc12
                        (try simp only [i32_lt, i32_le, i32_e, z32_0, z32_1] at cc12n)
                        first
                        | (exfalso; omega)
                        | obtain ⟨_, h⟩ := zk_gd h
                          replace h := zk_o9 h
                          obtain ⟨cv13, cv14, cv15, cv16, cv17, cv18, cv19, cv20, cv21, ch22, h⟩ := h
                          skip
                          have hx1 : x1.toNatClampNeg < court_suitCount.toInt.toNat := by rw [tcn]; omega
                          have hw1 : (S_undoneFrom x1.toNatClampNeg).toInt = (mod_undoneFrom x1.toNatClampNeg).toInt := by rw [hw _ hx1]
                          have hy1 : (S_day x1.toNatClampNeg).toInt = (mod_suitDay x1.toNatClampNeg).toInt := by rw [hy _ hx1]
                          have hdd := hdy _ hx1
                          unfold B_X12_undone_0 at k
                          replace k := zk_o2 k
                          obtain ⟨mv45, mv46, mh47, k⟩ := k
                          unfold f_X12_isSuit at mh47
                          unfold B_X12_isSuit_0 at mh47
                          obtain ⟨mv48, mv49, mh50, mh47⟩ := zk_o2 mh47
                          unfold f_X12_in at mh50
                          unfold B_X12_in_0 at mh50
                          have mh50 := zk_f cc4 mh50
                          have mh50 := zk_f (by (try simp only [i32_lt, i32_le, i32_e, z32_0, z32_1]); omega) mh50
                          simp only [Option.some.injEq, Prod.mk.injEq] at mh50
                          obtain ⟨rfl, _⟩ := mh50
                          obtain ⟨_, mh47⟩ := zk_gd mh47
                          simp only [Option.some.injEq, Prod.mk.injEq] at mh47
                          obtain ⟨rfl, _⟩ := mh47
                          replace k := zk_f (by decide) k
                          replace k := zk_gd k
                          obtain ⟨_, k⟩ := k
                          replace k := zk_o2 k
                          obtain ⟨mv51, mv52, mh53, k⟩ := k
                          unfold f_X12_in at mh53
                          unfold B_X12_in_0 at mh53
                          by_cases mc54 : x2 < (mod_suitDay x1.toNatClampNeg)
                          · have mh53 := zk_t mc54 mh53
                            have mc54n := mc54
                            (try simp only [i32_lt, i32_le, i32_e, z32_0, z32_1] at mc54n)
                            first
                            | (exfalso; omega)
                            | simp only [Option.some.injEq, Prod.mk.injEq] at mh53
                              obtain ⟨rfl, _⟩ := mh53
                              replace k := zk_t rfl k
                              replace h := Option.some.inj h
                              replace k := Option.some.inj k
                              subst h
                              subst k
                              try dsimp only
                              all_goals first
                              | (exfalso; omega)
                              | exact ⟨rfl, rfl, hsz, rfl, rfl, rfl, rfl, hV, fun e => e, fun w => w, fun w => w⟩
                          · have mh53 := zk_f mc54 mh53
                            have mc54n := mc54
                            (try simp only [i32_lt, i32_le, i32_e, z32_0, z32_1] at mc54n)
                            first
                            | (exfalso; omega)
                            | have mh53 := zk_f (by (try simp only [i32_lt, i32_le, i32_e, z32_0, z32_1, z32L_9999]); omega) mh53
                              simp only [Option.some.injEq, Prod.mk.injEq] at mh53
                              obtain ⟨rfl, _⟩ := mh53
                              replace k := zk_f (by decide) k
                              replace k := zk_gd k
                              obtain ⟨_, k⟩ := k
                              by_cases mc55 : (mod_undoneFrom x1.toNatClampNeg) < 0
                              · replace k := zk_t mc55 k
                                have mc55n := mc55
                                (try simp only [i32_lt, i32_le, i32_e, z32_0, z32_1] at mc55n)
                                first
                                | (exfalso; omega)
                                | obtain ⟨mv56, mv57, mv58, mv59, mv60, mv61, mv62, mv63, mv64, mv65, mh66, k⟩ := zk_o10 k
                                  skip
                                  first
                                  | (exfalso; omega)
                                  | skip
                                    obtain ⟨t0, t1⟩ := pw_make (by decide) (fun z => absurd z (by decide)) (fun _ => by omega) hd hsz hu hV (fun z => absurd z (by decide)) (fun _ => hw _ (by rw [tcn]; omega)) (fun z => absurd z (by decide)) ch22 mh66
                                    replace h := Option.some.inj h
                                    replace k := Option.some.inj k
                                    subst h
                                    subst k
                                    exact ⟨rfl, t1⟩
                              · replace k := zk_f mc55 k
                                have mc55n := mc55
                                (try simp only [i32_lt, i32_le, i32_e, z32_0, z32_1] at mc55n)
                                first
                                | (exfalso; omega)
                                | have h := Option.some.inj h
                                  replace k := Option.some.inj k
                                  subst h
                                  subst k
                                  try dsimp only
                                  all_goals first
                                  | (exfalso; omega)
                                  | exact ⟨rfl, rfl, hsz, rfl, rfl, rfl, rfl, hV, fun e => e, fun w => w, fun w => w⟩
                      · replace h := zk_f cc12 h
                        have cc12n := cc12
                        (try simp only [i32_lt, i32_le, i32_e, z32_0, z32_1] at cc12n)
                        first
                        | (exfalso; omega)
                        | have hx1 : x1.toNatClampNeg < court_suitCount.toInt.toNat := by rw [tcn]; omega
                          have hw1 : (S_undoneFrom x1.toNatClampNeg).toInt = (mod_undoneFrom x1.toNatClampNeg).toInt := by rw [hw _ hx1]
                          have hy1 : (S_day x1.toNatClampNeg).toInt = (mod_suitDay x1.toNatClampNeg).toInt := by rw [hy _ hx1]
                          have hdd := hdy _ hx1
                          unfold B_X12_undone_0 at k
                          replace k := zk_o2 k
                          obtain ⟨mv67, mv68, mh69, k⟩ := k
                          unfold f_X12_isSuit at mh69
                          unfold B_X12_isSuit_0 at mh69
                          obtain ⟨mv70, mv71, mh72, mh69⟩ := zk_o2 mh69
                          unfold f_X12_in at mh72
                          unfold B_X12_in_0 at mh72
                          have mh72 := zk_f cc4 mh72
                          have mh72 := zk_f (by (try simp only [i32_lt, i32_le, i32_e, z32_0, z32_1]); omega) mh72
                          simp only [Option.some.injEq, Prod.mk.injEq] at mh72
                          obtain ⟨rfl, _⟩ := mh72
                          obtain ⟨_, mh69⟩ := zk_gd mh69
                          simp only [Option.some.injEq, Prod.mk.injEq] at mh69
                          obtain ⟨rfl, _⟩ := mh69
                          replace k := zk_f (by decide) k
                          replace k := zk_gd k
                          obtain ⟨_, k⟩ := k
                          replace k := zk_o2 k
                          obtain ⟨mv73, mv74, mh75, k⟩ := k
                          unfold f_X12_in at mh75
                          unfold B_X12_in_0 at mh75
                          by_cases mc76 : x2 < (mod_suitDay x1.toNatClampNeg)
                          · have mh75 := zk_t mc76 mh75
                            have mc76n := mc76
                            (try simp only [i32_lt, i32_le, i32_e, z32_0, z32_1] at mc76n)
                            first
                            | (exfalso; omega)
                            | simp only [Option.some.injEq, Prod.mk.injEq] at mh75
                              obtain ⟨rfl, _⟩ := mh75
                              replace k := zk_t rfl k
                              replace h := Option.some.inj h
                              replace k := Option.some.inj k
                              subst h
                              subst k
                              try dsimp only
                              all_goals first
                              | (exfalso; omega)
                              | exact ⟨rfl, rfl, hsz, rfl, rfl, rfl, rfl, hV, fun e => e, fun w => w, fun w => w⟩
                          · have mh75 := zk_f mc76 mh75
                            have mc76n := mc76
                            (try simp only [i32_lt, i32_le, i32_e, z32_0, z32_1] at mc76n)
                            first
                            | (exfalso; omega)
                            | have mh75 := zk_f (by (try simp only [i32_lt, i32_le, i32_e, z32_0, z32_1, z32L_9999]); omega) mh75
                              simp only [Option.some.injEq, Prod.mk.injEq] at mh75
                              obtain ⟨rfl, _⟩ := mh75
                              replace k := zk_f (by decide) k
                              replace k := zk_gd k
                              obtain ⟨_, k⟩ := k
                              by_cases mc77 : (mod_undoneFrom x1.toNatClampNeg) < 0
                              · replace k := zk_t mc77 k
                                have mc77n := mc77
                                (try simp only [i32_lt, i32_le, i32_e, z32_0, z32_1] at mc77n)
                                first
                                | (exfalso; omega)
                                | obtain ⟨mv78, mv79, mv80, mv81, mv82, mv83, mv84, mv85, mv86, mv87, mh88, k⟩ := zk_o10 k
                                  skip
                                  replace h := Option.some.inj h
                                  replace k := Option.some.inj k
                                  subst h
                                  subst k
                                  try dsimp only
                                  all_goals first
                                  | (exfalso; omega)
                                  | exact ⟨rfl, rfl, hsz, rfl, rfl, rfl, rfl, hV, fun e => e, fun w => w, fun w => w⟩
                              · replace k := zk_f mc77 k
                                have mc77n := mc77
                                (try simp only [i32_lt, i32_le, i32_e, z32_0, z32_1] at mc77n)
                                first
                                | (exfalso; omega)
                                | have h := Option.some.inj h
                                  replace k := Option.some.inj k
                                  subst h
                                  subst k
                                  try dsimp only
                                  all_goals first
                                  | (exfalso; omega)
                                  | exact ⟨rfl, rfl, hsz, rfl, rfl, rfl, rfl, hV, fun e => e, fun w => w, fun w => w⟩
                  · replace h := zk_f cc11 h
                    have cc11n := cc11
                    (try simp only [i32_lt, i32_le, i32_e, z32_0, z32_1] at cc11n)
                    first
                    | (exfalso; omega)
                    | have hx1 : x1.toNatClampNeg < court_suitCount.toInt.toNat := by rw [tcn]; omega
                      have hw1 : (S_undoneFrom x1.toNatClampNeg).toInt = (mod_undoneFrom x1.toNatClampNeg).toInt := by rw [hw _ hx1]
                      have hy1 : (S_day x1.toNatClampNeg).toInt = (mod_suitDay x1.toNatClampNeg).toInt := by rw [hy _ hx1]
                      have hdd := hdy _ hx1
                      unfold B_X12_undone_0 at k
                      replace k := zk_o2 k
                      obtain ⟨mv89, mv90, mh91, k⟩ := k
                      unfold f_X12_isSuit at mh91
                      unfold B_X12_isSuit_0 at mh91
                      obtain ⟨mv92, mv93, mh94, mh91⟩ := zk_o2 mh91
                      unfold f_X12_in at mh94
                      unfold B_X12_in_0 at mh94
                      have mh94 := zk_f cc4 mh94
                      have mh94 := zk_f (by (try simp only [i32_lt, i32_le, i32_e, z32_0, z32_1]); omega) mh94
                      simp only [Option.some.injEq, Prod.mk.injEq] at mh94
                      obtain ⟨rfl, _⟩ := mh94
                      obtain ⟨_, mh91⟩ := zk_gd mh91
                      simp only [Option.some.injEq, Prod.mk.injEq] at mh91
                      obtain ⟨rfl, _⟩ := mh91
                      replace k := zk_f (by decide) k
                      replace k := zk_gd k
                      obtain ⟨_, k⟩ := k
                      replace k := zk_o2 k
                      obtain ⟨mv95, mv96, mh97, k⟩ := k
                      unfold f_X12_in at mh97
                      unfold B_X12_in_0 at mh97
                      by_cases mc98 : x2 < (mod_suitDay x1.toNatClampNeg)
                      · have mh97 := zk_t mc98 mh97
                        have mc98n := mc98
                        (try simp only [i32_lt, i32_le, i32_e, z32_0, z32_1] at mc98n)
                        first
                        | (exfalso; omega)
                        | simp only [Option.some.injEq, Prod.mk.injEq] at mh97
                          obtain ⟨rfl, _⟩ := mh97
                          replace k := zk_t rfl k
                          replace h := Option.some.inj h
                          replace k := Option.some.inj k
                          subst h
                          subst k
                          try dsimp only
                          all_goals first
                          | (exfalso; omega)
                          | exact ⟨rfl, rfl, hsz, rfl, rfl, rfl, rfl, hV, fun e => e, fun w => w, fun w => w⟩
                      · have mh97 := zk_f mc98 mh97
                        have mc98n := mc98
                        (try simp only [i32_lt, i32_le, i32_e, z32_0, z32_1] at mc98n)
                        first
                        | (exfalso; omega)
                        | have mh97 := zk_f (by (try simp only [i32_lt, i32_le, i32_e, z32_0, z32_1, z32L_9999]); omega) mh97
                          simp only [Option.some.injEq, Prod.mk.injEq] at mh97
                          obtain ⟨rfl, _⟩ := mh97
                          replace k := zk_f (by decide) k
                          replace k := zk_gd k
                          obtain ⟨_, k⟩ := k
                          by_cases mc99 : (mod_undoneFrom x1.toNatClampNeg) < 0
                          · replace k := zk_t mc99 k
                            have mc99n := mc99
                            (try simp only [i32_lt, i32_le, i32_e, z32_0, z32_1] at mc99n)
                            first
                            | (exfalso; omega)
                            | obtain ⟨mv100, mv101, mv102, mv103, mv104, mv105, mv106, mv107, mv108, mv109, mh110, k⟩ := zk_o10 k
                              skip
                              replace h := Option.some.inj h
                              replace k := Option.some.inj k
                              subst h
                              subst k
                              try dsimp only
                              all_goals first
                              | (exfalso; omega)
                              | exact ⟨rfl, rfl, hsz, rfl, rfl, rfl, rfl, hV, fun e => e, fun w => w, fun w => w⟩
                          · replace k := zk_f mc99 k
                            have mc99n := mc99
                            (try simp only [i32_lt, i32_le, i32_e, z32_0, z32_1] at mc99n)
                            first
                            | (exfalso; omega)
                            | have h := Option.some.inj h
                              replace k := Option.some.inj k
                              subst h
                              subst k
                              try dsimp only
                              all_goals first
                              | (exfalso; omega)
                              | exact ⟨rfl, rfl, hsz, rfl, rfl, rfl, rfl, hV, fun e => e, fun w => w, fun w => w⟩
def OF (a0 a1 a2 a3 a4 a5 a6 a7 a8 a9 b0 b1 b2 b3 b4 b5 b6 b7 b8 b9 : Nat → Int32) : Prop := (∀ j, j < 40 → b0 j = a0 j) ∧ (∀ j, j < 40 → b1 j = a1 j) ∧ (∀ j, j < 40 → b2 j = a2 j) ∧ (∀ j, j < 40 → b3 j = a3 j) ∧ (∀ j, j < 40 → b4 j = a4 j) ∧ (∀ j, j < 40 → b5 j = a5 j) ∧ (∀ j, j < 40 → b6 j = a6 j) ∧ (∀ j, j < 40 → b7 j = a7 j) ∧ (∀ j, j < 40 → b8 j = a8 j) ∧ (∀ j, j < 1280 → b9 j = a9 j)
theorem OF_rf {a0 a1 a2 a3 a4 a5 a6 a7 a8 a9 : Nat → Int32} : OF a0 a1 a2 a3 a4 a5 a6 a7 a8 a9 a0 a1 a2 a3 a4 a5 a6 a7 a8 a9 := ⟨fun _ _ => rfl, fun _ _ => rfl, fun _ _ => rfl, fun _ _ => rfl, fun _ _ => rfl, fun _ _ => rfl, fun _ _ => rfl, fun _ _ => rfl, fun _ _ => rfl, fun _ _ => rfl⟩
theorem OF_tr {a0 a1 a2 a3 a4 a5 a6 a7 a8 a9 b0 b1 b2 b3 b4 b5 b6 b7 b8 b9 c0 c1 c2 c3 c4 c5 c6 c7 c8 c9 : Nat → Int32} (h : OF a0 a1 a2 a3 a4 a5 a6 a7 a8 a9 b0 b1 b2 b3 b4 b5 b6 b7 b8 b9) (h2 : OF b0 b1 b2 b3 b4 b5 b6 b7 b8 b9 c0 c1 c2 c3 c4 c5 c6 c7 c8 c9) : OF a0 a1 a2 a3 a4 a5 a6 a7 a8 a9 c0 c1 c2 c3 c4 c5 c6 c7 c8 c9 := ⟨fun j hj => (h2.1 j hj).trans (h.1 j hj), fun j hj => (h2.2.1 j hj).trans (h.2.1 j hj), fun j hj => (h2.2.2.1 j hj).trans (h.2.2.1 j hj), fun j hj => (h2.2.2.2.1 j hj).trans (h.2.2.2.1 j hj), fun j hj => (h2.2.2.2.2.1 j hj).trans (h.2.2.2.2.1 j hj), fun j hj => (h2.2.2.2.2.2.1 j hj).trans (h.2.2.2.2.2.1 j hj), fun j hj => (h2.2.2.2.2.2.2.1 j hj).trans (h.2.2.2.2.2.2.1 j hj), fun j hj => (h2.2.2.2.2.2.2.2.1 j hj).trans (h.2.2.2.2.2.2.2.1 j hj), fun j hj => (h2.2.2.2.2.2.2.2.2.1 j hj).trans (h.2.2.2.2.2.2.2.2.1 j hj), fun j hj => (h2.2.2.2.2.2.2.2.2.2 j hj).trans (h.2.2.2.2.2.2.2.2.2 j hj)⟩
set_option maxHeartbeats 4000000 in
set_option maxRecDepth 20000 in
theorem to_fr {mod_code : Int32} {court_shoeCount : Int32} {mod_claims : Int32} {ts : Int32} {at_ : Int32} {f : Int32} {court_suitCount : Int32} {mod_doneMany : Int32} {mod_undoneMany : Int32} {mod_open : Int32} {mod_laid : Int32} {mod_isBoth : Int32} {mod_wished : Int32} {mod_bestMany : Int32} {mod_bestRow : Int32} {mod_ringDigits : Int32} {mod_traces : Int32} {mod_claimBy : Nat → Int32} {mod_claimOn : Nat → Int32} {mod_askedMany : Nat → Int32} {mod_asked : Nat → Int32} {mod_endKind : Nat → Int32} {mod_isWon : Nat → Int32} {mod_firstMany : Nat → Int32} {mod_suedBy : Nat → Int32} {mod_suedOn : Nat → Int32} {mod_suitDay : Nat → Int32} {mod_suitLand : Nat → Int32} {mod_undoneFrom : Nat → Int32} {mod_wishClaim : Nat → Int32} {mod_wishWon : Nat → Int32} {x1 x2 x3 x4 : Int32} {R : (Nat → Int32) × (Nat → Int32) × (Nat → Int32) × (Nat → Int32) × (Nat → Int32) × (Nat → Int32) × (Nat → Int32) × (Nat → Int32) × (Nat → Int32) × (Nat → Int32)} (h0 : 0 ≤ x2.toInt ∧ x2.toInt ≤ 100) (h : f_X12_tryOut x1 x2 x3 x4 mod_code court_shoeCount mod_claims ts at_ f court_suitCount mod_doneMany mod_undoneMany mod_open mod_laid mod_isBoth mod_wished mod_bestMany mod_bestRow mod_ringDigits mod_traces mod_claimBy mod_claimOn mod_suedBy mod_suedOn mod_endKind mod_isWon mod_suitDay mod_suitLand mod_undoneFrom mod_askedMany mod_firstMany mod_asked mod_wishClaim mod_wishWon = some R) : OF mod_suedBy mod_suedOn mod_endKind mod_isWon mod_suitDay mod_suitLand mod_undoneFrom mod_askedMany mod_firstMany mod_asked R.1 R.2.1 R.2.2.1 R.2.2.2.1 R.2.2.2.2.1 R.2.2.2.2.2.1 R.2.2.2.2.2.2.1 R.2.2.2.2.2.2.2.1 R.2.2.2.2.2.2.2.2.1 R.2.2.2.2.2.2.2.2.2 ∧ x2.toInt ≤ 4 := by
  unfold f_X12_tryOut at h
  unfold B_X12_tryOut_0 at h
  replace h := zk_lt h
  obtain ⟨cv1, ce2, h⟩ := h
  subst ce2
  replace h := zk_gd h
  obtain ⟨g3, h⟩ := h
  replace h := zk_lt h
  obtain ⟨cv3, ce4, h⟩ := h
  subst ce4
  replace h := zk_gd h
  obtain ⟨g6, h⟩ := h
  replace h := zk_lt h
  obtain ⟨cv5, ce6, h⟩ := h
  subst ce6
  replace h := zk_gd h
  obtain ⟨g9, h⟩ := h
  replace h := zk_lt h
  obtain ⟨cv7, ce8, h⟩ := h
  subst ce8
  replace h := zk_gd h
  obtain ⟨g12, h⟩ := h
  replace h := zk_lt h
  obtain ⟨cv9, ce10, h⟩ := h
  subst ce10
  replace h := zk_gd h
  obtain ⟨g15, h⟩ := h
  replace h := zk_lt h
  obtain ⟨cv11, ce12, h⟩ := h
  subst ce12
  replace h := zk_gd h
  obtain ⟨g18, h⟩ := h
  replace h := zk_lt h
  obtain ⟨cv13, ce14, h⟩ := h
  subst ce14
  replace h := zk_gd h
  obtain ⟨g21, h⟩ := h
  replace h := zk_lt h
  obtain ⟨cv15, ce16, h⟩ := h
  subst ce16
  replace h := zk_gd h
  obtain ⟨g24, h⟩ := h
  replace h := zk_lt h
  obtain ⟨cv17, ce18, h⟩ := h
  subst ce18
  replace h := zk_gd h
  obtain ⟨g27, h⟩ := h
  replace h := zk_lt h
  obtain ⟨cv19, ce20, h⟩ := h
  subst ce20
  replace h := zk_gd h
  obtain ⟨g30, h⟩ := h
  replace h := zk_lt h
  obtain ⟨cv21, ce22, h⟩ := h
  subst ce22
  replace h := zk_gd h
  obtain ⟨g33, h⟩ := h
  replace h := zk_lt h
  obtain ⟨cv23, ce24, h⟩ := h
  subst ce24
  replace h := zk_gd h
  obtain ⟨g36, h⟩ := h
  replace h := zk_lt h
  obtain ⟨cv25, ce26, h⟩ := h
  subst ce26
  replace h := zk_gd h
  obtain ⟨g39, h⟩ := h
  replace h := zk_lt h
  obtain ⟨cv27, ce28, h⟩ := h
  subst ce28
  replace h := zk_lt h
  obtain ⟨cv29, ce30, h⟩ := h
  subst ce30
  replace h := zk_gd h
  obtain ⟨g44, h⟩ := h
  replace h := zk_lt h
  obtain ⟨cv31, ce32, h⟩ := h
  subst ce32
  have g := g39
  have e40 : ((40 : Int32) + x2).toInt = 40 + x2.toInt := by rw [i32_a (by decide) (by omega), z32L_40]
  have g2 : ((40 : Int32) + x2).toNatClampNeg < 45 := by
    by_cases c : ((40 : Int32) + x2).toNatClampNeg < 45
    · exact c
    · exact absurd (Or.inr (by omega)) g
  have et : ((40 : Int32) + x2).toNatClampNeg = ((40 : Int32) + x2).toInt.toNat := rfl
  have e32 : ((32 : Int32) * ((40 : Int32) + x2)).toInt = 32 * (40 + x2.toInt) := by
    rw [Int32.toInt_mul, z32L_32, e40]
    exact zi_bm2 (by omega) (by omega)
  have et2 : ((32 : Int32) * ((40 : Int32) + x2)).toNatClampNeg = ((32 : Int32) * ((40 : Int32) + x2)).toInt.toNat := rfl
  replace h := Option.some.inj h
  subst h
  exact ⟨⟨fun j hj => upd_n (by omega), fun j hj => upd_n (by omega), fun j hj => upd_n (by omega), fun j hj => upd_n (by omega), fun j hj => upd_n (by omega), fun j hj => upd_n (by omega), fun j hj => upd_n (by omega), fun j hj => upd_n (by omega), fun j hj => upd_n (by omega), fun j hj => upd_n (by omega)⟩, by omega⟩
set_option maxHeartbeats 4000000 in
set_option maxRecDepth 20000 in
theorem of_loop  {r : Int32 → Int32 → Int32 → Int32 → Int32 → Int32 → Int32 → Int32 → Int32 → Int32 → Int32 → Int32 → Int32 → Int32 → Int32 → Int32 → Int32 → Int32 → Int32 → Int32 → Int32 → Int32 → Int32 → (Nat → Int32) → (Nat → Int32) → (Nat → Int32) → (Nat → Int32) → (Nat → Int32) → (Nat → Int32) → (Nat → Int32) → (Nat → Int32) → (Nat → Int32) → (Nat → Int32) → (Nat → Int32) → (Nat → Int32) → (Nat → Int32) → (Nat → Int32) → (Nat → Int32) → (Nat → Int32) → (Nat → Int32) → (Nat → Int32) → (Nat → Int32) → (Nat → Int32) → (Nat → Int32) → (Nat → Int32) → (Nat → Int32) → (Nat → Int32) → (Nat → Int32) → (Nat → Int32) → (Nat → Int32) → (Nat → Int32) → (Nat → Int32) → (Option (Int32 × Int32 × (Nat → Int32) × (Nat → Int32) × (Nat → Int32) × (Nat → Int32) × (Nat → Int32) × (Nat → Int32) × (Nat → Int32) × (Nat → Int32) × (Nat → Int32) × (Nat → Int32) × (Nat → Int32) × (Nat → Int32) × (Nat → Int32) × (Nat → Int32)))} {mod_code : Int32} {court_shoeCount : Int32} {mod_claims : Int32} {ts : Int32} {at_ : Int32} {f : Int32} {court_suitCount : Int32} {mod_doneMany : Int32} {mod_undoneMany : Int32} {mod_open : Int32} {mod_laid : Int32} {mod_isBoth : Int32} {mod_wished : Int32} {mod_ringDigits : Int32} {mod_traces : Int32} {mod_wearer : Nat → Int32} {mod_wornFor : Nat → Int32} {mod_shoeSort : Nat → Int32} {mod_shoeDay : Nat → Int32} {mod_claimBy : Nat → Int32} {mod_claimOn : Nat → Int32} {mod_factOf : Nat → Int32} {mod_pleaOf : Nat → Int32} {mod_act : Nat → Int32} {mod_with : Nat → Int32} {mod_lineMany : Nat → Int32} {mod_testEnd : Nat → Int32} {mod_lineEnd : Nat → Int32} {mod_wishClaim : Nat → Int32} {mod_wishWon : Nat → Int32} (hr : ∀ (x1 : Int32) (x2 : Int32) (x3 : Int32) (x4 : Int32) (x5 : Int32) (x6 : Int32) (mod_code : Int32) (court_shoeCount : Int32) (mod_claims : Int32) (ts : Int32) (at_ : Int32) (f : Int32) (court_suitCount : Int32) (mod_doneMany : Int32) (mod_undoneMany : Int32) (mod_open : Int32) (mod_laid : Int32) (mod_isBoth : Int32) (mod_wished : Int32) (mod_bestMany : Int32) (mod_bestRow : Int32) (mod_ringDigits : Int32) (mod_traces : Int32) (mod_wearer : Nat → Int32) (mod_wornFor : Nat → Int32) (mod_shoeSort : Nat → Int32) (mod_shoeDay : Nat → Int32) (mod_claimBy : Nat → Int32) (mod_claimOn : Nat → Int32) (mod_factOf : Nat → Int32) (mod_pleaOf : Nat → Int32) (mod_suedBy : Nat → Int32) (mod_suedOn : Nat → Int32) (mod_endKind : Nat → Int32) (mod_isWon : Nat → Int32) (mod_suitDay : Nat → Int32) (mod_suitLand : Nat → Int32) (mod_undoneFrom : Nat → Int32) (mod_askedMany : Nat → Int32) (mod_firstMany : Nat → Int32) (mod_asked : Nat → Int32) (mod_act : Nat → Int32) (mod_with : Nat → Int32) (mod_lineMany : Nat → Int32) (mod_testEnd : Nat → Int32) (mod_lineEnd : Nat → Int32) (mod_facts : Nat → Int32) (mod_pile : Nat → Int32) (mod_doesBind : Nat → Int32) (mod_boundAs : Nat → Int32) (mod_wishClaim : Nat → Int32) (mod_wishWon : Nat → Int32) (R : Int32 × Int32 × (Nat → Int32) × (Nat → Int32) × (Nat → Int32) × (Nat → Int32) × (Nat → Int32) × (Nat → Int32) × (Nat → Int32) × (Nat → Int32) × (Nat → Int32) × (Nat → Int32) × (Nat → Int32) × (Nat → Int32) × (Nat → Int32) × (Nat → Int32)), 0 ≤ x4.toInt → x4.toInt ≤ 100 → r x1 x2 x3 x4 x5 x6 mod_code court_shoeCount mod_claims ts at_ f court_suitCount mod_doneMany mod_undoneMany mod_open mod_laid mod_isBoth mod_wished mod_bestMany mod_bestRow mod_ringDigits mod_traces mod_wearer mod_wornFor mod_shoeSort mod_shoeDay mod_claimBy mod_claimOn mod_factOf mod_pleaOf mod_suedBy mod_suedOn mod_endKind mod_isWon mod_suitDay mod_suitLand mod_undoneFrom mod_askedMany mod_firstMany mod_asked mod_act mod_with mod_lineMany mod_testEnd mod_lineEnd mod_facts mod_pile mod_doesBind mod_boundAs mod_wishClaim mod_wishWon = some R → OF mod_suedBy mod_suedOn mod_endKind mod_isWon mod_suitDay mod_suitLand mod_undoneFrom mod_askedMany mod_firstMany mod_asked R.2.2.1 R.2.2.2.1 R.2.2.2.2.1 R.2.2.2.2.2.1 R.2.2.2.2.2.2.1 R.2.2.2.2.2.2.2.1 R.2.2.2.2.2.2.2.2.1 R.2.2.2.2.2.2.2.2.2.1 R.2.2.2.2.2.2.2.2.2.2.1 R.2.2.2.2.2.2.2.2.2.2.2.1) : ∀ (N : Nat) (x1 : Int32) (x2 : Int32) (x3 : Int32) (x4 : Int32) (x5 : Int32) (x6 : Int32) (x7 : Int32) (mod_bestMany : Int32) (mod_bestRow : Int32) (mod_suedBy : Nat → Int32) (mod_suedOn : Nat → Int32) (mod_endKind : Nat → Int32) (mod_isWon : Nat → Int32) (mod_suitDay : Nat → Int32) (mod_suitLand : Nat → Int32) (mod_undoneFrom : Nat → Int32) (mod_askedMany : Nat → Int32) (mod_firstMany : Nat → Int32) (mod_asked : Nat → Int32) (mod_facts : Nat → Int32) (mod_pile : Nat → Int32) (mod_doesBind : Nat → Int32) (mod_boundAs : Nat → Int32) (R : Int32 × Int32 × (Nat → Int32) × (Nat → Int32) × (Nat → Int32) × (Nat → Int32) × (Nat → Int32) × (Nat → Int32) × (Nat → Int32) × (Nat → Int32) × (Nat → Int32) × (Nat → Int32) × (Nat → Int32) × (Nat → Int32) × (Nat → Int32) × (Nat → Int32)), 0 ≤ x4.toInt → x4.toInt ≤ 100 → G_X12_orders r mod_code court_shoeCount mod_claims ts at_ f court_suitCount mod_doneMany mod_undoneMany mod_open mod_laid mod_isBoth mod_wished mod_ringDigits mod_traces mod_wearer mod_wornFor mod_shoeSort mod_shoeDay mod_claimBy mod_claimOn mod_factOf mod_pleaOf mod_act mod_with mod_lineMany mod_testEnd mod_lineEnd mod_wishClaim mod_wishWon N x1 x2 x3 x4 x5 x6 x7 mod_bestMany mod_bestRow mod_suedBy mod_suedOn mod_endKind mod_isWon mod_suitDay mod_suitLand mod_undoneFrom mod_askedMany mod_firstMany mod_asked mod_facts mod_pile mod_doesBind mod_boundAs = some R → OF mod_suedBy mod_suedOn mod_endKind mod_isWon mod_suitDay mod_suitLand mod_undoneFrom mod_askedMany mod_firstMany mod_asked R.2.2.1 R.2.2.2.1 R.2.2.2.2.1 R.2.2.2.2.2.1 R.2.2.2.2.2.2.1 R.2.2.2.2.2.2.2.1 R.2.2.2.2.2.2.2.2.1 R.2.2.2.2.2.2.2.2.2.1 R.2.2.2.2.2.2.2.2.2.2.1 R.2.2.2.2.2.2.2.2.2.2.2.1 := by
  intro N
  induction N with
  | zero =>
    intro x1 x2 x3 x4 x5 x6 x7 mod_bestMany mod_bestRow mod_suedBy mod_suedOn mod_endKind mod_isWon mod_suitDay mod_suitLand mod_undoneFrom mod_askedMany mod_firstMany mod_asked mod_facts mod_pile mod_doesBind mod_boundAs R h0 h1 h
    cases h
  | succ N ih =>
    intro x1 x2 x3 x4 x5 x6 x7 mod_bestMany mod_bestRow mod_suedBy mod_suedOn mod_endKind mod_isWon mod_suitDay mod_suitLand mod_undoneFrom mod_askedMany mod_firstMany mod_asked mod_facts mod_pile mod_doesBind mod_boundAs R h0 h1 h
    replace h : B_X12_orders_40 r (G_X12_orders r mod_code court_shoeCount mod_claims ts at_ f court_suitCount mod_doneMany mod_undoneMany mod_open mod_laid mod_isBoth mod_wished mod_ringDigits mod_traces mod_wearer mod_wornFor mod_shoeSort mod_shoeDay mod_claimBy mod_claimOn mod_factOf mod_pleaOf mod_act mod_with mod_lineMany mod_testEnd mod_lineEnd mod_wishClaim mod_wishWon N) mod_code court_shoeCount mod_claims ts at_ f court_suitCount mod_doneMany mod_undoneMany mod_open mod_laid mod_isBoth mod_wished mod_ringDigits mod_traces mod_wearer mod_wornFor mod_shoeSort mod_shoeDay mod_claimBy mod_claimOn mod_factOf mod_pleaOf mod_act mod_with mod_lineMany mod_testEnd mod_lineEnd mod_wishClaim mod_wishWon x1 x2 x3 x4 x5 x6 x7 mod_bestMany mod_bestRow mod_suedBy mod_suedOn mod_endKind mod_isWon mod_suitDay mod_suitLand mod_undoneFrom mod_askedMany mod_firstMany mod_asked mod_facts mod_pile mod_doesBind mod_boundAs = some R := h
    have hs4 := i32_s (a := x4) (by omega)
    unfold B_X12_orders_40 at h
    by_cases cc1 : mod_wished ≤ x7
    · replace h := zk_t cc1 h
      have cc1n := cc1
      (try simp only [i32_lt, i32_le, i32_e, z32_0, z32_1] at cc1n)
      replace h := Option.some.inj h
      subst h
      exact OF_rf
    · replace h := zk_f cc1 h
      have cc1n := cc1
      (try simp only [i32_lt, i32_le, i32_e, z32_0, z32_1] at cc1n)
      by_cases cc2 : ((x2 >>> (x7 &&& 31)) &&& (1 : Int32)) = (1 : Int32)
      · replace h := zk_t cc2 h
        have cc2n := cc2
        (try simp only [i32_lt, i32_le, i32_e, z32_0, z32_1, z32L_31] at cc2n)
        unfold B_X12_orders_182 at h
        replace h := zk_lt h
        obtain ⟨cv3, ce4, h⟩ := h
        subst ce4
        exact OF_tr OF_rf (ih _ _ _ _ _ _ _ _ _ _ _ _ _ _ _ _ _ _ _ _ _ _ _ R h0 h1 h)
      · replace h := zk_f cc2 h
        have cc2n := cc2
        (try simp only [i32_lt, i32_le, i32_e, z32_0, z32_1, z32L_31] at cc2n)
        replace h := zk_gd h
        obtain ⟨_, h⟩ := h
        replace h := zk_lt h
        obtain ⟨cv5, ce6, h⟩ := h
        subst ce6
        replace h := zk_o4 h
        obtain ⟨cv7, cv8, cv9, cv10, ch11, h⟩ := h
        skip
        replace h := zk_gd h
        obtain ⟨_, h⟩ := h
        replace h := zk_gd h
        obtain ⟨_, h⟩ := h
        replace h := zk_o3 h
        obtain ⟨cv12, cv13, cv14, ch15, h⟩ := h
        skip
        by_cases cc16 : cv12 = (-2 : Int32)
        · replace h := zk_t cc16 h
          have cc16n := cc16
          (try simp only [i32_lt, i32_le, i32_e, z32_0, z32_1, z32N_2, z32L_2] at cc16n)
          unfold B_X12_orders_121 at h
          replace h := zk_t rfl h
          replace h := zk_o10 h
          obtain ⟨cv17, cv18, cv19, cv20, cv21, cv22, cv23, cv24, cv25, cv26, ch27, h⟩ := h
          obtain ⟨ck28, ck29⟩ := to_fr ⟨h0, h1⟩ ch27
          have ck30 := OF_tr OF_rf ck28
          unfold B_X12_orders_142 at h
          replace h := zk_t rfl h
          unfold B_X12_orders_175 at h
          replace h := zk_o16 h
          obtain ⟨cv31, cv32, cv33, cv34, cv35, cv36, cv37, cv38, cv39, cv40, cv41, cv42, cv43, cv44, cv45, cv46, ch47, h⟩ := h
          obtain ck48 := hr _ _ _ _ _ _ _ _ _ _ _ _ _ _ _ _ _ _ _ _ _ _ _ _ _ _ _ _ _ _ _ _ _ _ _ _ _ _ _ _ _ _ _ _ _ _ _ _ _ _ _ _ _ (by omega) (by omega) ch47
          have ck49 := OF_tr ck30 ck48
          unfold B_X12_orders_182 at h
          replace h := zk_lt h
          obtain ⟨cv50, ce51, h⟩ := h
          subst ce51
          exact OF_tr ck49 (ih _ _ _ _ _ _ _ _ _ _ _ _ _ _ _ _ _ _ _ _ _ _ _ R h0 h1 h)
        · replace h := zk_f cc16 h
          have cc16n := cc16
          (try simp only [i32_lt, i32_le, i32_e, z32_0, z32_1, z32N_2, z32L_2] at cc16n)
          unfold B_X12_orders_121 at h
          replace h := zk_f (by decide) h
          unfold B_X12_orders_142 at h
          replace h := zk_f (by decide) h
          unfold B_X12_orders_175 at h
          replace h := zk_o16 h
          obtain ⟨cv52, cv53, cv54, cv55, cv56, cv57, cv58, cv59, cv60, cv61, cv62, cv63, cv64, cv65, cv66, cv67, ch68, h⟩ := h
          obtain ck69 := hr _ _ _ _ _ _ _ _ _ _ _ _ _ _ _ _ _ _ _ _ _ _ _ _ _ _ _ _ _ _ _ _ _ _ _ _ _ _ _ _ _ _ _ _ _ _ _ _ _ _ _ _ _ (by omega) (by omega) ch68
          have ck70 := OF_tr OF_rf ck69
          unfold B_X12_orders_182 at h
          replace h := zk_lt h
          obtain ⟨cv71, ce72, h⟩ := h
          subst ce72
          exact OF_tr ck70 (ih _ _ _ _ _ _ _ _ _ _ _ _ _ _ _ _ _ _ _ _ _ _ _ R h0 h1 h)

set_option maxHeartbeats 4000000 in
set_option maxRecDepth 20000 in
theorem of_f  {r : Int32 → Int32 → Int32 → Int32 → Int32 → Int32 → Int32 → Int32 → Int32 → Int32 → Int32 → Int32 → Int32 → Int32 → Int32 → Int32 → Int32 → Int32 → Int32 → Int32 → Int32 → Int32 → Int32 → (Nat → Int32) → (Nat → Int32) → (Nat → Int32) → (Nat → Int32) → (Nat → Int32) → (Nat → Int32) → (Nat → Int32) → (Nat → Int32) → (Nat → Int32) → (Nat → Int32) → (Nat → Int32) → (Nat → Int32) → (Nat → Int32) → (Nat → Int32) → (Nat → Int32) → (Nat → Int32) → (Nat → Int32) → (Nat → Int32) → (Nat → Int32) → (Nat → Int32) → (Nat → Int32) → (Nat → Int32) → (Nat → Int32) → (Nat → Int32) → (Nat → Int32) → (Nat → Int32) → (Nat → Int32) → (Nat → Int32) → (Nat → Int32) → (Option (Int32 × Int32 × (Nat → Int32) × (Nat → Int32) × (Nat → Int32) × (Nat → Int32) × (Nat → Int32) × (Nat → Int32) × (Nat → Int32) × (Nat → Int32) × (Nat → Int32) × (Nat → Int32) × (Nat → Int32) × (Nat → Int32) × (Nat → Int32) × (Nat → Int32)))} {N : Nat} (hr : ∀ (x1 : Int32) (x2 : Int32) (x3 : Int32) (x4 : Int32) (x5 : Int32) (x6 : Int32) (mod_code : Int32) (court_shoeCount : Int32) (mod_claims : Int32) (ts : Int32) (at_ : Int32) (f : Int32) (court_suitCount : Int32) (mod_doneMany : Int32) (mod_undoneMany : Int32) (mod_open : Int32) (mod_laid : Int32) (mod_isBoth : Int32) (mod_wished : Int32) (mod_bestMany : Int32) (mod_bestRow : Int32) (mod_ringDigits : Int32) (mod_traces : Int32) (mod_wearer : Nat → Int32) (mod_wornFor : Nat → Int32) (mod_shoeSort : Nat → Int32) (mod_shoeDay : Nat → Int32) (mod_claimBy : Nat → Int32) (mod_claimOn : Nat → Int32) (mod_factOf : Nat → Int32) (mod_pleaOf : Nat → Int32) (mod_suedBy : Nat → Int32) (mod_suedOn : Nat → Int32) (mod_endKind : Nat → Int32) (mod_isWon : Nat → Int32) (mod_suitDay : Nat → Int32) (mod_suitLand : Nat → Int32) (mod_undoneFrom : Nat → Int32) (mod_askedMany : Nat → Int32) (mod_firstMany : Nat → Int32) (mod_asked : Nat → Int32) (mod_act : Nat → Int32) (mod_with : Nat → Int32) (mod_lineMany : Nat → Int32) (mod_testEnd : Nat → Int32) (mod_lineEnd : Nat → Int32) (mod_facts : Nat → Int32) (mod_pile : Nat → Int32) (mod_doesBind : Nat → Int32) (mod_boundAs : Nat → Int32) (mod_wishClaim : Nat → Int32) (mod_wishWon : Nat → Int32) (R : Int32 × Int32 × (Nat → Int32) × (Nat → Int32) × (Nat → Int32) × (Nat → Int32) × (Nat → Int32) × (Nat → Int32) × (Nat → Int32) × (Nat → Int32) × (Nat → Int32) × (Nat → Int32) × (Nat → Int32) × (Nat → Int32) × (Nat → Int32) × (Nat → Int32)), 0 ≤ x4.toInt → x4.toInt ≤ 100 → r x1 x2 x3 x4 x5 x6 mod_code court_shoeCount mod_claims ts at_ f court_suitCount mod_doneMany mod_undoneMany mod_open mod_laid mod_isBoth mod_wished mod_bestMany mod_bestRow mod_ringDigits mod_traces mod_wearer mod_wornFor mod_shoeSort mod_shoeDay mod_claimBy mod_claimOn mod_factOf mod_pleaOf mod_suedBy mod_suedOn mod_endKind mod_isWon mod_suitDay mod_suitLand mod_undoneFrom mod_askedMany mod_firstMany mod_asked mod_act mod_with mod_lineMany mod_testEnd mod_lineEnd mod_facts mod_pile mod_doesBind mod_boundAs mod_wishClaim mod_wishWon = some R → OF mod_suedBy mod_suedOn mod_endKind mod_isWon mod_suitDay mod_suitLand mod_undoneFrom mod_askedMany mod_firstMany mod_asked R.2.2.1 R.2.2.2.1 R.2.2.2.2.1 R.2.2.2.2.2.1 R.2.2.2.2.2.2.1 R.2.2.2.2.2.2.2.1 R.2.2.2.2.2.2.2.2.1 R.2.2.2.2.2.2.2.2.2.1 R.2.2.2.2.2.2.2.2.2.2.1 R.2.2.2.2.2.2.2.2.2.2.2.1) : ∀ (x1 : Int32) (x2 : Int32) (x3 : Int32) (x4 : Int32) (x5 : Int32) (x6 : Int32) (mod_code : Int32) (court_shoeCount : Int32) (mod_claims : Int32) (ts : Int32) (at_ : Int32) (f : Int32) (court_suitCount : Int32) (mod_doneMany : Int32) (mod_undoneMany : Int32) (mod_open : Int32) (mod_laid : Int32) (mod_isBoth : Int32) (mod_wished : Int32) (mod_bestMany : Int32) (mod_bestRow : Int32) (mod_ringDigits : Int32) (mod_traces : Int32) (mod_wearer : Nat → Int32) (mod_wornFor : Nat → Int32) (mod_shoeSort : Nat → Int32) (mod_shoeDay : Nat → Int32) (mod_claimBy : Nat → Int32) (mod_claimOn : Nat → Int32) (mod_factOf : Nat → Int32) (mod_pleaOf : Nat → Int32) (mod_suedBy : Nat → Int32) (mod_suedOn : Nat → Int32) (mod_endKind : Nat → Int32) (mod_isWon : Nat → Int32) (mod_suitDay : Nat → Int32) (mod_suitLand : Nat → Int32) (mod_undoneFrom : Nat → Int32) (mod_askedMany : Nat → Int32) (mod_firstMany : Nat → Int32) (mod_asked : Nat → Int32) (mod_act : Nat → Int32) (mod_with : Nat → Int32) (mod_lineMany : Nat → Int32) (mod_testEnd : Nat → Int32) (mod_lineEnd : Nat → Int32) (mod_facts : Nat → Int32) (mod_pile : Nat → Int32) (mod_doesBind : Nat → Int32) (mod_boundAs : Nat → Int32) (mod_wishClaim : Nat → Int32) (mod_wishWon : Nat → Int32) (R : Int32 × Int32 × (Nat → Int32) × (Nat → Int32) × (Nat → Int32) × (Nat → Int32) × (Nat → Int32) × (Nat → Int32) × (Nat → Int32) × (Nat → Int32) × (Nat → Int32) × (Nat → Int32) × (Nat → Int32) × (Nat → Int32) × (Nat → Int32) × (Nat → Int32)), 0 ≤ x4.toInt → x4.toInt ≤ 100 → f_X12_orders r N x1 x2 x3 x4 x5 x6 mod_code court_shoeCount mod_claims ts at_ f court_suitCount mod_doneMany mod_undoneMany mod_open mod_laid mod_isBoth mod_wished mod_bestMany mod_bestRow mod_ringDigits mod_traces mod_wearer mod_wornFor mod_shoeSort mod_shoeDay mod_claimBy mod_claimOn mod_factOf mod_pleaOf mod_suedBy mod_suedOn mod_endKind mod_isWon mod_suitDay mod_suitLand mod_undoneFrom mod_askedMany mod_firstMany mod_asked mod_act mod_with mod_lineMany mod_testEnd mod_lineEnd mod_facts mod_pile mod_doesBind mod_boundAs mod_wishClaim mod_wishWon = some R → OF mod_suedBy mod_suedOn mod_endKind mod_isWon mod_suitDay mod_suitLand mod_undoneFrom mod_askedMany mod_firstMany mod_asked R.2.2.1 R.2.2.2.1 R.2.2.2.2.1 R.2.2.2.2.2.1 R.2.2.2.2.2.2.1 R.2.2.2.2.2.2.2.1 R.2.2.2.2.2.2.2.2.1 R.2.2.2.2.2.2.2.2.2.1 R.2.2.2.2.2.2.2.2.2.2.1 R.2.2.2.2.2.2.2.2.2.2.2.1 := by
  intro x1 x2 x3 x4 x5 x6 mod_code court_shoeCount mod_claims ts at_ f court_suitCount mod_doneMany mod_undoneMany mod_open mod_laid mod_isBoth mod_wished mod_bestMany mod_bestRow mod_ringDigits mod_traces mod_wearer mod_wornFor mod_shoeSort mod_shoeDay mod_claimBy mod_claimOn mod_factOf mod_pleaOf mod_suedBy mod_suedOn mod_endKind mod_isWon mod_suitDay mod_suitLand mod_undoneFrom mod_askedMany mod_firstMany mod_asked mod_act mod_with mod_lineMany mod_testEnd mod_lineEnd mod_facts mod_pile mod_doesBind mod_boundAs mod_wishClaim mod_wishWon R h0 h1 h
  unfold f_X12_orders at h
  unfold B_X12_orders_0 at h
  by_cases cc1 : x1 = mod_wished
  · replace h := zk_t cc1 h
    have cc1n := cc1
    (try simp only [i32_lt, i32_le, i32_e, z32_0, z32_1] at cc1n)
    by_cases cc2 : mod_bestMany < x4
    · replace h := zk_t cc2 h
      have cc2n := cc2
      (try simp only [i32_lt, i32_le, i32_e, z32_0, z32_1] at cc2n)
      unfold B_X12_orders_25 at h
      replace h := Option.some.inj h
      subst h
      exact OF_rf
    · replace h := zk_f cc2 h
      have cc2n := cc2
      (try simp only [i32_lt, i32_le, i32_e, z32_0, z32_1] at cc2n)
      by_cases cc3 : mod_bestRow ≤ 0
      · replace h := zk_t cc3 h
        have cc3n := cc3
        (try simp only [i32_lt, i32_le, i32_e, z32_0, z32_1] at cc3n)
        unfold B_X12_orders_25 at h
        replace h := Option.some.inj h
        subst h
        exact OF_rf
      · replace h := zk_f cc3 h
        have cc3n := cc3
        (try simp only [i32_lt, i32_le, i32_e, z32_0, z32_1] at cc3n)
        replace h := Option.some.inj h
        subst h
        exact OF_rf
  · replace h := zk_f cc1 h
    have cc1n := cc1
    (try simp only [i32_lt, i32_le, i32_e, z32_0, z32_1] at cc1n)
    exact of_loop hr _ _ _ _ _ _ _ _ _ _ _ _ _ _ _ _ _ _ _ _ _ _ _ _ R h0 h1 h
set_option maxHeartbeats 4000000 in
set_option maxRecDepth 20000 in
theorem of_grp   : ∀ n : Nat, ∀ (x1 : Int32) (x2 : Int32) (x3 : Int32) (x4 : Int32) (x5 : Int32) (x6 : Int32) (mod_code : Int32) (court_shoeCount : Int32) (mod_claims : Int32) (ts : Int32) (at_ : Int32) (f : Int32) (court_suitCount : Int32) (mod_doneMany : Int32) (mod_undoneMany : Int32) (mod_open : Int32) (mod_laid : Int32) (mod_isBoth : Int32) (mod_wished : Int32) (mod_bestMany : Int32) (mod_bestRow : Int32) (mod_ringDigits : Int32) (mod_traces : Int32) (mod_wearer : Nat → Int32) (mod_wornFor : Nat → Int32) (mod_shoeSort : Nat → Int32) (mod_shoeDay : Nat → Int32) (mod_claimBy : Nat → Int32) (mod_claimOn : Nat → Int32) (mod_factOf : Nat → Int32) (mod_pleaOf : Nat → Int32) (mod_suedBy : Nat → Int32) (mod_suedOn : Nat → Int32) (mod_endKind : Nat → Int32) (mod_isWon : Nat → Int32) (mod_suitDay : Nat → Int32) (mod_suitLand : Nat → Int32) (mod_undoneFrom : Nat → Int32) (mod_askedMany : Nat → Int32) (mod_firstMany : Nat → Int32) (mod_asked : Nat → Int32) (mod_act : Nat → Int32) (mod_with : Nat → Int32) (mod_lineMany : Nat → Int32) (mod_testEnd : Nat → Int32) (mod_lineEnd : Nat → Int32) (mod_facts : Nat → Int32) (mod_pile : Nat → Int32) (mod_doesBind : Nat → Int32) (mod_boundAs : Nat → Int32) (mod_wishClaim : Nat → Int32) (mod_wishWon : Nat → Int32) (R : Int32 × Int32 × (Nat → Int32) × (Nat → Int32) × (Nat → Int32) × (Nat → Int32) × (Nat → Int32) × (Nat → Int32) × (Nat → Int32) × (Nat → Int32) × (Nat → Int32) × (Nat → Int32) × (Nat → Int32) × (Nat → Int32) × (Nat → Int32) × (Nat → Int32)), 0 ≤ x4.toInt → x4.toInt ≤ 100 → (grp_grp78 n) x1 x2 x3 x4 x5 x6 mod_code court_shoeCount mod_claims ts at_ f court_suitCount mod_doneMany mod_undoneMany mod_open mod_laid mod_isBoth mod_wished mod_bestMany mod_bestRow mod_ringDigits mod_traces mod_wearer mod_wornFor mod_shoeSort mod_shoeDay mod_claimBy mod_claimOn mod_factOf mod_pleaOf mod_suedBy mod_suedOn mod_endKind mod_isWon mod_suitDay mod_suitLand mod_undoneFrom mod_askedMany mod_firstMany mod_asked mod_act mod_with mod_lineMany mod_testEnd mod_lineEnd mod_facts mod_pile mod_doesBind mod_boundAs mod_wishClaim mod_wishWon = some R → OF mod_suedBy mod_suedOn mod_endKind mod_isWon mod_suitDay mod_suitLand mod_undoneFrom mod_askedMany mod_firstMany mod_asked R.2.2.1 R.2.2.2.1 R.2.2.2.2.1 R.2.2.2.2.2.1 R.2.2.2.2.2.2.1 R.2.2.2.2.2.2.2.1 R.2.2.2.2.2.2.2.2.1 R.2.2.2.2.2.2.2.2.2.1 R.2.2.2.2.2.2.2.2.2.2.1 R.2.2.2.2.2.2.2.2.2.2.2.1 := by
  intro n
  induction n with
  | zero =>
    intro x1 x2 x3 x4 x5 x6 mod_code court_shoeCount mod_claims ts at_ f court_suitCount mod_doneMany mod_undoneMany mod_open mod_laid mod_isBoth mod_wished mod_bestMany mod_bestRow mod_ringDigits mod_traces mod_wearer mod_wornFor mod_shoeSort mod_shoeDay mod_claimBy mod_claimOn mod_factOf mod_pleaOf mod_suedBy mod_suedOn mod_endKind mod_isWon mod_suitDay mod_suitLand mod_undoneFrom mod_askedMany mod_firstMany mod_asked mod_act mod_with mod_lineMany mod_testEnd mod_lineEnd mod_facts mod_pile mod_doesBind mod_boundAs mod_wishClaim mod_wishWon R h0 h1 h
    cases h
  | succ n ih =>
    intro x1 x2 x3 x4 x5 x6 mod_code court_shoeCount mod_claims ts at_ f court_suitCount mod_doneMany mod_undoneMany mod_open mod_laid mod_isBoth mod_wished mod_bestMany mod_bestRow mod_ringDigits mod_traces mod_wearer mod_wornFor mod_shoeSort mod_shoeDay mod_claimBy mod_claimOn mod_factOf mod_pleaOf mod_suedBy mod_suedOn mod_endKind mod_isWon mod_suitDay mod_suitLand mod_undoneFrom mod_askedMany mod_firstMany mod_asked mod_act mod_with mod_lineMany mod_testEnd mod_lineEnd mod_facts mod_pile mod_doesBind mod_boundAs mod_wishClaim mod_wishWon R h0 h1 h
    replace h : f_X12_orders (grp_grp78 n) 100000 x1 x2 x3 x4 x5 x6 mod_code court_shoeCount mod_claims ts at_ f court_suitCount mod_doneMany mod_undoneMany mod_open mod_laid mod_isBoth mod_wished mod_bestMany mod_bestRow mod_ringDigits mod_traces mod_wearer mod_wornFor mod_shoeSort mod_shoeDay mod_claimBy mod_claimOn mod_factOf mod_pleaOf mod_suedBy mod_suedOn mod_endKind mod_isWon mod_suitDay mod_suitLand mod_undoneFrom mod_askedMany mod_firstMany mod_asked mod_act mod_with mod_lineMany mod_testEnd mod_lineEnd mod_facts mod_pile mod_doesBind mod_boundAs mod_wishClaim mod_wishWon = some R := h
    exact of_f ih _ _ _ _ _ _ _ _ _ _ _ _ _ _ _ _ _ _ _ _ _ _ _ _ _ _ _ _ _ _ _ _ _ _ _ _ _ _ _ _ _ _ _ _ _ _ _ _ _ _ _ _ R h0 h1 h
set_option maxHeartbeats 4000000 in
set_option maxRecDepth 20000 in
theorem of_order {mod_code : Int32} {court_shoeCount : Int32} {mod_claims : Int32} {ts : Int32} {at_ : Int32} {f : Int32} {court_suitCount : Int32} {mod_doneMany : Int32} {mod_undoneMany : Int32} {mod_open : Int32} {mod_laid : Int32} {mod_isBoth : Int32} {mod_wished : Int32} {mod_bestMany : Int32} {mod_bestRow : Int32} {mod_ringDigits : Int32} {mod_traces : Int32} {mod_wearer : Nat → Int32} {mod_wornFor : Nat → Int32} {mod_shoeSort : Nat → Int32} {mod_shoeDay : Nat → Int32} {mod_claimBy : Nat → Int32} {mod_claimOn : Nat → Int32} {mod_factOf : Nat → Int32} {mod_pleaOf : Nat → Int32} {mod_askedMany : Nat → Int32} {mod_asked : Nat → Int32} {mod_endKind : Nat → Int32} {mod_isWon : Nat → Int32} {mod_firstMany : Nat → Int32} {mod_suedBy : Nat → Int32} {mod_suedOn : Nat → Int32} {mod_suitDay : Nat → Int32} {mod_suitLand : Nat → Int32} {mod_undoneFrom : Nat → Int32} {mod_act : Nat → Int32} {mod_with : Nat → Int32} {mod_lineMany : Nat → Int32} {mod_testEnd : Nat → Int32} {mod_lineEnd : Nat → Int32} {mod_facts : Nat → Int32} {mod_pile : Nat → Int32} {mod_doesBind : Nat → Int32} {mod_boundAs : Nat → Int32} {mod_wishClaim : Nat → Int32} {mod_wishWon : Nat → Int32} {x1 x2 : Int32} {R : Int32 × Int32 × Int32 × (Nat → Int32) × (Nat → Int32) × (Nat → Int32) × (Nat → Int32) × (Nat → Int32) × (Nat → Int32) × (Nat → Int32) × (Nat → Int32) × (Nat → Int32) × (Nat → Int32) × (Nat → Int32) × (Nat → Int32) × (Nat → Int32) × (Nat → Int32)} (h : f_X12_order x1 x2 mod_code court_shoeCount mod_claims ts at_ f court_suitCount mod_doneMany mod_undoneMany mod_open mod_laid mod_isBoth mod_wished mod_bestMany mod_bestRow mod_ringDigits mod_traces mod_wearer mod_wornFor mod_shoeSort mod_shoeDay mod_claimBy mod_claimOn mod_factOf mod_pleaOf mod_suedBy mod_suedOn mod_endKind mod_isWon mod_suitDay mod_suitLand mod_undoneFrom mod_askedMany mod_firstMany mod_asked mod_act mod_with mod_lineMany mod_testEnd mod_lineEnd mod_facts mod_pile mod_doesBind mod_boundAs mod_wishClaim mod_wishWon = some R) : OF mod_suedBy mod_suedOn mod_endKind mod_isWon mod_suitDay mod_suitLand mod_undoneFrom mod_askedMany mod_firstMany mod_asked R.2.2.2.1 R.2.2.2.2.1 R.2.2.2.2.2.1 R.2.2.2.2.2.2.1 R.2.2.2.2.2.2.2.1 R.2.2.2.2.2.2.2.2.1 R.2.2.2.2.2.2.2.2.2.1 R.2.2.2.2.2.2.2.2.2.2.1 R.2.2.2.2.2.2.2.2.2.2.2.1 R.2.2.2.2.2.2.2.2.2.2.2.2.1 := by
  unfold f_X12_order at h
  unfold B_X12_order_0 at h
  replace h := zk_o2 h
  obtain ⟨cv1, cv2, ch3, h⟩ := h
  unfold f_X12_isWhen at ch3
  unfold B_X12_isWhen_0 at ch3
  by_cases cc4 : x1 < 0
  · have ch3 := zk_t cc4 ch3
    have cc4n := cc4
    (try simp only [i32_lt, i32_le, i32_e, z32_0, z32_1] at cc4n)
    simp only [Option.some.injEq, Prod.mk.injEq] at ch3
    obtain ⟨rfl, _⟩ := ch3
    replace h := zk_t rfl h
    replace h := Option.some.inj h
    subst h
    exact OF_rf
  · have ch3 := zk_f cc4 ch3
    have cc4n := cc4
    (try simp only [i32_lt, i32_le, i32_e, z32_0, z32_1] at cc4n)
    obtain ⟨cv5, cv6, ch7, ch3⟩ := zk_o2 ch3
    unfold f_X12_isDay at ch7
    unfold B_X12_isDay_0 at ch7
    obtain ⟨cv8, cv9, ch10, ch7⟩ := zk_o2 ch7
    unfold f_X12_in at ch10
    unfold B_X12_in_0 at ch10
    by_cases cc11 : (x1 / (10 : Int32)) < (0 : Int32)
    · have ch10 := zk_t cc11 ch10
      have cc11n := cc11
      (try simp only [i32_lt, i32_le, i32_e, z32_0, z32_1, z32L_10] at cc11n)
      simp only [Option.some.injEq, Prod.mk.injEq] at ch10
      obtain ⟨rfl, _⟩ := ch10
      obtain ⟨_, ch7⟩ := zk_gd ch7
      simp only [Option.some.injEq, Prod.mk.injEq] at ch7
      obtain ⟨rfl, _⟩ := ch7
      have ch3 := zk_t rfl ch3
      simp only [Option.some.injEq, Prod.mk.injEq] at ch3
      obtain ⟨rfl, _⟩ := ch3
      replace h := zk_t rfl h
      replace h := Option.some.inj h
      subst h
      exact OF_rf
    · have ch10 := zk_f cc11 ch10
      have cc11n := cc11
      (try simp only [i32_lt, i32_le, i32_e, z32_0, z32_1, z32L_10] at cc11n)
      by_cases cc12 : (9999 : Int32) < (x1 / (10 : Int32))
      · have ch10 := zk_t cc12 ch10
        have cc12n := cc12
        (try simp only [i32_lt, i32_le, i32_e, z32_0, z32_1, z32L_10, z32L_9999] at cc12n)
        simp only [Option.some.injEq, Prod.mk.injEq] at ch10
        obtain ⟨rfl, _⟩ := ch10
        obtain ⟨_, ch7⟩ := zk_gd ch7
        simp only [Option.some.injEq, Prod.mk.injEq] at ch7
        obtain ⟨rfl, _⟩ := ch7
        have ch3 := zk_t rfl ch3
        simp only [Option.some.injEq, Prod.mk.injEq] at ch3
        obtain ⟨rfl, _⟩ := ch3
        replace h := zk_t rfl h
        replace h := Option.some.inj h
        subst h
        exact OF_rf
      · have ch10 := zk_f cc12 ch10
        have cc12n := cc12
        (try simp only [i32_lt, i32_le, i32_e, z32_0, z32_1, z32L_10, z32L_9999] at cc12n)
        simp only [Option.some.injEq, Prod.mk.injEq] at ch10
        obtain ⟨rfl, _⟩ := ch10
        obtain ⟨_, ch7⟩ := zk_gd ch7
        simp only [Option.some.injEq, Prod.mk.injEq] at ch7
        obtain ⟨rfl, _⟩ := ch7
        have ch3 := zk_f (by decide) ch3
        obtain ⟨cv13, cv14, ch15, ch3⟩ := zk_o2 ch3
        unfold f_X12_isLand at ch15
        unfold B_X12_isLand_0 at ch15
        obtain ⟨cv16, cv17, ch18, ch15⟩ := zk_o2 ch15
        unfold f_X12_in at ch18
        unfold B_X12_in_0 at ch18
        by_cases cc19 : (x1 - x1 / (10 : Int32) * (10 : Int32)) < (0 : Int32)
        · have ch18 := zk_t cc19 ch18
          have cc19n := cc19
          (try simp only [i32_lt, i32_le, i32_e, z32_0, z32_1, z32L_10] at cc19n)
          simp only [Option.some.injEq, Prod.mk.injEq] at ch18
          obtain ⟨rfl, _⟩ := ch18
          obtain ⟨_, ch15⟩ := zk_gd ch15
          simp only [Option.some.injEq, Prod.mk.injEq] at ch15
          obtain ⟨rfl, _⟩ := ch15
          have ch3 := zk_t rfl ch3
          simp only [Option.some.injEq, Prod.mk.injEq] at ch3
          obtain ⟨rfl, _⟩ := ch3
          replace h := zk_t rfl h
          replace h := Option.some.inj h
          subst h
          exact OF_rf
        · have ch18 := zk_f cc19 ch18
          have cc19n := cc19
          (try simp only [i32_lt, i32_le, i32_e, z32_0, z32_1, z32L_10] at cc19n)
          by_cases cc20 : (7 : Int32) < (x1 - x1 / (10 : Int32) * (10 : Int32))
          · have ch18 := zk_t cc20 ch18
            have cc20n := cc20
            (try simp only [i32_lt, i32_le, i32_e, z32_0, z32_1, z32L_7, z32L_10] at cc20n)
            simp only [Option.some.injEq, Prod.mk.injEq] at ch18
            obtain ⟨rfl, _⟩ := ch18
            obtain ⟨_, ch15⟩ := zk_gd ch15
            simp only [Option.some.injEq, Prod.mk.injEq] at ch15
            obtain ⟨rfl, _⟩ := ch15
            have ch3 := zk_t rfl ch3
            simp only [Option.some.injEq, Prod.mk.injEq] at ch3
            obtain ⟨rfl, _⟩ := ch3
            replace h := zk_t rfl h
            replace h := Option.some.inj h
            subst h
            exact OF_rf
          · have ch18 := zk_f cc20 ch18
            have cc20n := cc20
            (try simp only [i32_lt, i32_le, i32_e, z32_0, z32_1, z32L_7, z32L_10] at cc20n)
            simp only [Option.some.injEq, Prod.mk.injEq] at ch18
            obtain ⟨rfl, _⟩ := ch18
            obtain ⟨_, ch15⟩ := zk_gd ch15
            simp only [Option.some.injEq, Prod.mk.injEq] at ch15
            obtain ⟨rfl, _⟩ := ch15
            have ch3 := zk_f (by decide) ch3
            simp only [Option.some.injEq, Prod.mk.injEq] at ch3
            obtain ⟨rfl, _⟩ := ch3
            replace h := zk_f (by decide) h
            replace h := zk_o2 h
            obtain ⟨cv21, cv22, ch23, h⟩ := h
            unfold f_X12_in at ch23
            unfold B_X12_in_0 at ch23
            by_cases cc24 : x2 < (0 : Int32)
            · have ch23 := zk_t cc24 ch23
              have cc24n := cc24
              (try simp only [i32_lt, i32_le, i32_e, z32_0, z32_1] at cc24n)
              simp only [Option.some.injEq, Prod.mk.injEq] at ch23
              obtain ⟨rfl, _⟩ := ch23
              replace h := zk_t rfl h
              replace h := Option.some.inj h
              subst h
              exact OF_rf
            · have ch23 := zk_f cc24 ch23
              have cc24n := cc24
              (try simp only [i32_lt, i32_le, i32_e, z32_0, z32_1] at cc24n)
              by_cases cc25 : (1 : Int32) < x2
              · have ch23 := zk_t cc25 ch23
                have cc25n := cc25
                (try simp only [i32_lt, i32_le, i32_e, z32_0, z32_1] at cc25n)
                simp only [Option.some.injEq, Prod.mk.injEq] at ch23
                obtain ⟨rfl, _⟩ := ch23
                replace h := zk_t rfl h
                replace h := Option.some.inj h
                subst h
                exact OF_rf
              · have ch23 := zk_f cc25 ch23
                have cc25n := cc25
                (try simp only [i32_lt, i32_le, i32_e, z32_0, z32_1] at cc25n)
                simp only [Option.some.injEq, Prod.mk.injEq] at ch23
                obtain ⟨rfl, _⟩ := ch23
                replace h := zk_f (by decide) h
                by_cases cc26 : mod_wished = 0
                · replace h := zk_t cc26 h
                  have cc26n := cc26
                  (try simp only [i32_lt, i32_le, i32_e, z32_0, z32_1] at cc26n)
                  replace h := Option.some.inj h
                  subst h
                  exact OF_rf
                · replace h := zk_f cc26 h
                  have cc26n := cc26
                  (try simp only [i32_lt, i32_le, i32_e, z32_0, z32_1] at cc26n)
                  replace h := zk_o16 h
                  obtain ⟨cv27, cv28, cv29, cv30, cv31, cv32, cv33, cv34, cv35, cv36, cv37, cv38, cv39, cv40, cv41, cv42, ch43, h⟩ := h
                  obtain ck44 := of_grp _ _ _ _ _ _ _ _ _ _ _ _ _ _ _ _ _ _ _ _ _ _ _ _ _ _ _ _ _ _ _ _ _ _ _ _ _ _ _ _ _ _ _ _ _ _ _ _ _ _ _ _ _ _ (by decide) (by decide) ch43
                  by_cases cc45 : x2 = 0
                  · replace h := zk_t cc45 h
                    have cc45n := cc45
                    (try simp only [i32_lt, i32_le, i32_e, z32_0, z32_1] at cc45n)
                    replace h := Option.some.inj h
                    subst h
                    exact ck44
                  · replace h := zk_f cc45 h
                    have cc45n := cc45
                    (try simp only [i32_lt, i32_le, i32_e, z32_0, z32_1] at cc45n)
                    replace h := Option.some.inj h
                    subst h
                    exact ck44
set_option maxHeartbeats 4000000 in
set_option maxRecDepth 20000 in
theorem pw_ofShoe {mod_code : Int32} {court_shoeCount : Int32} {mod_claims : Int32} {ts : Int32} {at_ : Int32} {f : Int32} {court_suitCount : Int32} {mod_doneMany : Int32} {mod_undoneMany : Int32} {mod_open : Int32} {mod_laid : Int32} {mod_isBoth : Int32} {mod_wished : Int32} {mod_bestMany : Int32} {mod_bestRow : Int32} {mod_ringDigits : Int32} {mod_traces : Int32} {court_claimCount : Int32} {court_shoePerson : Nat → Int32} {court_shoeOther : Nat → Int32} {court_shoeSort : Nat → Int32} {court_shoeDay : Nat → Int32} {x1 x2 : Int32} (hc : 0 ≤ court_shoeCount.toInt ∧ court_shoeCount.toInt ≤ 40) {R : Int32 × Unit} {Q : Int32 × Unit} (h : f_X11_ofShoe x1 x2 court_shoeCount court_claimCount court_suitCount court_shoePerson court_shoeOther court_shoeSort court_shoeDay = some R) (k : f_X12_ofShoe x1 x2 mod_code court_shoeCount mod_claims ts at_ f court_suitCount mod_doneMany mod_undoneMany mod_open mod_laid mod_isBoth mod_wished mod_bestMany mod_bestRow mod_ringDigits mod_traces court_shoePerson court_shoeOther court_shoeSort court_shoeDay = some Q) : R.1 = Q.1 := by
  have hc1 := i32_m1 (a := court_shoeCount) (by omega)
  unfold f_X11_ofShoe at h
  unfold f_X12_ofShoe at k
  unfold B_X11_ofShoe_0 at h
  replace h := zk_o2 h
  obtain ⟨cv1, cv2, ch3, h⟩ := h
  unfold f_X11_isShoeNumber at ch3
  unfold B_X11_isShoeNumber_0 at ch3
  by_cases cc4 : x1 < 0
  · have ch3 := zk_t cc4 ch3
    have cc4n := cc4
    (try simp only [i32_lt, i32_le, i32_e, z32_0, z32_1] at cc4n)
    first
    | (exfalso; omega)
    | simp only [Option.some.injEq, Prod.mk.injEq] at ch3
      obtain ⟨rfl, _⟩ := ch3
      replace h := zk_t rfl h
      unfold B_X12_ofShoe_0 at k
      replace k := zk_o2 k
      obtain ⟨mv1, mv2, mh3, k⟩ := k
      unfold f_X12_isShoe at mh3
      unfold B_X12_isShoe_0 at mh3
      obtain ⟨mv4, mv5, mh6, mh3⟩ := zk_o2 mh3
      unfold f_X12_in at mh6
      unfold B_X12_in_0 at mh6
      have mh6 := zk_t cc4 mh6
      simp only [Option.some.injEq, Prod.mk.injEq] at mh6
      obtain ⟨rfl, _⟩ := mh6
      obtain ⟨_, mh3⟩ := zk_gd mh3
      simp only [Option.some.injEq, Prod.mk.injEq] at mh3
      obtain ⟨rfl, _⟩ := mh3
      replace k := zk_t rfl k
      replace h := Option.some.inj h
      replace k := Option.some.inj k
      subst h
      subst k
      try dsimp only
      all_goals first
      | (exfalso; omega)
      | rfl
  · have ch3 := zk_f cc4 ch3
    have cc4n := cc4
    (try simp only [i32_lt, i32_le, i32_e, z32_0, z32_1] at cc4n)
    first
    | (exfalso; omega)
    | by_cases cc5 : court_shoeCount ≤ x1
      · have ch3 := zk_t cc5 ch3
        have cc5n := cc5
        (try simp only [i32_lt, i32_le, i32_e, z32_0, z32_1] at cc5n)
        first
        | (exfalso; omega)
        | simp only [Option.some.injEq, Prod.mk.injEq] at ch3
          obtain ⟨rfl, _⟩ := ch3
          replace h := zk_t rfl h
          unfold B_X12_ofShoe_0 at k
          replace k := zk_o2 k
          obtain ⟨mv7, mv8, mh9, k⟩ := k
          unfold f_X12_isShoe at mh9
          unfold B_X12_isShoe_0 at mh9
          obtain ⟨mv10, mv11, mh12, mh9⟩ := zk_o2 mh9
          unfold f_X12_in at mh12
          unfold B_X12_in_0 at mh12
          have mh12 := zk_f cc4 mh12
          have mh12 := zk_t (by (try simp only [i32_lt, i32_le, i32_e, z32_0, z32_1]); omega) mh12
          simp only [Option.some.injEq, Prod.mk.injEq] at mh12
          obtain ⟨rfl, _⟩ := mh12
          obtain ⟨_, mh9⟩ := zk_gd mh9
          simp only [Option.some.injEq, Prod.mk.injEq] at mh9
          obtain ⟨rfl, _⟩ := mh9
          replace k := zk_t rfl k
          replace h := Option.some.inj h
          replace k := Option.some.inj k
          subst h
          subst k
          try dsimp only
          all_goals first
          | (exfalso; omega)
          | rfl
      · have ch3 := zk_f cc5 ch3
        have cc5n := cc5
        (try simp only [i32_lt, i32_le, i32_e, z32_0, z32_1] at cc5n)
        first
        | (exfalso; omega)
        | simp only [Option.some.injEq, Prod.mk.injEq] at ch3
          obtain ⟨rfl, _⟩ := ch3
          replace h := zk_f (by decide) h
          by_cases cc6 : x2 = (0 : Int32)
          · replace h := zk_t cc6 h
            have cc6n := cc6
            (try simp only [i32_lt, i32_le, i32_e, z32_0, z32_1] at cc6n)
            first
            | (exfalso; omega)
            | obtain ⟨_, h⟩ := zk_gd h
              unfold B_X12_ofShoe_0 at k
              replace k := zk_o2 k
              obtain ⟨mv13, mv14, mh15, k⟩ := k
              unfold f_X12_isShoe at mh15
              unfold B_X12_isShoe_0 at mh15
              obtain ⟨mv16, mv17, mh18, mh15⟩ := zk_o2 mh15
              unfold f_X12_in at mh18
              unfold B_X12_in_0 at mh18
              have mh18 := zk_f cc4 mh18
              have mh18 := zk_f (by (try simp only [i32_lt, i32_le, i32_e, z32_0, z32_1]); omega) mh18
              simp only [Option.some.injEq, Prod.mk.injEq] at mh18
              obtain ⟨rfl, _⟩ := mh18
              obtain ⟨_, mh15⟩ := zk_gd mh15
              simp only [Option.some.injEq, Prod.mk.injEq] at mh15
              obtain ⟨rfl, _⟩ := mh15
              replace k := zk_f (by decide) k
              replace k := zk_t cc6 k
              replace k := zk_gd k
              obtain ⟨_, k⟩ := k
              replace h := Option.some.inj h
              replace k := Option.some.inj k
              subst h
              subst k
              try dsimp only
              all_goals first
              | (exfalso; omega)
              | rfl
          · replace h := zk_f cc6 h
            have cc6n := cc6
            (try simp only [i32_lt, i32_le, i32_e, z32_0, z32_1] at cc6n)
            first
            | (exfalso; omega)
            | by_cases cc7 : x2 = (1 : Int32)
              · replace h := zk_t cc7 h
                have cc7n := cc7
                (try simp only [i32_lt, i32_le, i32_e, z32_0, z32_1] at cc7n)
                first
                | (exfalso; omega)
                | obtain ⟨_, h⟩ := zk_gd h
                  unfold B_X12_ofShoe_0 at k
                  replace k := zk_o2 k
                  obtain ⟨mv19, mv20, mh21, k⟩ := k
                  unfold f_X12_isShoe at mh21
                  unfold B_X12_isShoe_0 at mh21
                  obtain ⟨mv22, mv23, mh24, mh21⟩ := zk_o2 mh21
                  unfold f_X12_in at mh24
                  unfold B_X12_in_0 at mh24
                  have mh24 := zk_f cc4 mh24
                  have mh24 := zk_f (by (try simp only [i32_lt, i32_le, i32_e, z32_0, z32_1]); omega) mh24
                  simp only [Option.some.injEq, Prod.mk.injEq] at mh24
                  obtain ⟨rfl, _⟩ := mh24
                  obtain ⟨_, mh21⟩ := zk_gd mh21
                  simp only [Option.some.injEq, Prod.mk.injEq] at mh21
                  obtain ⟨rfl, _⟩ := mh21
                  replace k := zk_f (by decide) k
                  replace k := zk_f cc6 k
                  replace k := zk_t cc7 k
                  replace k := zk_gd k
                  obtain ⟨_, k⟩ := k
                  replace h := Option.some.inj h
                  replace k := Option.some.inj k
                  subst h
                  subst k
                  try dsimp only
                  all_goals first
                  | (exfalso; omega)
                  | rfl
              · replace h := zk_f cc7 h
                have cc7n := cc7
                (try simp only [i32_lt, i32_le, i32_e, z32_0, z32_1] at cc7n)
                first
                | (exfalso; omega)
                | by_cases cc8 : x2 = (2 : Int32)
                  · replace h := zk_t cc8 h
                    have cc8n := cc8
                    (try simp only [i32_lt, i32_le, i32_e, z32_0, z32_1, z32L_2] at cc8n)
                    first
                    | (exfalso; omega)
                    | obtain ⟨_, h⟩ := zk_gd h
                      unfold B_X12_ofShoe_0 at k
                      replace k := zk_o2 k
                      obtain ⟨mv25, mv26, mh27, k⟩ := k
                      unfold f_X12_isShoe at mh27
                      unfold B_X12_isShoe_0 at mh27
                      obtain ⟨mv28, mv29, mh30, mh27⟩ := zk_o2 mh27
                      unfold f_X12_in at mh30
                      unfold B_X12_in_0 at mh30
                      have mh30 := zk_f cc4 mh30
                      have mh30 := zk_f (by (try simp only [i32_lt, i32_le, i32_e, z32_0, z32_1]); omega) mh30
                      simp only [Option.some.injEq, Prod.mk.injEq] at mh30
                      obtain ⟨rfl, _⟩ := mh30
                      obtain ⟨_, mh27⟩ := zk_gd mh27
                      simp only [Option.some.injEq, Prod.mk.injEq] at mh27
                      obtain ⟨rfl, _⟩ := mh27
                      replace k := zk_f (by decide) k
                      replace k := zk_f cc6 k
                      replace k := zk_f cc7 k
                      replace k := zk_t cc8 k
                      replace k := zk_gd k
                      obtain ⟨_, k⟩ := k
                      replace h := Option.some.inj h
                      replace k := Option.some.inj k
                      subst h
                      subst k
                      try dsimp only
                      all_goals first
                      | (exfalso; omega)
                      | rfl
                  · replace h := zk_f cc8 h
                    have cc8n := cc8
                    (try simp only [i32_lt, i32_le, i32_e, z32_0, z32_1, z32L_2] at cc8n)
                    first
                    | (exfalso; omega)
                    | by_cases cc9 : x2 = (3 : Int32)
                      · replace h := zk_t cc9 h
                        have cc9n := cc9
                        (try simp only [i32_lt, i32_le, i32_e, z32_0, z32_1, z32L_3] at cc9n)
                        first
                        | (exfalso; omega)
                        | obtain ⟨_, h⟩ := zk_gd h
                          unfold B_X12_ofShoe_0 at k
                          replace k := zk_o2 k
                          obtain ⟨mv31, mv32, mh33, k⟩ := k
                          unfold f_X12_isShoe at mh33
                          unfold B_X12_isShoe_0 at mh33
                          obtain ⟨mv34, mv35, mh36, mh33⟩ := zk_o2 mh33
                          unfold f_X12_in at mh36
                          unfold B_X12_in_0 at mh36
                          have mh36 := zk_f cc4 mh36
                          have mh36 := zk_f (by (try simp only [i32_lt, i32_le, i32_e, z32_0, z32_1]); omega) mh36
                          simp only [Option.some.injEq, Prod.mk.injEq] at mh36
                          obtain ⟨rfl, _⟩ := mh36
                          obtain ⟨_, mh33⟩ := zk_gd mh33
                          simp only [Option.some.injEq, Prod.mk.injEq] at mh33
                          obtain ⟨rfl, _⟩ := mh33
                          replace k := zk_f (by decide) k
                          replace k := zk_f cc6 k
                          replace k := zk_f cc7 k
                          replace k := zk_f cc8 k
                          replace k := zk_t cc9 k
                          replace k := zk_gd k
                          obtain ⟨_, k⟩ := k
                          replace h := Option.some.inj h
                          replace k := Option.some.inj k
                          subst h
                          subst k
                          try dsimp only
                          all_goals first
                          | (exfalso; omega)
                          | rfl
                      · replace h := zk_f cc9 h
                        have cc9n := cc9
                        (try simp only [i32_lt, i32_le, i32_e, z32_0, z32_1, z32L_3] at cc9n)
                        first
                        | (exfalso; omega)
                        | unfold B_X12_ofShoe_0 at k
                          replace k := zk_o2 k
                          obtain ⟨mv37, mv38, mh39, k⟩ := k
                          unfold f_X12_isShoe at mh39
                          unfold B_X12_isShoe_0 at mh39
                          obtain ⟨mv40, mv41, mh42, mh39⟩ := zk_o2 mh39
                          unfold f_X12_in at mh42
                          unfold B_X12_in_0 at mh42
                          have mh42 := zk_f cc4 mh42
                          have mh42 := zk_f (by (try simp only [i32_lt, i32_le, i32_e, z32_0, z32_1]); omega) mh42
                          simp only [Option.some.injEq, Prod.mk.injEq] at mh42
                          obtain ⟨rfl, _⟩ := mh42
                          obtain ⟨_, mh39⟩ := zk_gd mh39
                          simp only [Option.some.injEq, Prod.mk.injEq] at mh39
                          obtain ⟨rfl, _⟩ := mh39
                          replace k := zk_f (by decide) k
                          replace k := zk_f cc6 k
                          replace k := zk_f cc7 k
                          replace k := zk_f cc8 k
                          replace k := zk_f cc9 k
                          replace h := Option.some.inj h
                          replace k := Option.some.inj k
                          subst h
                          subst k
                          try dsimp only
                          all_goals first
                          | (exfalso; omega)
                          | rfl
set_option maxHeartbeats 4000000 in
set_option maxRecDepth 20000 in
theorem pw_trace {mod_code : Int32} {court_shoeCount : Int32} {mod_claims : Int32} {ts : Int32} {at_ : Int32} {f : Int32} {court_suitCount : Int32} {mod_doneMany : Int32} {mod_undoneMany : Int32} {mod_open : Int32} {mod_laid : Int32} {mod_isBoth : Int32} {mod_wished : Int32} {mod_bestMany : Int32} {mod_bestRow : Int32} {mod_ringDigits : Int32} {acts_ran : Int32} {acts_kind : Int32} {acts_number : Int32} {acts_claims : Int32} {acts_bodies : Nat → Int32} {x1 : Int32} {R : Int32 × Unit} {Q : Int32 × Unit} (h : f_X11_trace x1 acts_ran acts_kind acts_number acts_claims acts_bodies = some R) (k : f_X12_trace x1 mod_code court_shoeCount mod_claims ts at_ f court_suitCount mod_doneMany mod_undoneMany mod_open mod_laid mod_isBoth mod_wished mod_bestMany mod_bestRow mod_ringDigits acts_ran acts_bodies = some Q) : R.1 = Q.1 := by
  unfold f_X11_trace at h
  unfold f_X12_trace at k
  unfold B_X11_trace_0 at h
  by_cases cc1 : x1 < 0
  · replace h := zk_t cc1 h
    have cc1n := cc1
    (try simp only [i32_lt, i32_le, i32_e, z32_0, z32_1] at cc1n)
    first
    | (exfalso; omega)
    | unfold B_X12_trace_0 at k
      replace k := zk_t cc1 k
      replace h := Option.some.inj h
      replace k := Option.some.inj k
      subst h
      subst k
      try dsimp only
      all_goals first
      | (exfalso; omega)
      | rfl
  · replace h := zk_f cc1 h
    have cc1n := cc1
    (try simp only [i32_lt, i32_le, i32_e, z32_0, z32_1] at cc1n)
    first
    | (exfalso; omega)
    | by_cases cc2 : acts_ran ≤ x1
      · replace h := zk_t cc2 h
        have cc2n := cc2
        (try simp only [i32_lt, i32_le, i32_e, z32_0, z32_1] at cc2n)
        first
        | (exfalso; omega)
        | unfold B_X12_trace_0 at k
          replace k := zk_f cc1 k
          replace k := zk_t cc2 k
          replace h := Option.some.inj h
          replace k := Option.some.inj k
          subst h
          subst k
          try dsimp only
          all_goals first
          | (exfalso; omega)
          | rfl
      · replace h := zk_f cc2 h
        have cc2n := cc2
        (try simp only [i32_lt, i32_le, i32_e, z32_0, z32_1] at cc2n)
        first
        | (exfalso; omega)
        | by_cases cc3 : (24 : Int32) ≤ x1
          · replace h := zk_t cc3 h
            have cc3n := cc3
            (try simp only [i32_lt, i32_le, i32_e, z32_0, z32_1, z32L_24] at cc3n)
            first
            | (exfalso; omega)
            | unfold B_X12_trace_0 at k
              replace k := zk_f cc1 k
              replace k := zk_f cc2 k
              replace k := zk_t cc3 k
              replace h := Option.some.inj h
              replace k := Option.some.inj k
              subst h
              subst k
              try dsimp only
              all_goals first
              | (exfalso; omega)
              | rfl
          · replace h := zk_f cc3 h
            have cc3n := cc3
            (try simp only [i32_lt, i32_le, i32_e, z32_0, z32_1, z32L_24] at cc3n)
            first
            | (exfalso; omega)
            | obtain ⟨_, h⟩ := zk_gd h
              unfold B_X12_trace_0 at k
              replace k := zk_f cc1 k
              replace k := zk_f cc2 k
              replace k := zk_f cc3 k
              replace k := zk_gd k
              obtain ⟨_, k⟩ := k
              replace h := Option.some.inj h
              replace k := Option.some.inj k
              subst h
              subst k
              try dsimp only
              all_goals first
              | (exfalso; omega)
              | rfl
set_option maxHeartbeats 4000000 in
set_option maxRecDepth 20000 in
theorem pw_count {mod_code : Int32} {court_shoeCount : Int32} {ts : Int32} {at_ : Int32} {f : Int32} {court_suitCount : Int32} {mod_undoneMany : Int32} {mod_open : Int32} {mod_laid : Int32} {mod_isBoth : Int32} {mod_bestMany : Int32} {mod_bestRow : Int32} {mod_ringDigits : Int32} {court_claimCount : Int32} {acts_ran : Int32} {acts_kind : Int32} {acts_number : Int32} {acts_claims : Int32} {chg_done : Int32} {chg_size : Int32} {wishes_size : Int32} {wishes_best : Int32} {wishes_bestRow : Int32} {x1 : Int32} {R : Int32 × Unit} {Q : Int32 × Unit} (h : f_X11_count x1 court_shoeCount court_claimCount court_suitCount ts wishes_size wishes_best wishes_bestRow chg_done chg_size acts_ran acts_kind acts_number acts_claims = some R) (k : f_X12_count x1 mod_code court_shoeCount court_claimCount ts at_ f court_suitCount chg_done mod_undoneMany mod_open mod_laid mod_isBoth wishes_size mod_bestMany mod_bestRow mod_ringDigits acts_ran = some Q) : R.1 = Q.1 := by
  unfold f_X11_count at h
  unfold f_X12_count at k
  unfold B_X11_count_0 at h
  by_cases cc1 : x1 = (0 : Int32)
  · replace h := zk_t cc1 h
    have cc1n := cc1
    (try simp only [i32_lt, i32_le, i32_e, z32_0, z32_1] at cc1n)
    first
    | (exfalso; omega)
    | unfold B_X12_count_0 at k
      replace k := zk_t cc1 k
      replace h := Option.some.inj h
      replace k := Option.some.inj k
      subst h
      subst k
      try dsimp only
      all_goals first
      | (exfalso; omega)
      | rfl
  · replace h := zk_f cc1 h
    have cc1n := cc1
    (try simp only [i32_lt, i32_le, i32_e, z32_0, z32_1] at cc1n)
    first
    | (exfalso; omega)
    | by_cases cc2 : x1 = (1 : Int32)
      · replace h := zk_t cc2 h
        have cc2n := cc2
        (try simp only [i32_lt, i32_le, i32_e, z32_0, z32_1] at cc2n)
        first
        | (exfalso; omega)
        | unfold B_X12_count_0 at k
          replace k := zk_f cc1 k
          replace k := zk_t cc2 k
          replace h := Option.some.inj h
          replace k := Option.some.inj k
          subst h
          subst k
          try dsimp only
          all_goals first
          | (exfalso; omega)
          | rfl
      · replace h := zk_f cc2 h
        have cc2n := cc2
        (try simp only [i32_lt, i32_le, i32_e, z32_0, z32_1] at cc2n)
        first
        | (exfalso; omega)
        | by_cases cc3 : x1 = (2 : Int32)
          · replace h := zk_t cc3 h
            have cc3n := cc3
            (try simp only [i32_lt, i32_le, i32_e, z32_0, z32_1, z32L_2] at cc3n)
            first
            | (exfalso; omega)
            | unfold B_X12_count_0 at k
              replace k := zk_f cc1 k
              replace k := zk_f cc2 k
              replace k := zk_t cc3 k
              replace h := Option.some.inj h
              replace k := Option.some.inj k
              subst h
              subst k
              try dsimp only
              all_goals first
              | (exfalso; omega)
              | rfl
          · replace h := zk_f cc3 h
            have cc3n := cc3
            (try simp only [i32_lt, i32_le, i32_e, z32_0, z32_1, z32L_2] at cc3n)
            first
            | (exfalso; omega)
            | by_cases cc4 : x1 = (3 : Int32)
              · replace h := zk_t cc4 h
                have cc4n := cc4
                (try simp only [i32_lt, i32_le, i32_e, z32_0, z32_1, z32L_3] at cc4n)
                first
                | (exfalso; omega)
                | unfold B_X12_count_0 at k
                  replace k := zk_f cc1 k
                  replace k := zk_f cc2 k
                  replace k := zk_f cc3 k
                  replace k := zk_t cc4 k
                  replace h := Option.some.inj h
                  replace k := Option.some.inj k
                  subst h
                  subst k
                  try dsimp only
                  all_goals first
                  | (exfalso; omega)
                  | rfl
              · replace h := zk_f cc4 h
                have cc4n := cc4
                (try simp only [i32_lt, i32_le, i32_e, z32_0, z32_1, z32L_3] at cc4n)
                first
                | (exfalso; omega)
                | by_cases cc5 : x1 = (4 : Int32)
                  · replace h := zk_t cc5 h
                    have cc5n := cc5
                    (try simp only [i32_lt, i32_le, i32_e, z32_0, z32_1, z32L_4] at cc5n)
                    first
                    | (exfalso; omega)
                    | unfold B_X12_count_0 at k
                      replace k := zk_f cc1 k
                      replace k := zk_f cc2 k
                      replace k := zk_f cc3 k
                      replace k := zk_f cc4 k
                      replace k := zk_t cc5 k
                      replace h := Option.some.inj h
                      replace k := Option.some.inj k
                      subst h
                      subst k
                      try dsimp only
                      all_goals first
                      | (exfalso; omega)
                      | rfl
                  · replace h := zk_f cc5 h
                    have cc5n := cc5
                    (try simp only [i32_lt, i32_le, i32_e, z32_0, z32_1, z32L_4] at cc5n)
                    first
                    | (exfalso; omega)
                    | by_cases cc6 : x1 = (5 : Int32)
                      · replace h := zk_t cc6 h
                        have cc6n := cc6
                        (try simp only [i32_lt, i32_le, i32_e, z32_0, z32_1, z32L_5] at cc6n)
                        first
                        | (exfalso; omega)
                        | unfold B_X12_count_0 at k
                          replace k := zk_f cc1 k
                          replace k := zk_f cc2 k
                          replace k := zk_f cc3 k
                          replace k := zk_f cc4 k
                          replace k := zk_f cc5 k
                          replace k := zk_t cc6 k
                          replace h := Option.some.inj h
                          replace k := Option.some.inj k
                          subst h
                          subst k
                          try dsimp only
                          all_goals first
                          | (exfalso; omega)
                          | rfl
                      · replace h := zk_f cc6 h
                        have cc6n := cc6
                        (try simp only [i32_lt, i32_le, i32_e, z32_0, z32_1, z32L_5] at cc6n)
                        first
                        | (exfalso; omega)
                        | by_cases cc7 : x1 = (6 : Int32)
                          · replace h := zk_t cc7 h
                            have cc7n := cc7
                            (try simp only [i32_lt, i32_le, i32_e, z32_0, z32_1, z32L_6] at cc7n)
                            first
                            | (exfalso; omega)
                            | unfold B_X12_count_0 at k
                              replace k := zk_f cc1 k
                              replace k := zk_f cc2 k
                              replace k := zk_f cc3 k
                              replace k := zk_f cc4 k
                              replace k := zk_f cc5 k
                              replace k := zk_f cc6 k
                              replace k := zk_t cc7 k
                              replace h := Option.some.inj h
                              replace k := Option.some.inj k
                              subst h
                              subst k
                              try dsimp only
                              all_goals first
                              | (exfalso; omega)
                              | rfl
                          · replace h := zk_f cc7 h
                            have cc7n := cc7
                            (try simp only [i32_lt, i32_le, i32_e, z32_0, z32_1, z32L_6] at cc7n)
                            first
                            | (exfalso; omega)
                            | unfold B_X12_count_0 at k
                              replace k := zk_f cc1 k
                              replace k := zk_f cc2 k
                              replace k := zk_f cc3 k
                              replace k := zk_f cc4 k
                              replace k := zk_f cc5 k
                              replace k := zk_f cc6 k
                              replace k := zk_f cc7 k
                              replace h := Option.some.inj h
                              replace k := Option.some.inj k
                              subst h
                              subst k
                              try dsimp only
                              all_goals first
                              | (exfalso; omega)
                              | rfl
