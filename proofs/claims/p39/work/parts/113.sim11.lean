
theorem lq_gt (x y : Int64) : (0 < lg_cmp x y) ↔ y < x := by
  unfold lg_cmp
  by_cases h : x > y
  · rw [if_pos h]
    exact ⟨fun _ => h, fun _ => by decide⟩
  · rw [if_neg h]
    by_cases h2 : x = y
    · rw [if_pos h2]
      exact ⟨fun z => absurd z (by decide), fun z => absurd z h⟩
    · rw [if_neg h2]
      exact ⟨fun z => absurd z (by decide), fun z => absurd z h⟩
theorem lq_lt (x y : Int64) : (lg_cmp x y < 0) ↔ x < y := by
  unfold lg_cmp
  by_cases h : x > y
  · rw [if_pos h]
    have h : y < x := h
    refine ⟨fun z => absurd z (by decide), fun z => ?_⟩
    rw [Int64.lt_iff_toInt_lt] at z h
    omega
  · rw [if_neg h]
    have h : ¬ y < x := h
    by_cases h2 : x = y
    · rw [if_pos h2]
      refine ⟨fun z => absurd z (by decide), fun z => ?_⟩
      subst h2
      exact absurd z h
    · rw [if_neg h2]
      refine ⟨fun _ => ?_, fun _ => by decide⟩
      rw [Int64.lt_iff_toInt_lt] at h ⊢
      have h3 : x.toInt ≠ y.toInt := fun z => h2 (Int64.toInt_inj.mp z)
      omega
theorem i64_a {a b : Int64} (h : -1000000000000 ≤ a.toInt ∧ a.toInt ≤ 1000000000000) (h2 : -1000000000000 ≤ b.toInt ∧ b.toInt ≤ 1000000000000) : (a + b).toInt = a.toInt + b.toInt := by
  rw [Int64.toInt_add, Int.bmod_def]
  split <;> omega
theorem i64_4 {b : Int64} (h2 : -1000000000000 ≤ b.toInt ∧ b.toInt ≤ 1000000000000) : ((4 : Int64) * b).toInt = 4 * b.toInt := by
  have e : (4 : Int64).toInt = 4 := by decide
  rw [Int64.toInt_mul, e, Int.bmod_def]
  split <;> omega
theorem i64_n {v : Int64} {x : Int32} (h : v.toInt = x.toInt) : v.toInt32 = x := by
  apply Int32.toInt_inj.mp
  rw [Int64.toInt_toInt32, h]
  have := Int32.le_toInt x
  have := Int32.toInt_lt x
  rw [Int.bmod_def]
  split <;> omega
theorem l64_0 : (0 : Int64).toInt = 0 := by decide
theorem l64_3 : (3 : Int64).toInt = 3 := by decide
theorem l64_4 : (4 : Int64).toInt = 4 := by decide
set_option maxHeartbeats 4000000 in
set_option maxRecDepth 20000 in
theorem sf_shoe {court_shoeCount : Int32} {court_suitCount : Int32} {court_claimCount : Int32} {court_shoePerson : Nat → Int32} {court_shoeOther : Nat → Int32} {court_shoeSort : Nat → Int32} {court_shoeDay : Nat → Int32} {pl_suit : Int32} {pl_holds : Int32} {pl_size : Int32} {pl_elements : Nat → Int64} {x2 : Int32} {R : Int32 × Int32 × (Nat → Int32) × (Nat → Int32) × (Nat → Int32) × (Nat → Int32)} (h0 : 0 ≤ x2.toInt ∧ x2.toInt + 4 ≤ pl_size.toInt) (hs : 0 ≤ pl_size.toInt ∧ pl_size.toInt ≤ 60) (h : f_X11_shoeFrom x2 court_shoeCount court_claimCount court_suitCount court_shoePerson court_shoeOther court_shoeSort court_shoeDay pl_holds pl_suit pl_size pl_elements = some R) : ∃ q, f_X11_shoe ((pl_elements x2.toNatClampNeg).toInt32) ((pl_elements (x2 + 1).toNatClampNeg).toInt32) ((pl_elements (x2 + 2).toNatClampNeg).toInt32) ((pl_elements (x2 + 3).toNatClampNeg).toInt32) court_shoeCount court_claimCount court_suitCount court_shoePerson court_shoeOther court_shoeSort court_shoeDay = some (q, R.2) ∧ ((R.1 = 0 ∧ q.toInt < 0) ∨ (R.1 = 1 ∧ 0 ≤ q.toInt)) := by
  unfold f_X11_shoeFrom B_X11_shoeFrom_0 at h
  replace h := zk_o2 h
  obtain ⟨r1, u1, a1, h⟩ := h
  unfold f_X6_hasRange B_X6_hasRange_0 at a1
  have a1 := zk_f (show ¬ x2 < 0 by rw [i32_lt, z32_0]; omega) a1
  have a1 := zk_f (show ¬ (4 : Int32) < 0 by decide) a1
  have a1 := zk_f (show ¬ pl_size < x2 by rw [i32_lt]; omega) a1
  have a1 := zk_f (show ¬ (pl_size - x2) < (4 : Int32) by rw [i32_lt, i32_d (by omega) (by omega), z32L_4]; omega) a1
  have e := congrArg Prod.fst (Option.some.inj a1)
  dsimp only at e
  subst e
  replace h := zk_f (by decide) h
  replace h := zk_gd h
  obtain ⟨_, h⟩ := h
  replace h := zk_lt h
  obtain ⟨v0, ev, h⟩ := h
  subst ev
  replace h := zk_gd h
  obtain ⟨_, h⟩ := h
  replace h := zk_lt h
  obtain ⟨v1, ev, h⟩ := h
  subst ev
  replace h := zk_gd h
  obtain ⟨_, h⟩ := h
  replace h := zk_lt h
  obtain ⟨v2, ev, h⟩ := h
  subst ev
  replace h := zk_gd h
  obtain ⟨_, h⟩ := h
  replace h := zk_lt h
  obtain ⟨v3, ev, h⟩ := h
  subst ev
  replace h := zk_o2 h
  obtain ⟨r2, u2, a2, h⟩ := h
  by_cases c : r2 = 0
  · replace h := Option.some.inj (zk_t c h)
    subst h
    refine ⟨-1, ?_, Or.inl ⟨rfl, by decide⟩⟩
    unfold f_X11_shoe B_X11_shoe_0
    rw [a2, pe_b2, if_pos c]
  · replace h := zk_f c h
    replace h := zk_o6 h
    obtain ⟨r3, w1, w2, w3, w4, w5, a3, h⟩ := h
    by_cases c2 : r3 < 0
    · replace h := Option.some.inj (zk_t c2 h)
      subst h
      rw [i32_lt, z32_0] at c2
      refine ⟨r3, ?_, Or.inl ⟨rfl, c2⟩⟩
      unfold f_X11_shoe B_X11_shoe_0
      rw [a2, pe_b2, if_neg c, a3]
      rfl
    · replace h := Option.some.inj (zk_f c2 h)
      subst h
      rw [i32_lt, z32_0] at c2
      refine ⟨r3, ?_, Or.inr ⟨rfl, by omega⟩⟩
      unfold f_X11_shoe B_X11_shoe_0
      rw [a2, pe_b2, if_neg c, a3]
      rfl
set_option maxHeartbeats 4000000 in
set_option maxRecDepth 20000 in
theorem so_zero {court_shoeCount : Int32} {court_suitCount : Int32} {court_claimCount : Int32} {court_shoePerson : Nat → Int32} {court_shoeOther : Nat → Int32} {court_shoeSort : Nat → Int32} {court_shoeDay : Nat → Int32} {pl_suit : Int32} {pl_holds : Int32} {pl_size : Int32} {pl_elements : Nat → Int64} {root_places : Nat → Option Nat} {h_pl : Nat} {x2 x3 z6 z0 : Int32} {N : Nat} {R : Int32 × Int32 × (Nat → Int32) × (Nat → Int32) × (Nat → Int32) × (Nat → Int32)} (hz : z0 = 0) (h6 : z6 = 0) (h3 : 1 ≤ x3.toInt) (h : G_X11_shoes h_pl root_places court_claimCount court_suitCount pl_holds pl_suit pl_size pl_elements N x2 x3 z0 z6 court_shoeCount court_shoePerson court_shoeOther court_shoeSort court_shoeDay = some R) : R = (0, court_shoeCount, court_shoePerson, court_shoeOther, court_shoeSort, court_shoeDay) := by
  subst hz
  subst h6
  cases N with
  | zero => cases h
  | succ N =>
    replace h : B_X11_shoes_69 h_pl (G_X11_shoes h_pl root_places court_claimCount court_suitCount pl_holds pl_suit pl_size pl_elements N) root_places court_claimCount court_suitCount pl_holds pl_suit pl_size pl_elements x2 x3 0 0 court_shoeCount court_shoePerson court_shoeOther court_shoeSort court_shoeDay = some R := h
    unfold B_X11_shoes_69 at h
    replace h := zk_f (show ¬ x3 ≤ 0 by rw [i32_le, z32_0]; omega) h
    by_cases c : x2 < 0
    · exact (Option.some.inj (zk_t c h)).symm
    · replace h := zk_f c h
      rw [i32_lt, z32_0] at c
      have := Int32.toInt_lt x2
      have e1 := i64_4 (b := (0 : Int32).toInt64) (by decide)
      have e0 : (0 : Int32).toInt64.toInt = 0 := by decide
      have e2 := i64_a (a := x2.toInt64) (b := 4 * (0 : Int32).toInt64) (by rw [Int32.toInt_toInt64]; omega) (by omega)
      have e3 := i64_a (a := x2.toInt64 + 4 * (0 : Int32).toInt64) (b := 4) (by rw [e2, Int32.toInt_toInt64]; omega) (by decide)
      rw [e2, e1, Int32.toInt_toInt64, l64_4] at e3
      exact (Option.some.inj (zk_t (by rw [lq_gt, Int64.lt_iff_toInt_lt, e3]; omega) h)).symm
set_option maxHeartbeats 4000000 in
set_option maxRecDepth 20000 in
theorem so_loop {mod_code : Int32} {mod_claims : Int32} {ts : Int32} {at_ : Int32} {f : Int32} {court_suitCount : Int32} {mod_doneMany : Int32} {mod_undoneMany : Int32} {mod_open : Int32} {mod_laid : Int32} {mod_isBoth : Int32} {mod_wished : Int32} {mod_bestMany : Int32} {mod_bestRow : Int32} {mod_ringDigits : Int32} {mod_traces : Int32} {mod_holds : Nat → Int32} {mod_size : Nat → Int32} {mod_elements : Nat → Int64} {court_claimCount : Int32} {pl_suit : Int32} {pl_holds : Int32} {pl_size : Int32} {pl_elements : Nat → Int64} {root_places : Nat → Option Nat} {h_pl : Nat} {x1 x2 x3 : Int32} (hx5 : 0 ≤ x1.toInt ∧ x1.toInt ≤ 5) (hx3 : x3.toInt ≤ 15) (hs1 : mod_size x1.toNatClampNeg = pl_size) (hsz : 0 ≤ pl_size.toInt ∧ pl_size.toInt ≤ 60) (he : ∀ k, k < 60 → mod_elements (60 * x1.toNatClampNeg + k) = pl_elements k) : ∀ (N M : Nat) (x6 : Int32) (court_shoeCount : Int32) (court_shoePerson court_shoeOther court_shoeSort court_shoeDay : Nat → Int32) (mod_wearer mod_wornFor mod_shoeSort mod_shoeDay : Nat → Int32) (R : Int32 × Int32 × (Nat → Int32) × (Nat → Int32) × (Nat → Int32) × (Nat → Int32)) (Q : Int32 × Int32 × (Nat → Int32) × (Nat → Int32) × (Nat → Int32) × (Nat → Int32)), 0 ≤ x6.toInt → x6.toInt ≤ x3.toInt → (x6.toInt = 0 ∨ 0 ≤ x2.toInt) → (0 ≤ court_shoeCount.toInt ∧ court_shoeCount.toInt ≤ 40) → G_X11_shoes h_pl root_places court_claimCount court_suitCount pl_holds pl_suit pl_size pl_elements N x2 x3 pl_size x6 court_shoeCount court_shoePerson court_shoeOther court_shoeSort court_shoeDay = some R → G_X12_shoes mod_code mod_claims ts at_ f court_suitCount mod_doneMany mod_undoneMany mod_open mod_laid mod_isBoth mod_wished mod_bestMany mod_bestRow mod_ringDigits mod_traces mod_holds mod_size mod_elements M x1 x2 x3 x6 court_shoeCount mod_wearer mod_wornFor mod_shoeSort mod_shoeDay = some Q → R.1 = Q.1 ∧ R.2.1 = Q.2.1 ∧ court_shoeCount.toInt ≤ R.2.1.toInt ∧ (court_shoePerson = mod_wearer → R.2.2.1 = Q.2.2.1) ∧ (court_shoeOther = mod_wornFor → R.2.2.2.1 = Q.2.2.2.1) ∧ (court_shoeSort = mod_shoeSort → R.2.2.2.2.1 = Q.2.2.2.2.1) ∧ (court_shoeDay = mod_shoeDay → R.2.2.2.2.2 = Q.2.2.2.2.2) := by
  intro N
  induction N with
  | zero =>
    intro M x6 court_shoeCount court_shoePerson court_shoeOther court_shoeSort court_shoeDay mod_wearer mod_wornFor mod_shoeSort mod_shoeDay R Q _ _ _ _ h
    cases h
  | succ N ih =>
    intro M x6 court_shoeCount court_shoePerson court_shoeOther court_shoeSort court_shoeDay mod_wearer mod_wornFor mod_shoeSort mod_shoeDay R Q h0 h1 h2 hc h k
    cases M with
    | zero => cases k
    | succ M =>
      replace h : B_X11_shoes_69 h_pl (G_X11_shoes h_pl root_places court_claimCount court_suitCount pl_holds pl_suit pl_size pl_elements N) root_places court_claimCount court_suitCount pl_holds pl_suit pl_size pl_elements x2 x3 pl_size x6 court_shoeCount court_shoePerson court_shoeOther court_shoeSort court_shoeDay = some R := h
      replace k : B_X12_shoes_58 (G_X12_shoes mod_code mod_claims ts at_ f court_suitCount mod_doneMany mod_undoneMany mod_open mod_laid mod_isBoth mod_wished mod_bestMany mod_bestRow mod_ringDigits mod_traces mod_holds mod_size mod_elements M) mod_code mod_claims ts at_ f court_suitCount mod_doneMany mod_undoneMany mod_open mod_laid mod_isBoth mod_wished mod_bestMany mod_bestRow mod_ringDigits mod_traces mod_holds mod_size mod_elements x1 x2 x3 x6 court_shoeCount mod_wearer mod_wornFor mod_shoeSort mod_shoeDay = some Q := k
      unfold B_X11_shoes_69 at h
      unfold B_X12_shoes_58 at k
      have b1 := Int32.toInt_lt x2
      have b2 := Int32.le_toInt x2
      by_cases c : x3 ≤ x6
      · replace h := Option.some.inj (zk_t c h)
        replace k := Option.some.inj (zk_t c k)
        rw [i32_le] at c
        have e : x6 = x3 := Int32.toInt_inj.mp (by omega)
        subst h
        subst k
        exact ⟨e, rfl, Int.le_refl _, fun e => e, fun e => e, fun e => e, fun e => e⟩
      · replace h := zk_f c h
        replace k := zk_f c k
        rw [i32_le] at c
        have e46 : ((4 : Int32) * x6).toInt = 4 * x6.toInt := by
          rw [Int32.toInt_mul, z32L_4]
          exact zi_bm2 (by omega) (by omega)
        replace k := zk_lt k
        obtain ⟨v, ev, k⟩ := k
        have hv : v.toInt = x2.toInt + 4 * x6.toInt := by
          rw [ev, i64_a (by rw [Int32.toInt_toInt64]; omega) (by rw [Int32.toInt_toInt64, e46]; omega), Int32.toInt_toInt64, Int32.toInt_toInt64, e46]
        by_cases c2 : x2 < 0
        · replace h := Option.some.inj (zk_t c2 h)
          rw [i32_lt, z32_0] at c2
          replace k := Option.some.inj (zk_t (by rw [lq_lt, Int64.lt_iff_toInt_lt, l64_0, hv]; omega) k)
          subst h
          subst k
          exact ⟨rfl, rfl, Int.le_refl _, fun e => e, fun e => e, fun e => e, fun e => e⟩
        · replace h := zk_f c2 h
          rw [i32_lt, z32_0] at c2
          replace k := zk_f (by rw [lq_lt, Int64.lt_iff_toInt_lt, l64_0, hv]; omega) k
          replace k := zk_gd k
          obtain ⟨_, k⟩ := k
          have e1 := i64_4 (b := x6.toInt64) (by rw [Int32.toInt_toInt64]; omega)
          rw [Int32.toInt_toInt64] at e1
          have e2 := i64_a (a := x2.toInt64) (b := 4 * x6.toInt64) (by rw [Int32.toInt_toInt64]; omega) (by omega)
          rw [e1, Int32.toInt_toInt64] at e2
          have e3 := i64_a (a := x2.toInt64 + 4 * x6.toInt64) (b := 4) (by omega) (by decide)
          rw [e2, l64_4] at e3
          have e4 := i64_a (a := v) (b := 3) (by omega) (by decide)
          rw [hv, l64_3] at e4
          by_cases c3 : 0 < lg_cmp ((x2.toInt64 + (4 * x6.toInt64)) + 4) pl_size.toInt64
          · replace h := Option.some.inj (zk_t c3 h)
            rw [lq_gt, Int64.lt_iff_toInt_lt, e3, Int32.toInt_toInt64] at c3
            replace k := Option.some.inj (zk_f (by rw [lq_lt, Int64.lt_iff_toInt_lt, e4, Int32.toInt_toInt64, hs1]; omega) k)
            subst h
            subst k
            exact ⟨rfl, rfl, Int.le_refl _, fun e => e, fun e => e, fun e => e, fun e => e⟩
          · replace h := zk_f c3 h
            rw [lq_gt, Int64.lt_iff_toInt_lt, e3, Int32.toInt_toInt64] at c3
            replace k := zk_t (by rw [lq_lt, Int64.lt_iff_toInt_lt, e4, Int32.toInt_toInt64, hs1]; omega) k
            have eat : (x2 + (4 : Int32) * x6).toInt = x2.toInt + 4 * x6.toInt := by
              rw [i32_a (by omega) (by omega), e46]
            have ev3 : v.toInt32 = x2 + (4 : Int32) * x6 := i64_n (by rw [hv, eat])
            replace h := zk_o6 h
            obtain ⟨r, w1, w2, w3, w4, w5, a1, h⟩ := h
            obtain ⟨q, hq, hr⟩ := sf_shoe (x2 := x2 + (4 : Int32) * x6) (by omega) hsz a1
            replace k := zk_lt k
            obtain ⟨v20, e20, k⟩ := k
            rw [ev3] at e20
            subst e20
            replace k := zk_gd k
            obtain ⟨_, k⟩ := k
            replace k := zk_gd k
            obtain ⟨_, k⟩ := k
            replace k := zk_gd k
            obtain ⟨_, k⟩ := k
            replace k := zk_gd k
            obtain ⟨_, k⟩ := k
            replace k := zk_o6 k
            obtain ⟨r2, y1, y2, y3, y4, y5, a2, k⟩ := k
            have i0 : mod_elements ((60 : Int32) * x1 + (x2 + (4 : Int32) * x6)).toNatClampNeg = pl_elements (x2 + (4 : Int32) * x6).toNatClampNeg := by
              rw [ix60 hx5 (by omega), he _ (by rw [tcn]; omega)]
            have ii : ∀ (d : Int32) (n : Nat), d.toInt = (n : Int) → n < 4 → mod_elements (((60 : Int32) * x1 + (x2 + (4 : Int32) * x6)) + d).toNatClampNeg = pl_elements ((x2 + (4 : Int32) * x6) + d).toNatClampNeg := by
              intro d n hd hn
              have ed : ((x2 + (4 : Int32) * x6) + d).toInt = x2.toInt + 4 * x6.toInt + d.toInt := by rw [i32_a (by omega) (by omega), eat]
              rw [ix603 hx5 (by omega) (by omega), ← he _ (by rw [tcn]; omega)]
              congr 1
              rw [tcn, tcn, ed]
              omega
            rw [i0, ii 1 1 (by decide) (by omega), ii 2 2 (by decide) (by omega), ii 3 3 (by decide) (by omega)] at a2
            obtain ⟨p1, p2, p9, p3, p4, p5, p6, p7, p8⟩ := pw_shoe hc hq a2
            dsimp only at p1 p2 p9 p3 p4 p5 p6 p7 p8 hr
            subst p1
            subst p2
            rcases hr with ⟨hr1, hr2⟩ | ⟨hr1, hr2⟩
            · replace h := Option.some.inj (zk_t hr1 h)
              replace k := Option.some.inj (zk_f (by rw [i32_le, z32_0]; omega) k)
              subst h
              subst k
              exact ⟨rfl, rfl, p9, p3, p4, p5, p6⟩
            · replace h := zk_f (by rw [hr1]; decide) h
              replace k := zk_t (by rw [i32_le, z32_0]; omega) k
              replace h := zk_lt h
              obtain ⟨g1, e5, h⟩ := h
              replace k := zk_lt k
              obtain ⟨g2, e6, k⟩ := k
              subst e5
              subst e6
              have s3 := i32_s (a := x6) (by omega)
              obtain ⟨t1, t2, t9, t3, t4, t5, t6⟩ := ih M _ _ _ _ _ _ _ _ _ _ R Q (by omega) (by omega) (by omega) ⟨p7, p8⟩ h k
              exact ⟨t1, t2, by omega, fun e => t3 (p3 e), fun e => t4 (p4 e), fun e => t5 (p5 e), fun e => t6 (p6 e)⟩
set_option maxHeartbeats 4000000 in
set_option maxRecDepth 20000 in
theorem pw_shoes {mod_code : Int32} {court_shoeCount : Int32} {mod_claims : Int32} {ts : Int32} {at_ : Int32} {f : Int32} {court_suitCount : Int32} {mod_doneMany : Int32} {mod_undoneMany : Int32} {mod_open : Int32} {mod_laid : Int32} {mod_isBoth : Int32} {mod_wished : Int32} {mod_bestMany : Int32} {mod_bestRow : Int32} {mod_ringDigits : Int32} {mod_traces : Int32} {mod_wearer : Nat → Int32} {mod_wornFor : Nat → Int32} {mod_shoeSort : Nat → Int32} {mod_shoeDay : Nat → Int32} {mod_holds : Nat → Int32} {mod_size : Nat → Int32} {mod_elements : Nat → Int64} {court_claimCount : Int32} {court_shoePerson : Nat → Int32} {court_shoeOther : Nat → Int32} {court_shoeSort : Nat → Int32} {court_shoeDay : Nat → Int32} {pl_suit : Int32} {pl_holds : Int32} {pl_size : Int32} {pl_elements : Nat → Int64} {root_places : Nat → Option Nat} {n m : Nat} {x1 x2 x3 : Int32} (hc : 0 ≤ court_shoeCount.toInt ∧ court_shoeCount.toInt ≤ 40) {j h_pl : Nat} (hj : (¬ x1 < 0 ∧ ¬ 6 ≤ x1) → x1.toNatClampNeg = j) (hP : PLR court_suitCount j pl_holds pl_suit pl_size pl_elements mod_holds mod_size mod_elements) {R : Int32 × Int32 × (Nat → Int32) × (Nat → Int32) × (Nat → Int32) × (Nat → Int32)} {Q : Int32 × Int32 × (Nat → Int32) × (Nat → Int32) × (Nat → Int32) × (Nat → Int32)} (h : f_X11_shoes h_pl n x1 x2 x3 root_places court_shoeCount court_claimCount court_suitCount court_shoePerson court_shoeOther court_shoeSort court_shoeDay pl_holds pl_suit pl_size pl_elements = some R) (k : f_X12_shoes m x1 x2 x3 mod_code court_shoeCount mod_claims ts at_ f court_suitCount mod_doneMany mod_undoneMany mod_open mod_laid mod_isBoth mod_wished mod_bestMany mod_bestRow mod_ringDigits mod_traces mod_wearer mod_wornFor mod_shoeSort mod_shoeDay mod_holds mod_size mod_elements = some Q) : R.1 = Q.1 ∧ R.2.1 = Q.2.1 ∧ court_shoeCount.toInt ≤ R.2.1.toInt ∧ (court_shoePerson = mod_wearer → R.2.2.1 = Q.2.2.1) ∧ (court_shoeOther = mod_wornFor → R.2.2.2.1 = Q.2.2.2.1) ∧ (court_shoeSort = mod_shoeSort → R.2.2.2.2.1 = Q.2.2.2.2.1) ∧ (court_shoeDay = mod_shoeDay → R.2.2.2.2.2 = Q.2.2.2.2.2) := by
  unfold f_X11_shoes at h
  unfold f_X12_shoes at k
  unfold B_X11_shoes_0 at h
  replace h := zk_o2 h
  obtain ⟨cv1, cv2, ch3, h⟩ := h
  unfold f_X11_placeAt at ch3
  unfold B_X11_placeAt_0 at ch3
  by_cases cc4 : x1 < 0
  · have ch3 := zk_t cc4 ch3
    have cc4n := cc4
    (try simp only [i32_lt, i32_le, i32_e, z32_0, z32_1] at cc4n)
    first
    | (exfalso; omega)
    | simp only [Option.some.injEq, Prod.mk.injEq] at ch3
      obtain ⟨rfl, _⟩ := ch3
      replace h := zk_f (by decide) h
      unfold B_X12_shoes_0 at k
      replace k := zk_o2 k
      obtain ⟨mv1, mv2, mh3, k⟩ := k
      unfold f_X12_isShelf at mh3
      unfold B_X12_isShelf_0 at mh3
      obtain ⟨mv4, mv5, mh6, mh3⟩ := zk_o2 mh3
      unfold f_X12_in at mh6
      unfold B_X12_in_0 at mh6
      have mh6 := zk_t cc4 mh6
      simp only [Option.some.injEq, Prod.mk.injEq] at mh6
      obtain ⟨rfl, _⟩ := mh6
      obtain ⟨_, mh3⟩ := zk_gd mh3
      simp only [Option.some.injEq, Prod.mk.injEq] at mh3
      obtain ⟨rfl, _⟩ := mh3
      replace k := zk_t rfl k
      replace h := Option.some.inj h
      replace k := Option.some.inj k
      subst h
      subst k
      try dsimp only
      all_goals first
      | exact ⟨rfl, rfl, Int.le_refl _, fun e => e, fun e => e, fun e => e, fun e => e⟩
      | (exfalso; omega)
  · have ch3 := zk_f cc4 ch3
    have cc4n := cc4
    (try simp only [i32_lt, i32_le, i32_e, z32_0, z32_1] at cc4n)
    first
    | (exfalso; omega)
    | by_cases cc5 : (6 : Int32) ≤ x1
      · have ch3 := zk_t cc5 ch3
        have cc5n := cc5
        (try simp only [i32_lt, i32_le, i32_e, z32_0, z32_1, z32L_6] at cc5n)
        first
        | (exfalso; omega)
        | simp only [Option.some.injEq, Prod.mk.injEq] at ch3
          obtain ⟨rfl, _⟩ := ch3
          replace h := zk_f (by decide) h
          unfold B_X12_shoes_0 at k
          replace k := zk_o2 k
          obtain ⟨mv7, mv8, mh9, k⟩ := k
          unfold f_X12_isShelf at mh9
          unfold B_X12_isShelf_0 at mh9
          obtain ⟨mv10, mv11, mh12, mh9⟩ := zk_o2 mh9
          unfold f_X12_in at mh12
          unfold B_X12_in_0 at mh12
          have mh12 := zk_f cc4 mh12
          have mh12 := zk_t (by (try simp only [i32_lt, i32_le, i32_e, z32_0, z32_1, z32L_5]); omega) mh12
          simp only [Option.some.injEq, Prod.mk.injEq] at mh12
          obtain ⟨rfl, _⟩ := mh12
          obtain ⟨_, mh9⟩ := zk_gd mh9
          simp only [Option.some.injEq, Prod.mk.injEq] at mh9
          obtain ⟨rfl, _⟩ := mh9
          replace k := zk_t rfl k
          replace h := Option.some.inj h
          replace k := Option.some.inj k
          subst h
          subst k
          try dsimp only
          all_goals first
          | exact ⟨rfl, rfl, Int.le_refl _, fun e => e, fun e => e, fun e => e, fun e => e⟩
          | (exfalso; omega)
      · have ch3 := zk_f cc5 ch3
        have cc5n := cc5
        (try simp only [i32_lt, i32_le, i32_e, z32_0, z32_1, z32L_6] at cc5n)
        first
        | (exfalso; omega)
        | obtain ⟨_, ch3⟩ := zk_gd ch3
          obtain ⟨_, ch3⟩ := zk_gd ch3
          simp only [Option.some.injEq, Prod.mk.injEq] at ch3
          obtain ⟨rfl, _⟩ := ch3
          replace h := zk_t (by decide) h
          by_cases cc6 : x3 < (1 : Int32)
          · replace h := zk_t cc6 h
            have cc6n := cc6
            (try simp only [i32_lt, i32_le, i32_e, z32_0, z32_1] at cc6n)
            first
            | (exfalso; omega)
            | have hjj := hj ⟨cc4, cc5⟩
              subst hjj
              obtain ⟨⟨hs1, hs2, hs3⟩, he, hd⟩ := id hP
              have hx5 : 0 ≤ x1.toInt ∧ x1.toInt ≤ 5 := by
                have q1 := cc4
                have q2 := cc5
                rw [i32_lt, z32_0] at q1
                rw [i32_le, z32L_6] at q2
                omega
              unfold B_X12_shoes_0 at k
              replace k := zk_o2 k
              obtain ⟨mv13, mv14, mh15, k⟩ := k
              unfold f_X12_isShelf at mh15
              unfold B_X12_isShelf_0 at mh15
              obtain ⟨mv16, mv17, mh18, mh15⟩ := zk_o2 mh15
              unfold f_X12_in at mh18
              unfold B_X12_in_0 at mh18
              have mh18 := zk_f cc4 mh18
              have mh18 := zk_f (by (try simp only [i32_lt, i32_le, i32_e, z32_0, z32_1, z32L_5]); omega) mh18
              simp only [Option.some.injEq, Prod.mk.injEq] at mh18
              obtain ⟨rfl, _⟩ := mh18
              obtain ⟨_, mh15⟩ := zk_gd mh15
              simp only [Option.some.injEq, Prod.mk.injEq] at mh15
              obtain ⟨rfl, _⟩ := mh15
              replace k := zk_f (by decide) k
              replace k := zk_o2 k
              obtain ⟨mv19, mv20, mh21, k⟩ := k
              unfold f_X12_in at mh21
              unfold B_X12_in_0 at mh21
              have mh21 := zk_t cc6 mh21
              simp only [Option.some.injEq, Prod.mk.injEq] at mh21
              obtain ⟨rfl, _⟩ := mh21
              replace k := zk_t rfl k
              replace h := Option.some.inj h
              replace k := Option.some.inj k
              subst h
              subst k
              try dsimp only
              all_goals first
              | exact ⟨rfl, rfl, Int.le_refl _, fun e => e, fun e => e, fun e => e, fun e => e⟩
              | (exfalso; omega)
          · replace h := zk_f cc6 h
            have cc6n := cc6
            (try simp only [i32_lt, i32_le, i32_e, z32_0, z32_1] at cc6n)
            first
            | (exfalso; omega)
            | by_cases cc7 : x3 ≤ (15 : Int32)
              · replace h := zk_t cc7 h
                have cc7n := cc7
                (try simp only [i32_lt, i32_le, i32_e, z32_0, z32_1, z32L_15] at cc7n)
                first
                | (exfalso; omega)
                | by_cases cc8 : pl_holds = (-1 : Int32)
                  · replace h := zk_t cc8 h
                    have cc8n := cc8
                    (try simp only [i32_lt, i32_le, i32_e, z32_0, z32_1, z32N_1] at cc8n)
                    first
                    | (exfalso; omega)
                    | unfold B_X11_shoes_46 at h
                      replace h := zk_f (by (try simp only [i32_lt, i32_le, i32_e, z32_0, z32_1]); omega) h
                      unfold B_X11_shoes_64 at h
                      have hjj := hj ⟨cc4, cc5⟩
                      subst hjj
                      obtain ⟨⟨hs1, hs2, hs3⟩, he, hd⟩ := id hP
                      have hx5 : 0 ≤ x1.toInt ∧ x1.toInt ≤ 5 := by
                        have q1 := cc4
                        have q2 := cc5
                        rw [i32_lt, z32_0] at q1
                        rw [i32_le, z32L_6] at q2
                        omega
                      unfold B_X12_shoes_0 at k
                      replace k := zk_o2 k
                      obtain ⟨mv22, mv23, mh24, k⟩ := k
                      unfold f_X12_isShelf at mh24
                      unfold B_X12_isShelf_0 at mh24
                      obtain ⟨mv25, mv26, mh27, mh24⟩ := zk_o2 mh24
                      unfold f_X12_in at mh27
                      unfold B_X12_in_0 at mh27
                      have mh27 := zk_f cc4 mh27
                      have mh27 := zk_f (by (try simp only [i32_lt, i32_le, i32_e, z32_0, z32_1, z32L_5]); omega) mh27
                      simp only [Option.some.injEq, Prod.mk.injEq] at mh27
                      obtain ⟨rfl, _⟩ := mh27
                      obtain ⟨_, mh24⟩ := zk_gd mh24
                      simp only [Option.some.injEq, Prod.mk.injEq] at mh24
                      obtain ⟨rfl, _⟩ := mh24
                      replace k := zk_f (by decide) k
                      replace k := zk_o2 k
                      obtain ⟨mv28, mv29, mh30, k⟩ := k
                      unfold f_X12_in at mh30
                      unfold B_X12_in_0 at mh30
                      have mh30 := zk_f cc6 mh30
                      have mh30 := zk_f (by (try simp only [i32_lt, i32_le, i32_e, z32_0, z32_1, z32L_15]); omega) mh30
                      simp only [Option.some.injEq, Prod.mk.injEq] at mh30
                      obtain ⟨rfl, _⟩ := mh30
                      replace k := zk_f (by decide) k
                      replace k := zk_gd k
                      obtain ⟨_, k⟩ := k
                      by_cases mc31 : (mod_holds x1.toNatClampNeg) = (-1 : Int32)
                      · replace k := zk_t mc31 k
                        have mc31n := mc31
                        (try simp only [i32_lt, i32_le, i32_e, z32_0, z32_1, z32N_1] at mc31n)
                        first
                        | (exfalso; omega)
                        | unfold B_X12_shoes_43 at k
                          replace k := zk_gd k
                          obtain ⟨_, k⟩ := k
                          replace k := zk_t mc31 k
                          first
                          | (exfalso; omega)
                          | (have h := so_zero rfl rfl (by omega) h
                             replace k := Option.some.inj k
                             subst h
                             subst k
                             exact ⟨rfl, rfl, Int.le_refl _, fun e => e, fun e => e, fun e => e, fun e => e⟩)
                      · replace k := zk_f mc31 k
                        have mc31n := mc31
                        (try simp only [i32_lt, i32_le, i32_e, z32_0, z32_1, z32N_1] at mc31n)
                        first
                        | (exfalso; omega)
                        | obtain ⟨_, k⟩ := zk_gd k
                          by_cases mc32 : (mod_holds x1.toNatClampNeg) = (-3 : Int32)
                          · replace k := zk_t mc32 k
                            have mc32n := mc32
                            (try simp only [i32_lt, i32_le, i32_e, z32_0, z32_1, z32N_3, z32L_3] at mc32n)
                            first
                            | (exfalso; omega)
                            | unfold B_X12_shoes_43 at k
                              replace k := zk_gd k
                              obtain ⟨_, k⟩ := k
                              replace k := zk_f mc31 k
                              first
                              | (exfalso; omega)
                              | exact so_loop hx5 (by omega) hs1 ⟨hs2, hs3⟩ he _ _ _ _ _ _ _ _ _ _ _ _ R Q (by decide) (by rw [z32_0]; omega) (Or.inl z32_0) hc h k
                          · replace k := zk_f mc32 k
                            have mc32n := mc32
                            (try simp only [i32_lt, i32_le, i32_e, z32_0, z32_1, z32N_3, z32L_3] at mc32n)
                            first
                            | (exfalso; omega)
                            | first
                              | (exfalso; omega)
                              | (have h := so_zero rfl rfl (by omega) h
                                 replace k := Option.some.inj k
                                 subst h
                                 subst k
                                 exact ⟨rfl, rfl, Int.le_refl _, fun e => e, fun e => e, fun e => e, fun e => e⟩)
                  · replace h := zk_f cc8 h
                    have cc8n := cc8
                    (try simp only [i32_lt, i32_le, i32_e, z32_0, z32_1, z32N_1] at cc8n)
                    first
                    | (exfalso; omega)
                    | by_cases cc9 : pl_holds = (1 : Int32)
                      · replace h := zk_t cc9 h
                        have cc9n := cc9
                        (try simp only [i32_lt, i32_le, i32_e, z32_0, z32_1] at cc9n)
                        first
                        | (exfalso; omega)
                        | unfold B_X11_shoes_46 at h
                          replace h := zk_t cc9 h
                          unfold B_X11_shoes_64 at h
                          have hjj := hj ⟨cc4, cc5⟩
                          subst hjj
                          obtain ⟨⟨hs1, hs2, hs3⟩, he, hd⟩ := id hP
                          have hx5 : 0 ≤ x1.toInt ∧ x1.toInt ≤ 5 := by
                            have q1 := cc4
                            have q2 := cc5
                            rw [i32_lt, z32_0] at q1
                            rw [i32_le, z32L_6] at q2
                            omega
                          unfold B_X12_shoes_0 at k
                          replace k := zk_o2 k
                          obtain ⟨mv33, mv34, mh35, k⟩ := k
                          unfold f_X12_isShelf at mh35
                          unfold B_X12_isShelf_0 at mh35
                          obtain ⟨mv36, mv37, mh38, mh35⟩ := zk_o2 mh35
                          unfold f_X12_in at mh38
                          unfold B_X12_in_0 at mh38
                          have mh38 := zk_f cc4 mh38
                          have mh38 := zk_f (by (try simp only [i32_lt, i32_le, i32_e, z32_0, z32_1, z32L_5]); omega) mh38
                          simp only [Option.some.injEq, Prod.mk.injEq] at mh38
                          obtain ⟨rfl, _⟩ := mh38
                          obtain ⟨_, mh35⟩ := zk_gd mh35
                          simp only [Option.some.injEq, Prod.mk.injEq] at mh35
                          obtain ⟨rfl, _⟩ := mh35
                          replace k := zk_f (by decide) k
                          replace k := zk_o2 k
                          obtain ⟨mv39, mv40, mh41, k⟩ := k
                          unfold f_X12_in at mh41
                          unfold B_X12_in_0 at mh41
                          have mh41 := zk_f cc6 mh41
                          have mh41 := zk_f (by (try simp only [i32_lt, i32_le, i32_e, z32_0, z32_1, z32L_15]); omega) mh41
                          simp only [Option.some.injEq, Prod.mk.injEq] at mh41
                          obtain ⟨rfl, _⟩ := mh41
                          replace k := zk_f (by decide) k
                          replace k := zk_gd k
                          obtain ⟨_, k⟩ := k
                          by_cases mc42 : (mod_holds x1.toNatClampNeg) = (-1 : Int32)
                          · replace k := zk_t mc42 k
                            have mc42n := mc42
                            (try simp only [i32_lt, i32_le, i32_e, z32_0, z32_1, z32N_1] at mc42n)
                            first
                            | (exfalso; omega)
                            | unfold B_X12_shoes_43 at k
                              replace k := zk_gd k
                              obtain ⟨_, k⟩ := k
                              replace k := zk_t mc42 k
                              first
                              | (exfalso; omega)
                              | (have h := so_zero rfl rfl (by omega) h
                                 replace k := Option.some.inj k
                                 subst h
                                 subst k
                                 exact ⟨rfl, rfl, Int.le_refl _, fun e => e, fun e => e, fun e => e, fun e => e⟩)
                          · replace k := zk_f mc42 k
                            have mc42n := mc42
                            (try simp only [i32_lt, i32_le, i32_e, z32_0, z32_1, z32N_1] at mc42n)
                            first
                            | (exfalso; omega)
                            | obtain ⟨_, k⟩ := zk_gd k
                              by_cases mc43 : (mod_holds x1.toNatClampNeg) = (-3 : Int32)
                              · replace k := zk_t mc43 k
                                have mc43n := mc43
                                (try simp only [i32_lt, i32_le, i32_e, z32_0, z32_1, z32N_3, z32L_3] at mc43n)
                                first
                                | (exfalso; omega)
                                | unfold B_X12_shoes_43 at k
                                  replace k := zk_gd k
                                  obtain ⟨_, k⟩ := k
                                  replace k := zk_f mc42 k
                                  first
                                  | (exfalso; omega)
                                  | exact so_loop hx5 (by omega) hs1 ⟨hs2, hs3⟩ he _ _ _ _ _ _ _ _ _ _ _ _ R Q (by decide) (by rw [z32_0]; omega) (Or.inl z32_0) hc h k
                              · replace k := zk_f mc43 k
                                have mc43n := mc43
                                (try simp only [i32_lt, i32_le, i32_e, z32_0, z32_1, z32N_3, z32L_3] at mc43n)
                                first
                                | (exfalso; omega)
                                | first
                                  | (exfalso; omega)
                                  | (have h := so_zero rfl rfl (by omega) h
                                     replace k := Option.some.inj k
                                     subst h
                                     subst k
                                     exact ⟨rfl, rfl, Int.le_refl _, fun e => e, fun e => e, fun e => e, fun e => e⟩)
                      · replace h := zk_f cc9 h
                        have cc9n := cc9
                        (try simp only [i32_lt, i32_le, i32_e, z32_0, z32_1] at cc9n)
                        first
                        | (exfalso; omega)
                        | have hjj := hj ⟨cc4, cc5⟩
                          subst hjj
                          obtain ⟨⟨hs1, hs2, hs3⟩, he, hd⟩ := id hP
                          have hx5 : 0 ≤ x1.toInt ∧ x1.toInt ≤ 5 := by
                            have q1 := cc4
                            have q2 := cc5
                            rw [i32_lt, z32_0] at q1
                            rw [i32_le, z32L_6] at q2
                            omega
                          unfold B_X12_shoes_0 at k
                          replace k := zk_o2 k
                          obtain ⟨mv44, mv45, mh46, k⟩ := k
                          unfold f_X12_isShelf at mh46
                          unfold B_X12_isShelf_0 at mh46
                          obtain ⟨mv47, mv48, mh49, mh46⟩ := zk_o2 mh46
                          unfold f_X12_in at mh49
                          unfold B_X12_in_0 at mh49
                          have mh49 := zk_f cc4 mh49
                          have mh49 := zk_f (by (try simp only [i32_lt, i32_le, i32_e, z32_0, z32_1, z32L_5]); omega) mh49
                          simp only [Option.some.injEq, Prod.mk.injEq] at mh49
                          obtain ⟨rfl, _⟩ := mh49
                          obtain ⟨_, mh46⟩ := zk_gd mh46
                          simp only [Option.some.injEq, Prod.mk.injEq] at mh46
                          obtain ⟨rfl, _⟩ := mh46
                          replace k := zk_f (by decide) k
                          replace k := zk_o2 k
                          obtain ⟨mv50, mv51, mh52, k⟩ := k
                          unfold f_X12_in at mh52
                          unfold B_X12_in_0 at mh52
                          have mh52 := zk_f cc6 mh52
                          have mh52 := zk_f (by (try simp only [i32_lt, i32_le, i32_e, z32_0, z32_1, z32L_15]); omega) mh52
                          simp only [Option.some.injEq, Prod.mk.injEq] at mh52
                          obtain ⟨rfl, _⟩ := mh52
                          replace k := zk_f (by decide) k
                          replace k := zk_gd k
                          obtain ⟨_, k⟩ := k
                          by_cases mc53 : (mod_holds x1.toNatClampNeg) = (-1 : Int32)
                          · replace k := zk_t mc53 k
                            have mc53n := mc53
                            (try simp only [i32_lt, i32_le, i32_e, z32_0, z32_1, z32N_1] at mc53n)
                            first
                            | (exfalso; omega)
                            | unfold B_X12_shoes_43 at k
                              replace k := zk_gd k
                              obtain ⟨_, k⟩ := k
                              replace k := zk_t mc53 k
                              replace h := Option.some.inj h
                              replace k := Option.some.inj k
                              subst h
                              subst k
                              try dsimp only
                              all_goals first
                              | exact ⟨rfl, rfl, Int.le_refl _, fun e => e, fun e => e, fun e => e, fun e => e⟩
                              | (exfalso; omega)
                          · replace k := zk_f mc53 k
                            have mc53n := mc53
                            (try simp only [i32_lt, i32_le, i32_e, z32_0, z32_1, z32N_1] at mc53n)
                            first
                            | (exfalso; omega)
                            | obtain ⟨_, k⟩ := zk_gd k
                              by_cases mc54 : (mod_holds x1.toNatClampNeg) = (-3 : Int32)
                              · replace k := zk_t mc54 k
                                have mc54n := mc54
                                (try simp only [i32_lt, i32_le, i32_e, z32_0, z32_1, z32N_3, z32L_3] at mc54n)
                                first
                                | (exfalso; omega)
                                | unfold B_X12_shoes_43 at k
                                  replace k := zk_gd k
                                  obtain ⟨_, k⟩ := k
                                  replace k := zk_f mc53 k
                                  exfalso
                                  omega
                              · replace k := zk_f mc54 k
                                have mc54n := mc54
                                (try simp only [i32_lt, i32_le, i32_e, z32_0, z32_1, z32N_3, z32L_3] at mc54n)
                                first
                                | (exfalso; omega)
                                | have h := Option.some.inj h
                                  replace k := Option.some.inj k
                                  subst h
                                  subst k
                                  try dsimp only
                                  all_goals first
                                  | exact ⟨rfl, rfl, Int.le_refl _, fun e => e, fun e => e, fun e => e, fun e => e⟩
                                  | (exfalso; omega)
              · replace h := zk_f cc7 h
                have cc7n := cc7
                (try simp only [i32_lt, i32_le, i32_e, z32_0, z32_1, z32L_15] at cc7n)
                first
                | (exfalso; omega)
                | have hjj := hj ⟨cc4, cc5⟩
                  subst hjj
                  obtain ⟨⟨hs1, hs2, hs3⟩, he, hd⟩ := id hP
                  have hx5 : 0 ≤ x1.toInt ∧ x1.toInt ≤ 5 := by
                    have q1 := cc4
                    have q2 := cc5
                    rw [i32_lt, z32_0] at q1
                    rw [i32_le, z32L_6] at q2
                    omega
                  unfold B_X12_shoes_0 at k
                  replace k := zk_o2 k
                  obtain ⟨mv55, mv56, mh57, k⟩ := k
                  unfold f_X12_isShelf at mh57
                  unfold B_X12_isShelf_0 at mh57
                  obtain ⟨mv58, mv59, mh60, mh57⟩ := zk_o2 mh57
                  unfold f_X12_in at mh60
                  unfold B_X12_in_0 at mh60
                  have mh60 := zk_f cc4 mh60
                  have mh60 := zk_f (by (try simp only [i32_lt, i32_le, i32_e, z32_0, z32_1, z32L_5]); omega) mh60
                  simp only [Option.some.injEq, Prod.mk.injEq] at mh60
                  obtain ⟨rfl, _⟩ := mh60
                  obtain ⟨_, mh57⟩ := zk_gd mh57
                  simp only [Option.some.injEq, Prod.mk.injEq] at mh57
                  obtain ⟨rfl, _⟩ := mh57
                  replace k := zk_f (by decide) k
                  replace k := zk_o2 k
                  obtain ⟨mv61, mv62, mh63, k⟩ := k
                  unfold f_X12_in at mh63
                  unfold B_X12_in_0 at mh63
                  have mh63 := zk_f cc6 mh63
                  have mh63 := zk_t (by (try simp only [i32_lt, i32_le, i32_e, z32_0, z32_1, z32L_15]); omega) mh63
                  simp only [Option.some.injEq, Prod.mk.injEq] at mh63
                  obtain ⟨rfl, _⟩ := mh63
                  replace k := zk_t rfl k
                  replace h := Option.some.inj h
                  replace k := Option.some.inj k
                  subst h
                  subst k
                  try dsimp only
                  all_goals first
                  | exact ⟨rfl, rfl, Int.le_refl _, fun e => e, fun e => e, fun e => e, fun e => e⟩
                  | (exfalso; omega)
