
set_option maxHeartbeats 4000000 in
set_option maxRecDepth 20000 in
theorem lt56 {mod_code : Int32} {court_shoeCount : Int32} {mod_claims : Int32} {court_suitCount : Int32} {mod_doneMany : Int32} {mod_undoneMany : Int32} {mod_isBoth : Int32} {mod_wished : Int32} {mod_bestMany : Int32} {mod_bestRow : Int32} {mod_ringDigits : Int32} {mod_traces : Int32} {tm : Nat → Int32}  : ∀ (n : Nat) (x1 : Int32) (ts : Int32) (at_ : Int32) (f : Int32) (mod_open : Int32) (mod_laid : Int32) (mod_act : Nat → Int32) (mod_with : Nat → Int32) (mod_lineMany : Nat → Int32) (mod_testEnd : Nat → Int32) (mod_lineEnd : Nat → Int32) (R : Int32 × Int32 × Int32 × Int32 × Int32 × Int32 × (Nat → Int32) × (Nat → Int32) × (Nat → Int32) × (Nat → Int32) × (Nat → Int32)), (G_X12_law mod_code court_shoeCount mod_claims court_suitCount mod_doneMany mod_undoneMany mod_isBoth mod_wished mod_bestMany mod_bestRow mod_ringDigits mod_traces tm n).1 x1 ts at_ f mod_open mod_laid mod_act mod_with mod_lineMany mod_testEnd mod_lineEnd = some R → R.2.1 = 0 := by
  intro n
  induction n with
  | zero =>
    intro x1 ts at_ f mod_open mod_laid mod_act mod_with mod_lineMany mod_testEnd mod_lineEnd R h
    cases h
  | succ n ih =>
    intro x1 ts at_ f mod_open mod_laid mod_act mod_with mod_lineMany mod_testEnd mod_lineEnd R h
    replace h : B_X12_law_56 ((G_X12_law mod_code court_shoeCount mod_claims court_suitCount mod_doneMany mod_undoneMany mod_isBoth mod_wished mod_bestMany mod_bestRow mod_ringDigits mod_traces tm n).1) ((G_X12_law mod_code court_shoeCount mod_claims court_suitCount mod_doneMany mod_undoneMany mod_isBoth mod_wished mod_bestMany mod_bestRow mod_ringDigits mod_traces tm n).2.1) ((G_X12_law mod_code court_shoeCount mod_claims court_suitCount mod_doneMany mod_undoneMany mod_isBoth mod_wished mod_bestMany mod_bestRow mod_ringDigits mod_traces tm n).2.2) mod_code court_shoeCount mod_claims court_suitCount mod_doneMany mod_undoneMany mod_isBoth mod_wished mod_bestMany mod_bestRow mod_ringDigits mod_traces tm x1 ts at_ f mod_open mod_laid mod_act mod_with mod_lineMany mod_testEnd mod_lineEnd = some R := h
    unfold B_X12_law_56 at h
    by_cases cc1 : 0 ≤ f
    · replace h := zk_t cc1 h
      have cc1n := cc1
      (try simp only [i32_lt, i32_le, i32_e, z32_0, z32_1] at cc1n)
      unfold B_X12_law_89 at h
      replace h := zk_t cc1 h
      unfold B_X12_law_111 at h
      replace h := zk_f (by (try simp only [i32_lt, i32_le, i32_e, z32_0, z32_1]); omega) h
      exact (congrArg (fun z => z.2.1) (Option.some.inj h)).symm
    · replace h := zk_f cc1 h
      have cc1n := cc1
      (try simp only [i32_lt, i32_le, i32_e, z32_0, z32_1] at cc1n)
      replace h := zk_o2 h
      obtain ⟨cv2, cv3, ch4, h⟩ := h
      skip
      by_cases cc5 : cv2 = (59 : Int32)
      · replace h := zk_t cc5 h
        have cc5n := cc5
        (try simp only [i32_lt, i32_le, i32_e, z32_0, z32_1, z32L_59] at cc5n)
        replace h := zk_lt h
        obtain ⟨cv6, ce7, h⟩ := h
        subst ce7
        replace h := zk_o9 h
        obtain ⟨cv8, cv9, cv10, cv11, cv12, cv13, cv14, cv15, cv16, ch17, h⟩ := h
        skip
        exact ih _ _ _ _ _ _ _ _ _ _ _ R h
      · replace h := zk_f cc5 h
        have cc5n := cc5
        (try simp only [i32_lt, i32_le, i32_e, z32_0, z32_1, z32L_59] at cc5n)
        unfold B_X12_law_89 at h
        replace h := zk_f cc1 h
        by_cases cc18 : ts ≤ at_
        · replace h := zk_t cc18 h
          have cc18n := cc18
          (try simp only [i32_lt, i32_le, i32_e, z32_0, z32_1] at cc18n)
          unfold B_X12_law_111 at h
          replace h := zk_t (by (try simp only [i32_lt, i32_le, i32_e, z32_0, z32_1]); omega) h
          replace h := zk_lt h
          obtain ⟨cv19, ce20, h⟩ := h
          subst ce20
          exact lt146 n _ _ _ _ _ _ _ _ _ _ _ _ R h
        · replace h := zk_f cc18 h
          have cc18n := cc18
          (try simp only [i32_lt, i32_le, i32_e, z32_0, z32_1] at cc18n)
          replace h := zk_o1 h
          obtain ⟨cv21, ch22, h⟩ := h
          skip
          unfold B_X12_law_111 at h
          by_cases cc23 : cv21 < 0
          · replace h := zk_t cc23 h
            have cc23n := cc23
            (try simp only [i32_lt, i32_le, i32_e, z32_0, z32_1] at cc23n)
            replace h := zk_lt h
            obtain ⟨cv24, ce25, h⟩ := h
            subst ce25
            exact lt146 n _ _ _ _ _ _ _ _ _ _ _ _ R h
          · replace h := zk_f cc23 h
            have cc23n := cc23
            (try simp only [i32_lt, i32_le, i32_e, z32_0, z32_1] at cc23n)
            exact (congrArg (fun z => z.2.1) (Option.some.inj h)).symm
set_option maxHeartbeats 4000000 in
set_option maxRecDepth 20000 in
theorem lt_law {mod_code : Int32} {court_shoeCount : Int32} {mod_claims : Int32} {ts : Int32} {at_ : Int32} {f : Int32} {court_suitCount : Int32} {mod_doneMany : Int32} {mod_undoneMany : Int32} {mod_open : Int32} {mod_laid : Int32} {mod_isBoth : Int32} {mod_wished : Int32} {mod_bestMany : Int32} {mod_bestRow : Int32} {mod_ringDigits : Int32} {mod_traces : Int32} {tm : Nat → Int32} {mod_act : Nat → Int32} {mod_with : Nat → Int32} {mod_lineMany : Nat → Int32} {mod_testEnd : Nat → Int32} {mod_lineEnd : Nat → Int32} {n : Nat} {x1 : Int32} {R : Int32 × Int32 × Int32 × Int32 × Int32 × Int32 × (Nat → Int32) × (Nat → Int32) × (Nat → Int32) × (Nat → Int32) × (Nat → Int32)} (h : f_X12_law n x1 mod_code court_shoeCount mod_claims ts at_ f court_suitCount mod_doneMany mod_undoneMany mod_open mod_laid mod_isBoth mod_wished mod_bestMany mod_bestRow mod_ringDigits mod_traces tm mod_act mod_with mod_lineMany mod_testEnd mod_lineEnd = some R) : ((x1.toInt < 0 ∨ 4 ≤ (x1 / 10).toInt ∨ ¬ (x1 - x1 / 10 * 10).toInt < 8) → R.2.1 = ts) ∧ (¬ (x1.toInt < 0 ∨ 4 ≤ (x1 / 10).toInt ∨ ¬ (x1 - x1 / 10 * 10).toInt < 8) → R.2.1 = 0) := by
  have hm := lw_mod x1
  unfold f_X12_law at h
  unfold B_X12_law_0 at h
  by_cases cc1 : x1 < 0
  · replace h := zk_t cc1 h
    have cc1n := cc1
    (try simp only [i32_lt, i32_le, i32_e, z32_0, z32_1] at cc1n)
    replace h := Option.some.inj h
    subst h
    exact ⟨fun _ => rfl, fun z => by exfalso; omega⟩
  · replace h := zk_f cc1 h
    have cc1n := cc1
    (try simp only [i32_lt, i32_le, i32_e, z32_0, z32_1] at cc1n)
    by_cases cc2 : (3 : Int32) < (x1 / (10 : Int32))
    · replace h := zk_t cc2 h
      have cc2n := cc2
      (try simp only [i32_lt, i32_le, i32_e, z32_0, z32_1, z32L_3, z32L_10] at cc2n)
      replace h := Option.some.inj h
      subst h
      exact ⟨fun _ => rfl, fun z => by exfalso; omega⟩
    · replace h := zk_f cc2 h
      have cc2n := cc2
      (try simp only [i32_lt, i32_le, i32_e, z32_0, z32_1, z32L_3, z32L_10] at cc2n)
      replace h := zk_o2 h
      obtain ⟨cv3, cv4, ch5, h⟩ := h
      unfold f_X12_isLand at ch5
      unfold B_X12_isLand_0 at ch5
      obtain ⟨cv6, cv7, ch8, ch5⟩ := zk_o2 ch5
      unfold f_X12_in at ch8
      unfold B_X12_in_0 at ch8
      by_cases cc9 : (x1 - x1 / (10 : Int32) * (10 : Int32)) < (0 : Int32)
      · have ch8 := zk_t cc9 ch8
        have cc9n := cc9
        (try simp only [i32_lt, i32_le, i32_e, z32_0, z32_1, z32L_10] at cc9n)
        simp only [Option.some.injEq, Prod.mk.injEq] at ch8
        obtain ⟨rfl, _⟩ := ch8
        obtain ⟨_, ch5⟩ := zk_gd ch5
        simp only [Option.some.injEq, Prod.mk.injEq] at ch5
        obtain ⟨rfl, _⟩ := ch5
        replace h := zk_t rfl h
        replace h := Option.some.inj h
        subst h
        exact ⟨fun _ => rfl, fun z => by exfalso; omega⟩
      · have ch8 := zk_f cc9 ch8
        have cc9n := cc9
        (try simp only [i32_lt, i32_le, i32_e, z32_0, z32_1, z32L_10] at cc9n)
        by_cases cc10 : (7 : Int32) < (x1 - x1 / (10 : Int32) * (10 : Int32))
        · have ch8 := zk_t cc10 ch8
          have cc10n := cc10
          (try simp only [i32_lt, i32_le, i32_e, z32_0, z32_1, z32L_7, z32L_10] at cc10n)
          simp only [Option.some.injEq, Prod.mk.injEq] at ch8
          obtain ⟨rfl, _⟩ := ch8
          obtain ⟨_, ch5⟩ := zk_gd ch5
          simp only [Option.some.injEq, Prod.mk.injEq] at ch5
          obtain ⟨rfl, _⟩ := ch5
          replace h := zk_t rfl h
          replace h := Option.some.inj h
          subst h
          exact ⟨fun _ => rfl, fun z => by exfalso; omega⟩
        · have ch8 := zk_f cc10 ch8
          have cc10n := cc10
          (try simp only [i32_lt, i32_le, i32_e, z32_0, z32_1, z32L_7, z32L_10] at cc10n)
          simp only [Option.some.injEq, Prod.mk.injEq] at ch8
          obtain ⟨rfl, _⟩ := ch8
          obtain ⟨_, ch5⟩ := zk_gd ch5
          simp only [Option.some.injEq, Prod.mk.injEq] at ch5
          obtain ⟨rfl, _⟩ := ch5
          replace h := zk_f (by decide) h
          replace h := zk_lt h
          obtain ⟨cv11, ce12, h⟩ := h
          subst ce12
          replace h := zk_o9 h
          obtain ⟨cv13, cv14, cv15, cv16, cv17, cv18, cv19, cv20, cv21, ch22, h⟩ := h
          skip
          have q := lt56 n _ _ _ _ _ _ _ _ _ _ _ R h
          exact ⟨fun z => by exfalso; omega, fun _ => q⟩
def PLR (n : Int32) (j : Nat) (hc su sz : Int32) (el : Nat → Int64) (mh ms : Nat → Int32) (me : Nat → Int64) : Prop :=
  (ms j = sz ∧ 0 ≤ sz.toInt ∧ sz.toInt ≤ 60) ∧ (∀ k, k < 60 → me (60 * j + k) = el k) ∧ ((hc.toInt = -1 ∧ (mh j).toInt = -1) ∨ (0 ≤ hc.toInt ∧ hc.toInt ≤ 4 ∧ (mh j).toInt = -2 - hc.toInt) ∨ (hc.toInt = 5 ∧ (mh j).toInt = su.toInt ∧ 0 ≤ su.toInt ∧ su.toInt < n.toInt))
theorem PLR_fr {n n2 hc su sz : Int32} {i : Nat} {el : Nat → Int64} {mh ms mh2 ms2 : Nat → Int32} {me me2 : Nat → Int64} (h : PLR n i hc su sz el mh ms me) (hn : n.toInt ≤ n2.toInt) (e1 : mh2 i = mh i) (e2 : ms2 i = ms i) (e3 : ∀ k, 60 * i ≤ k → k < 60 * i + 60 → me2 k = me k) : PLR n2 i hc su sz el mh2 ms2 me2 := by
  obtain ⟨h1, h2, h3⟩ := h
  refine ⟨by rw [e2]; exact h1, fun k hk => by rw [e3 _ (by omega) (by omega)]; exact h2 k hk, ?_⟩
  rw [e1]
  omega
theorem PLR_h {n hc su sz hc2 su2 v : Int32} {j : Nat} {el : Nat → Int64} {mh ms : Nat → Int32} {me : Nat → Int64} (h : PLR n j hc su sz el mh ms me) (d : (hc2.toInt = -1 ∧ v.toInt = -1) ∨ (0 ≤ hc2.toInt ∧ hc2.toInt ≤ 4 ∧ v.toInt = -2 - hc2.toInt) ∨ (hc2.toInt = 5 ∧ v.toInt = su2.toInt ∧ 0 ≤ su2.toInt ∧ su2.toInt < n.toInt)) : PLR n j hc2 su2 sz el (upd mh j v) ms me := by
  obtain ⟨h1, h2, h3⟩ := h
  refine ⟨h1, h2, ?_⟩
  unfold upd
  rw [if_pos rfl]
  exact d
theorem PLR_00 {n hc su sz : Int32} {j : Nat} {el : Nat → Int64} {mh ms : Nat → Int32} {me : Nat → Int64} (h1 : hc = -1) (h2 : sz = 0) (h3 : el = fun _ => 0) (m1 : mh j = -1) (m2 : ms j = 0) (m3 : ∀ k, me k = 0) : PLR n j hc su sz el mh ms me := by
  subst h1
  subst h2
  subst h3
  refine ⟨⟨m2, by decide⟩, fun k _ => m3 _, Or.inl ⟨by decide, by rw [m1]; decide⟩⟩
theorem updL_n {f : Nat → Int64} {k i : Nat} {v : Int64} (h : i ≠ k) : vp_updL f k v i = f i := by
  unfold vp_updL
  rw [if_neg h]
theorem ix60 {x y : Int32} (hx : 0 ≤ x.toInt ∧ x.toInt ≤ 5) (hy : 0 ≤ y.toInt ∧ y.toInt ≤ 100) : ((60 : Int32) * x + y).toNatClampNeg = 60 * x.toNatClampNeg + y.toNatClampNeg := by
  have e60 : (60 : Int32).toInt = 60 := by decide
  have e : ((60 : Int32) * x + y).toInt = 60 * x.toInt + y.toInt := by
    rw [Int32.toInt_add, Int32.toInt_mul, e60, zi_bm2 (e := 60 * x.toInt) (by omega) (by omega), zi_bm2 (by omega) (by omega)]
  rw [tcn, tcn, tcn, e]
  omega
theorem PLR_put {n hc su sz : Int32} {j i q : Nat} {el : Nat → Int64} {mh ms : Nat → Int32} {me : Nat → Int64} {v w : Int64} (h : PLR n j hc su sz el mh ms me) (hi : i < 60) (hq : q = 60 * j + i) (hv : w = v) : PLR n j hc su sz (vp_updL el i v) mh ms (vp_updL me q w) := by
  obtain ⟨h1, h2, h3⟩ := h
  subst hv
  refine ⟨h1, fun k hk => ?_, h3⟩
  unfold vp_updL
  by_cases c : k = i
  · rw [if_pos (by omega), if_pos c]
  · rw [if_neg (by omega), if_neg c]
    exact h2 k hk
set_option maxHeartbeats 4000000 in
set_option maxRecDepth 20000 in
theorem pw_keep {mod_code : Int32} {court_shoeCount : Int32} {mod_claims : Int32} {ts : Int32} {at_ : Int32} {f : Int32} {court_suitCount : Int32} {mod_doneMany : Int32} {mod_undoneMany : Int32} {mod_open : Int32} {mod_laid : Int32} {mod_isBoth : Int32} {mod_wished : Int32} {mod_bestMany : Int32} {mod_bestRow : Int32} {mod_ringDigits : Int32} {mod_traces : Int32} {mod_holds : Nat → Int32} {mod_size : Nat → Int32} {mod_elements : Nat → Int64} {court_claimCount : Int32} {court_suits : Nat → Option Nat} {S_who : Nat → Int32} {S_against : Nat → Int32} {S_kind : Nat → Int32} {S_won : Nat → Int32} {S_day : Nat → Int32} {S_land : Nat → Int32} {S_undoneFrom : Nat → Int32} {S_asked : Nat → Nat → Int32} {S_askedCount : Nat → Int32} {S_askedBits : Nat → Int32} {S_first : Nat → Int32} {S_foundSo : Nat → Int32} {S_foundNot : Nat → Int32} {S_fought : Nat → Int32} {S_needed : Nat → Int32} {pl_suit : Int32} {pl_holds : Int32} {pl_size : Int32} {pl_elements : Nat → Int64} {root_places : Nat → Option Nat} {x1 x2 : Int32} (hn : 0 ≤ court_suitCount.toInt ∧ court_suitCount.toInt ≤ 40) {j h_pl : Nat} (hj : (¬ x1 < 0 ∧ ¬ 6 ≤ x1) → x1.toNatClampNeg = j) (hP : PLR court_suitCount j pl_holds pl_suit pl_size pl_elements mod_holds mod_size mod_elements) {R : Int32 × Int32 × Int32} {Q : Int32 × (Nat → Int32)} (h : f_X11_keep h_pl x1 x2 root_places court_shoeCount court_claimCount court_suitCount court_suits pl_holds pl_suit pl_size S_who S_against S_kind S_won S_day S_land S_undoneFrom S_asked S_askedCount S_askedBits S_first S_foundSo S_foundNot S_fought S_needed = some R) (k : f_X12_keep x1 x2 mod_code court_shoeCount mod_claims ts at_ f court_suitCount mod_doneMany mod_undoneMany mod_open mod_laid mod_isBoth mod_wished mod_bestMany mod_bestRow mod_ringDigits mod_traces mod_holds = some Q) : R.1 = Q.1 ∧ PLR court_suitCount j R.2.1 R.2.2 pl_size pl_elements Q.2 mod_size mod_elements ∧ ∀ i, i ≠ j → Q.2 i = mod_holds i := by
  unfold f_X11_keep at h
  unfold f_X12_keep at k
  unfold B_X11_keep_0 at h
  replace h := zk_o2 h
  obtain ⟨cv1, cv2, ch3, h⟩ := h
  unfold f_X11_placeAt at ch3
  unfold B_X11_placeAt_0 at ch3
  by_cases cc4 : x1 < 0
  · have ch3 := zk_t cc4 ch3
    have cc4n := cc4
    (try simp only [i32_lt, i32_le, i32_e, z32_0, z32_1] at cc4n)
    first
    | (exfalso; omega)
    | simp only [Option.some.injEq, Prod.mk.injEq] at ch3
      obtain ⟨rfl, _⟩ := ch3
      replace h := zk_f (by decide) h
      have hn1 := i32_m1 (a := court_suitCount) (by omega)
      unfold B_X12_keep_0 at k
      replace k := zk_o2 k
      obtain ⟨mv1, mv2, mh3, k⟩ := k
      unfold f_X12_isShelf at mh3
      unfold B_X12_isShelf_0 at mh3
      obtain ⟨mv4, mv5, mh6, mh3⟩ := zk_o2 mh3
      unfold f_X12_in at mh6
      unfold B_X12_in_0 at mh6
      have mh6 := zk_t cc4 mh6
      simp only [Option.some.injEq, Prod.mk.injEq] at mh6
      obtain ⟨rfl, _⟩ := mh6
      obtain ⟨_, mh3⟩ := zk_gd mh3
      simp only [Option.some.injEq, Prod.mk.injEq] at mh3
      obtain ⟨rfl, _⟩ := mh3
      replace k := zk_t rfl k
      replace h := Option.some.inj h
      replace k := Option.some.inj k
      subst h
      subst k
      try dsimp only
      all_goals first
      | exact ⟨rfl, hP, fun i hi => rfl⟩
      | (exfalso; omega)
  · have ch3 := zk_f cc4 ch3
    have cc4n := cc4
    (try simp only [i32_lt, i32_le, i32_e, z32_0, z32_1] at cc4n)
    first
    | (exfalso; omega)
    | by_cases cc5 : (6 : Int32) ≤ x1
      · have ch3 := zk_t cc5 ch3
        have cc5n := cc5
        (try simp only [i32_lt, i32_le, i32_e, z32_0, z32_1, z32L_6] at cc5n)
        first
        | (exfalso; omega)
        | simp only [Option.some.injEq, Prod.mk.injEq] at ch3
          obtain ⟨rfl, _⟩ := ch3
          replace h := zk_f (by decide) h
          have hn1 := i32_m1 (a := court_suitCount) (by omega)
          unfold B_X12_keep_0 at k
          replace k := zk_o2 k
          obtain ⟨mv7, mv8, mh9, k⟩ := k
          unfold f_X12_isShelf at mh9
          unfold B_X12_isShelf_0 at mh9
          obtain ⟨mv10, mv11, mh12, mh9⟩ := zk_o2 mh9
          unfold f_X12_in at mh12
          unfold B_X12_in_0 at mh12
          have mh12 := zk_f cc4 mh12
          have mh12 := zk_t (by (try simp only [i32_lt, i32_le, i32_e, z32_0, z32_1, z32L_5]); omega) mh12
          simp only [Option.some.injEq, Prod.mk.injEq] at mh12
          obtain ⟨rfl, _⟩ := mh12
          obtain ⟨_, mh9⟩ := zk_gd mh9
          simp only [Option.some.injEq, Prod.mk.injEq] at mh9
          obtain ⟨rfl, _⟩ := mh9
          replace k := zk_t rfl k
          replace h := Option.some.inj h
          replace k := Option.some.inj k
          subst h
          subst k
          try dsimp only
          all_goals first
          | exact ⟨rfl, hP, fun i hi => rfl⟩
          | (exfalso; omega)
      · have ch3 := zk_f cc5 ch3
        have cc5n := cc5
        (try simp only [i32_lt, i32_le, i32_e, z32_0, z32_1, z32L_6] at cc5n)
        first
        | (exfalso; omega)
        | obtain ⟨_, ch3⟩ := zk_gd ch3
          obtain ⟨_, ch3⟩ := zk_gd ch3
          simp only [Option.some.injEq, Prod.mk.injEq] at ch3
          obtain ⟨rfl, _⟩ := ch3
          replace h := zk_t (by decide) h
          by_cases cc6 : x2 = (-1 : Int32)
          · replace h := zk_t cc6 h
            have cc6n := cc6
            (try simp only [i32_lt, i32_le, i32_e, z32_0, z32_1, z32N_1] at cc6n)
            first
            | (exfalso; omega)
            | unfold B_X11_keep_28 at h
              replace h := zk_t cc6 h
              unfold B_X11_keep_39 at h
              have hjj := hj ⟨cc4, cc5⟩
              subst hjj
              obtain ⟨⟨hs1, hs2, hs3⟩, he, hd⟩ := id hP
              have hx5 : 0 ≤ x1.toInt ∧ x1.toInt ≤ 5 := by
                have q1 := cc4
                have q2 := cc5
                rw [i32_lt, z32_0] at q1
                rw [i32_le, z32L_6] at q2
                omega
              have hsz := i32_m1 (a := mod_size x1.toNatClampNeg) (by rw [hs1]; omega)
              have hsz2 : (mod_size x1.toNatClampNeg).toInt = pl_size.toInt := by rw [hs1]
              have hn1 := i32_m1 (a := court_suitCount) (by omega)
              unfold B_X12_keep_0 at k
              replace k := zk_o2 k
              obtain ⟨mv13, mv14, mh15, k⟩ := k
              unfold f_X12_isShelf at mh15
              unfold B_X12_isShelf_0 at mh15
              obtain ⟨mv16, mv17, mh18, mh15⟩ := zk_o2 mh15
              unfold f_X12_in at mh18
              unfold B_X12_in_0 at mh18
              have mh18 := zk_f cc4 mh18
              have mh18 := zk_f (by (try simp only [i32_lt, i32_le, i32_e, z32_0, z32_1, z32L_5]); omega) mh18
              simp only [Option.some.injEq, Prod.mk.injEq] at mh18
              obtain ⟨rfl, _⟩ := mh18
              obtain ⟨_, mh15⟩ := zk_gd mh15
              simp only [Option.some.injEq, Prod.mk.injEq] at mh15
              obtain ⟨rfl, _⟩ := mh15
              replace k := zk_f (by decide) k
              replace k := zk_t cc6 k
              unfold B_X12_keep_22 at k
              replace k := zk_gd k
              obtain ⟨_, k⟩ := k
              replace k := zk_lt k
              obtain ⟨mv19, me20, k⟩ := k
              subst me20
              replace h := Option.some.inj h
              replace k := Option.some.inj k
              subst h
              subst k
              try dsimp only
              all_goals first
              | exact ⟨rfl, PLR_h hP (by have := z32N_1; have := z32L_5; omega), fun i hi => upd_n hi⟩
              | (exfalso; omega)
          · replace h := zk_f cc6 h
            have cc6n := cc6
            (try simp only [i32_lt, i32_le, i32_e, z32_0, z32_1, z32N_1] at cc6n)
            first
            | (exfalso; omega)
            | obtain ⟨cv7, cv8, ch9, h⟩ := zk_o2 h
              unfold f_X2_suitAt at ch9
              unfold B_X2_suitAt_0 at ch9
              by_cases cc10 : x2 < 0
              · have ch9 := zk_t cc10 ch9
                have cc10n := cc10
                (try simp only [i32_lt, i32_le, i32_e, z32_0, z32_1] at cc10n)
                first
                | (exfalso; omega)
                | simp only [Option.some.injEq, Prod.mk.injEq] at ch9
                  obtain ⟨rfl, _⟩ := ch9
                  replace h := zk_t (by decide) h
                  have hjj := hj ⟨cc4, cc5⟩
                  subst hjj
                  obtain ⟨⟨hs1, hs2, hs3⟩, he, hd⟩ := id hP
                  have hx5 : 0 ≤ x1.toInt ∧ x1.toInt ≤ 5 := by
                    have q1 := cc4
                    have q2 := cc5
                    rw [i32_lt, z32_0] at q1
                    rw [i32_le, z32L_6] at q2
                    omega
                  have hsz := i32_m1 (a := mod_size x1.toNatClampNeg) (by rw [hs1]; omega)
                  have hsz2 : (mod_size x1.toNatClampNeg).toInt = pl_size.toInt := by rw [hs1]
                  have hn1 := i32_m1 (a := court_suitCount) (by omega)
                  unfold B_X12_keep_0 at k
                  replace k := zk_o2 k
                  obtain ⟨mv21, mv22, mh23, k⟩ := k
                  unfold f_X12_isShelf at mh23
                  unfold B_X12_isShelf_0 at mh23
                  obtain ⟨mv24, mv25, mh26, mh23⟩ := zk_o2 mh23
                  unfold f_X12_in at mh26
                  unfold B_X12_in_0 at mh26
                  have mh26 := zk_f cc4 mh26
                  have mh26 := zk_f (by (try simp only [i32_lt, i32_le, i32_e, z32_0, z32_1, z32L_5]); omega) mh26
                  simp only [Option.some.injEq, Prod.mk.injEq] at mh26
                  obtain ⟨rfl, _⟩ := mh26
                  obtain ⟨_, mh23⟩ := zk_gd mh23
                  simp only [Option.some.injEq, Prod.mk.injEq] at mh23
                  obtain ⟨rfl, _⟩ := mh23
                  replace k := zk_f (by decide) k
                  replace k := zk_f cc6 k
                  replace k := zk_o2 k
                  obtain ⟨mv27, mv28, mh29, k⟩ := k
                  unfold f_X12_isSuit at mh29
                  unfold B_X12_isSuit_0 at mh29
                  obtain ⟨mv30, mv31, mh32, mh29⟩ := zk_o2 mh29
                  unfold f_X12_in at mh32
                  unfold B_X12_in_0 at mh32
                  have mh32 := zk_t cc10 mh32
                  simp only [Option.some.injEq, Prod.mk.injEq] at mh32
                  obtain ⟨rfl, _⟩ := mh32
                  obtain ⟨_, mh29⟩ := zk_gd mh29
                  simp only [Option.some.injEq, Prod.mk.injEq] at mh29
                  obtain ⟨rfl, _⟩ := mh29
                  replace k := zk_t rfl k
                  replace h := Option.some.inj h
                  replace k := Option.some.inj k
                  subst h
                  subst k
                  try dsimp only
                  all_goals first
                  | exact ⟨rfl, hP, fun i hi => rfl⟩
                  | (exfalso; omega)
              · have ch9 := zk_f cc10 ch9
                have cc10n := cc10
                (try simp only [i32_lt, i32_le, i32_e, z32_0, z32_1] at cc10n)
                first
                | (exfalso; omega)
                | by_cases cc11 : court_suitCount ≤ x2
                  · have ch9 := zk_t cc11 ch9
                    have cc11n := cc11
                    (try simp only [i32_lt, i32_le, i32_e, z32_0, z32_1] at cc11n)
                    first
                    | (exfalso; omega)
                    | simp only [Option.some.injEq, Prod.mk.injEq] at ch9
                      obtain ⟨rfl, _⟩ := ch9
                      replace h := zk_t (by decide) h
                      have hjj := hj ⟨cc4, cc5⟩
                      subst hjj
                      obtain ⟨⟨hs1, hs2, hs3⟩, he, hd⟩ := id hP
                      have hx5 : 0 ≤ x1.toInt ∧ x1.toInt ≤ 5 := by
                        have q1 := cc4
                        have q2 := cc5
                        rw [i32_lt, z32_0] at q1
                        rw [i32_le, z32L_6] at q2
                        omega
                      have hsz := i32_m1 (a := mod_size x1.toNatClampNeg) (by rw [hs1]; omega)
                      have hsz2 : (mod_size x1.toNatClampNeg).toInt = pl_size.toInt := by rw [hs1]
                      have hn1 := i32_m1 (a := court_suitCount) (by omega)
                      unfold B_X12_keep_0 at k
                      replace k := zk_o2 k
                      obtain ⟨mv33, mv34, mh35, k⟩ := k
                      unfold f_X12_isShelf at mh35
                      unfold B_X12_isShelf_0 at mh35
                      obtain ⟨mv36, mv37, mh38, mh35⟩ := zk_o2 mh35
                      unfold f_X12_in at mh38
                      unfold B_X12_in_0 at mh38
                      have mh38 := zk_f cc4 mh38
                      have mh38 := zk_f (by (try simp only [i32_lt, i32_le, i32_e, z32_0, z32_1, z32L_5]); omega) mh38
                      simp only [Option.some.injEq, Prod.mk.injEq] at mh38
                      obtain ⟨rfl, _⟩ := mh38
                      obtain ⟨_, mh35⟩ := zk_gd mh35
                      simp only [Option.some.injEq, Prod.mk.injEq] at mh35
                      obtain ⟨rfl, _⟩ := mh35
                      replace k := zk_f (by decide) k
                      replace k := zk_f cc6 k
                      replace k := zk_o2 k
                      obtain ⟨mv39, mv40, mh41, k⟩ := k
                      unfold f_X12_isSuit at mh41
                      unfold B_X12_isSuit_0 at mh41
                      obtain ⟨mv42, mv43, mh44, mh41⟩ := zk_o2 mh41
                      unfold f_X12_in at mh44
                      unfold B_X12_in_0 at mh44
                      have mh44 := zk_f cc10 mh44
                      have mh44 := zk_t (by (try simp only [i32_lt, i32_le, i32_e, z32_0, z32_1]); omega) mh44
                      simp only [Option.some.injEq, Prod.mk.injEq] at mh44
                      obtain ⟨rfl, _⟩ := mh44
                      obtain ⟨_, mh41⟩ := zk_gd mh41
                      simp only [Option.some.injEq, Prod.mk.injEq] at mh41
                      obtain ⟨rfl, _⟩ := mh41
                      replace k := zk_t rfl k
                      replace h := Option.some.inj h
                      replace k := Option.some.inj k
                      subst h
                      subst k
                      try dsimp only
                      all_goals first
                      | exact ⟨rfl, hP, fun i hi => rfl⟩
                      | (exfalso; omega)
                  · have ch9 := zk_f cc11 ch9
                    have cc11n := cc11
                    (try simp only [i32_lt, i32_le, i32_e, z32_0, z32_1] at cc11n)
                    first
                    | (exfalso; omega)
                    | obtain ⟨_, ch9⟩ := zk_gd ch9
                      obtain ⟨_, ch9⟩ := zk_gd ch9
                      obtain ⟨_, ch9⟩ := zk_gd ch9
                      simp only [Option.some.injEq, Prod.mk.injEq] at ch9
                      obtain ⟨rfl, _⟩ := ch9
                      replace h := zk_f cc10 h
                      unfold B_X11_keep_28 at h
                      replace h := zk_f cc6 h
                      unfold B_X11_keep_39 at h
                      have hjj := hj ⟨cc4, cc5⟩
                      subst hjj
                      obtain ⟨⟨hs1, hs2, hs3⟩, he, hd⟩ := id hP
                      have hx5 : 0 ≤ x1.toInt ∧ x1.toInt ≤ 5 := by
                        have q1 := cc4
                        have q2 := cc5
                        rw [i32_lt, z32_0] at q1
                        rw [i32_le, z32L_6] at q2
                        omega
                      have hsz := i32_m1 (a := mod_size x1.toNatClampNeg) (by rw [hs1]; omega)
                      have hsz2 : (mod_size x1.toNatClampNeg).toInt = pl_size.toInt := by rw [hs1]
                      have hn1 := i32_m1 (a := court_suitCount) (by omega)
                      unfold B_X12_keep_0 at k
                      replace k := zk_o2 k
                      obtain ⟨mv45, mv46, mh47, k⟩ := k
                      unfold f_X12_isShelf at mh47
                      unfold B_X12_isShelf_0 at mh47
                      obtain ⟨mv48, mv49, mh50, mh47⟩ := zk_o2 mh47
                      unfold f_X12_in at mh50
                      unfold B_X12_in_0 at mh50
                      have mh50 := zk_f cc4 mh50
                      have mh50 := zk_f (by (try simp only [i32_lt, i32_le, i32_e, z32_0, z32_1, z32L_5]); omega) mh50
                      simp only [Option.some.injEq, Prod.mk.injEq] at mh50
                      obtain ⟨rfl, _⟩ := mh50
                      obtain ⟨_, mh47⟩ := zk_gd mh47
                      simp only [Option.some.injEq, Prod.mk.injEq] at mh47
                      obtain ⟨rfl, _⟩ := mh47
                      replace k := zk_f (by decide) k
                      replace k := zk_f cc6 k
                      replace k := zk_o2 k
                      obtain ⟨mv51, mv52, mh53, k⟩ := k
                      unfold f_X12_isSuit at mh53
                      unfold B_X12_isSuit_0 at mh53
                      obtain ⟨mv54, mv55, mh56, mh53⟩ := zk_o2 mh53
                      unfold f_X12_in at mh56
                      unfold B_X12_in_0 at mh56
                      have mh56 := zk_f cc10 mh56
                      have mh56 := zk_f (by (try simp only [i32_lt, i32_le, i32_e, z32_0, z32_1]); omega) mh56
                      simp only [Option.some.injEq, Prod.mk.injEq] at mh56
                      obtain ⟨rfl, _⟩ := mh56
                      obtain ⟨_, mh53⟩ := zk_gd mh53
                      simp only [Option.some.injEq, Prod.mk.injEq] at mh53
                      obtain ⟨rfl, _⟩ := mh53
                      replace k := zk_f (by decide) k
                      unfold B_X12_keep_22 at k
                      replace k := zk_gd k
                      obtain ⟨_, k⟩ := k
                      replace k := zk_lt k
                      obtain ⟨mv57, me58, k⟩ := k
                      subst me58
                      replace h := Option.some.inj h
                      replace k := Option.some.inj k
                      subst h
                      subst k
                      try dsimp only
                      all_goals first
                      | exact ⟨rfl, PLR_h hP (by have := z32N_1; have := z32L_5; omega), fun i hi => upd_n hi⟩
                      | (exfalso; omega)
set_option maxHeartbeats 4000000 in
set_option maxRecDepth 20000 in
theorem pw_element {mod_code : Int32} {court_shoeCount : Int32} {mod_claims : Int32} {ts : Int32} {at_ : Int32} {f : Int32} {court_suitCount : Int32} {mod_doneMany : Int32} {mod_undoneMany : Int32} {mod_open : Int32} {mod_laid : Int32} {mod_isBoth : Int32} {mod_wished : Int32} {mod_bestMany : Int32} {mod_bestRow : Int32} {mod_ringDigits : Int32} {mod_traces : Int32} {mod_holds : Nat → Int32} {mod_size : Nat → Int32} {mod_elements : Nat → Int64} {pl_suit : Int32} {pl_holds : Int32} {pl_size : Int32} {pl_elements : Nat → Int64} {root_places : Nat → Option Nat} {x1 x2 : Int32} {j h_pl : Nat} (hj : (¬ x1 < 0 ∧ ¬ 6 ≤ x1) → x1.toNatClampNeg = j) (hP : PLR court_suitCount j pl_holds pl_suit pl_size pl_elements mod_holds mod_size mod_elements) {R : Int64 × Unit} {Q : Int64 × Unit} (h : f_X11_element h_pl x1 x2 root_places pl_holds pl_suit pl_size pl_elements = some R) (k : f_X12_element x1 x2 mod_code court_shoeCount mod_claims ts at_ f court_suitCount mod_doneMany mod_undoneMany mod_open mod_laid mod_isBoth mod_wished mod_bestMany mod_bestRow mod_ringDigits mod_traces mod_holds mod_size mod_elements = some Q) : R.1 = Q.1 := by
  have hsb : 0 ≤ pl_size.toInt → pl_size.toInt ≤ 60 → 0 ≤ x2.toInt → x2.toInt ≤ 60 → (pl_size - x2).toInt = pl_size.toInt - x2.toInt := fun _ _ q1 q2 => i32_d (by omega) (by omega)
  have hsz0 := hP.1
  unfold f_X11_element at h
  unfold f_X12_element at k
  unfold B_X11_element_0 at h
  replace h := zk_o2 h
  obtain ⟨cv1, cv2, ch3, h⟩ := h
  unfold f_X11_placeAt at ch3
  unfold B_X11_placeAt_0 at ch3
  by_cases cc4 : x1 < 0
  · have ch3 := zk_t cc4 ch3
    have cc4n := cc4
    (try simp only [i32_lt, i32_le, i32_e, z32_0, z32_1] at cc4n)
    first
    | (exfalso; omega)
    | simp only [Option.some.injEq, Prod.mk.injEq] at ch3
      obtain ⟨rfl, _⟩ := ch3
      replace h := zk_f (by decide) h
      unfold B_X12_element_0 at k
      replace k := zk_o2 k
      obtain ⟨mv1, mv2, mh3, k⟩ := k
      unfold f_X12_whyNoPlace at mh3
      unfold B_X12_whyNoPlace_0 at mh3
      obtain ⟨mv4, mv5, mh6, mh3⟩ := zk_o2 mh3
      unfold f_X12_isShelf at mh6
      unfold B_X12_isShelf_0 at mh6
      obtain ⟨mv7, mv8, mh9, mh6⟩ := zk_o2 mh6
      unfold f_X12_in at mh9
      unfold B_X12_in_0 at mh9
      have mh9 := zk_t cc4 mh9
      simp only [Option.some.injEq, Prod.mk.injEq] at mh9
      obtain ⟨rfl, _⟩ := mh9
      obtain ⟨_, mh6⟩ := zk_gd mh6
      simp only [Option.some.injEq, Prod.mk.injEq] at mh6
      obtain ⟨rfl, _⟩ := mh6
      have mh3 := zk_t rfl mh3
      simp only [Option.some.injEq, Prod.mk.injEq] at mh3
      obtain ⟨rfl, _⟩ := mh3
      replace k := zk_f (by decide) k
      replace h := Option.some.inj h
      replace k := Option.some.inj k
      subst h
      subst k
      try dsimp only
      all_goals first
      | (exfalso; omega)
      | exact rfl
      | ((try dsimp only); rw [ix60 hx5 (by omega), he x2.toNatClampNeg (by rw [tcn]; omega)])
  · have ch3 := zk_f cc4 ch3
    have cc4n := cc4
    (try simp only [i32_lt, i32_le, i32_e, z32_0, z32_1] at cc4n)
    first
    | (exfalso; omega)
    | by_cases cc5 : (6 : Int32) ≤ x1
      · have ch3 := zk_t cc5 ch3
        have cc5n := cc5
        (try simp only [i32_lt, i32_le, i32_e, z32_0, z32_1, z32L_6] at cc5n)
        first
        | (exfalso; omega)
        | simp only [Option.some.injEq, Prod.mk.injEq] at ch3
          obtain ⟨rfl, _⟩ := ch3
          replace h := zk_f (by decide) h
          unfold B_X12_element_0 at k
          replace k := zk_o2 k
          obtain ⟨mv10, mv11, mh12, k⟩ := k
          unfold f_X12_whyNoPlace at mh12
          unfold B_X12_whyNoPlace_0 at mh12
          obtain ⟨mv13, mv14, mh15, mh12⟩ := zk_o2 mh12
          unfold f_X12_isShelf at mh15
          unfold B_X12_isShelf_0 at mh15
          obtain ⟨mv16, mv17, mh18, mh15⟩ := zk_o2 mh15
          unfold f_X12_in at mh18
          unfold B_X12_in_0 at mh18
          have mh18 := zk_f cc4 mh18
          have mh18 := zk_t (by (try simp only [i32_lt, i32_le, i32_e, z32_0, z32_1, z32L_5]); omega) mh18
          simp only [Option.some.injEq, Prod.mk.injEq] at mh18
          obtain ⟨rfl, _⟩ := mh18
          obtain ⟨_, mh15⟩ := zk_gd mh15
          simp only [Option.some.injEq, Prod.mk.injEq] at mh15
          obtain ⟨rfl, _⟩ := mh15
          have mh12 := zk_t rfl mh12
          simp only [Option.some.injEq, Prod.mk.injEq] at mh12
          obtain ⟨rfl, _⟩ := mh12
          replace k := zk_f (by decide) k
          replace h := Option.some.inj h
          replace k := Option.some.inj k
          subst h
          subst k
          try dsimp only
          all_goals first
          | (exfalso; omega)
          | exact rfl
          | ((try dsimp only); rw [ix60 hx5 (by omega), he x2.toNatClampNeg (by rw [tcn]; omega)])
      · have ch3 := zk_f cc5 ch3
        have cc5n := cc5
        (try simp only [i32_lt, i32_le, i32_e, z32_0, z32_1, z32L_6] at cc5n)
        first
        | (exfalso; omega)
        | obtain ⟨_, ch3⟩ := zk_gd ch3
          obtain ⟨_, ch3⟩ := zk_gd ch3
          simp only [Option.some.injEq, Prod.mk.injEq] at ch3
          obtain ⟨rfl, _⟩ := ch3
          replace h := zk_t (by decide) h
          replace h := zk_o2 h
          obtain ⟨cv6, cv7, ch8, h⟩ := h
          unfold f_X6_refusalOf at ch8
          unfold B_X6_refusalOf_0 at ch8
          by_cases cc9 : pl_holds = (-1 : Int32)
          · have ch8 := zk_t cc9 ch8
            have cc9n := cc9
            (try simp only [i32_lt, i32_le, i32_e, z32_0, z32_1, z32N_1] at cc9n)
            first
            | (exfalso; omega)
            | simp only [Option.some.injEq, Prod.mk.injEq] at ch8
              obtain ⟨rfl, _⟩ := ch8
              replace h := zk_f (by decide) h
              have hjj := hj ⟨cc4, cc5⟩
              subst hjj
              obtain ⟨⟨hs1, hs2, hs3⟩, he, hd⟩ := id hP
              have hx5 : 0 ≤ x1.toInt ∧ x1.toInt ≤ 5 := by
                have q1 := cc4
                have q2 := cc5
                rw [i32_lt, z32_0] at q1
                rw [i32_le, z32L_6] at q2
                omega
              have hsz := i32_m1 (a := mod_size x1.toNatClampNeg) (by rw [hs1]; omega)
              have hsz2 : (mod_size x1.toNatClampNeg).toInt = pl_size.toInt := by rw [hs1]
              unfold B_X12_element_0 at k
              replace k := zk_o2 k
              obtain ⟨mv19, mv20, mh21, k⟩ := k
              unfold f_X12_whyNoPlace at mh21
              unfold B_X12_whyNoPlace_0 at mh21
              obtain ⟨mv22, mv23, mh24, mh21⟩ := zk_o2 mh21
              unfold f_X12_isShelf at mh24
              unfold B_X12_isShelf_0 at mh24
              obtain ⟨mv25, mv26, mh27, mh24⟩ := zk_o2 mh24
              unfold f_X12_in at mh27
              unfold B_X12_in_0 at mh27
              have mh27 := zk_f cc4 mh27
              have mh27 := zk_f (by (try simp only [i32_lt, i32_le, i32_e, z32_0, z32_1, z32L_5]); omega) mh27
              simp only [Option.some.injEq, Prod.mk.injEq] at mh27
              obtain ⟨rfl, _⟩ := mh27
              obtain ⟨_, mh24⟩ := zk_gd mh24
              simp only [Option.some.injEq, Prod.mk.injEq] at mh24
              obtain ⟨rfl, _⟩ := mh24
              have mh21 := zk_f (by decide) mh21
              obtain ⟨_, mh21⟩ := zk_gd mh21
              by_cases mc28 : (mod_holds x1.toNatClampNeg) = (-1 : Int32)
              · have mh21 := zk_t mc28 mh21
                have mc28n := mc28
                (try simp only [i32_lt, i32_le, i32_e, z32_0, z32_1, z32N_1] at mc28n)
                first
                | (exfalso; omega)
                | simp only [Option.some.injEq, Prod.mk.injEq] at mh21
                  obtain ⟨rfl, _⟩ := mh21
                  replace k := zk_f (by decide) k
                  replace h := Option.some.inj h
                  replace k := Option.some.inj k
                  subst h
                  subst k
                  try dsimp only
                  all_goals first
                  | (exfalso; omega)
                  | exact rfl
                  | ((try dsimp only); rw [ix60 hx5 (by omega), he x2.toNatClampNeg (by rw [tcn]; omega)])
              · have mh21 := zk_f mc28 mh21
                have mc28n := mc28
                (try simp only [i32_lt, i32_le, i32_e, z32_0, z32_1, z32N_1] at mc28n)
                first
                | (exfalso; omega)
                | obtain ⟨_, mh21⟩ := zk_gd mh21
                  by_cases mc29 : (mod_holds x1.toNatClampNeg) < 0
                  · have mh21 := zk_t mc29 mh21
                    have mc29n := mc29
                    (try simp only [i32_lt, i32_le, i32_e, z32_0, z32_1] at mc29n)
                    first
                    | (exfalso; omega)
                    | obtain ⟨_, mh21⟩ := zk_gd mh21
                      obtain ⟨mv30, mv31, mh32, mh21⟩ := zk_o2 mh21
                      unfold f_X12_in at mh32
                      unfold B_X12_in_0 at mh32
                      by_cases mc33 : x2 < (0 : Int32)
                      · have mh32 := zk_t mc33 mh32
                        have mc33n := mc33
                        (try simp only [i32_lt, i32_le, i32_e, z32_0, z32_1] at mc33n)
                        first
                        | (exfalso; omega)
                        | simp only [Option.some.injEq, Prod.mk.injEq] at mh32
                          obtain ⟨rfl, _⟩ := mh32
                          have mh21 := zk_t rfl mh21
                          simp only [Option.some.injEq, Prod.mk.injEq] at mh21
                          obtain ⟨rfl, _⟩ := mh21
                          replace k := zk_f (by decide) k
                          replace h := Option.some.inj h
                          replace k := Option.some.inj k
                          subst h
                          subst k
                          try dsimp only
                          all_goals first
                          | (exfalso; omega)
                          | exact rfl
                          | ((try dsimp only); rw [ix60 hx5 (by omega), he x2.toNatClampNeg (by rw [tcn]; omega)])
                      · have mh32 := zk_f mc33 mh32
                        have mc33n := mc33
                        (try simp only [i32_lt, i32_le, i32_e, z32_0, z32_1] at mc33n)
                        first
                        | (exfalso; omega)
                        | by_cases mc34 : ((mod_size x1.toNatClampNeg) - (1 : Int32)) < x2
                          · have mh32 := zk_t mc34 mh32
                            have mc34n := mc34
                            (try simp only [i32_lt, i32_le, i32_e, z32_0, z32_1] at mc34n)
                            first
                            | (exfalso; omega)
                            | simp only [Option.some.injEq, Prod.mk.injEq] at mh32
                              obtain ⟨rfl, _⟩ := mh32
                              have mh21 := zk_t rfl mh21
                              simp only [Option.some.injEq, Prod.mk.injEq] at mh21
                              obtain ⟨rfl, _⟩ := mh21
                              replace k := zk_f (by decide) k
                              replace h := Option.some.inj h
                              replace k := Option.some.inj k
                              subst h
                              subst k
                              try dsimp only
                              all_goals first
                              | (exfalso; omega)
                              | exact rfl
                              | ((try dsimp only); rw [ix60 hx5 (by omega), he x2.toNatClampNeg (by rw [tcn]; omega)])
                          · have mh32 := zk_f mc34 mh32
                            have mc34n := mc34
                            (try simp only [i32_lt, i32_le, i32_e, z32_0, z32_1] at mc34n)
                            first
                            | (exfalso; omega)
                            | simp only [Option.some.injEq, Prod.mk.injEq] at mh32
                              obtain ⟨rfl, _⟩ := mh32
                              have mh21 := zk_f (by decide) mh21
                              simp only [Option.some.injEq, Prod.mk.injEq] at mh21
                              obtain ⟨rfl, _⟩ := mh21
                              replace k := zk_t (Int32.le_refl _) k
                              replace k := zk_gd k
                              obtain ⟨_, k⟩ := k
                              replace h := Option.some.inj h
                              replace k := Option.some.inj k
                              subst h
                              subst k
                              try dsimp only
                              all_goals first
                              | (exfalso; omega)
                              | exact rfl
                              | ((try dsimp only); rw [ix60 hx5 (by omega), he x2.toNatClampNeg (by rw [tcn]; omega)])
                  · have mh21 := zk_f mc29 mh21
                    have mc29n := mc29
                    (try simp only [i32_lt, i32_le, i32_e, z32_0, z32_1] at mc29n)
                    first
                    | (exfalso; omega)
                    | simp only [Option.some.injEq, Prod.mk.injEq] at mh21
                      obtain ⟨rfl, _⟩ := mh21
                      replace k := zk_f (by decide) k
                      replace h := Option.some.inj h
                      replace k := Option.some.inj k
                      subst h
                      subst k
                      try dsimp only
                      all_goals first
                      | (exfalso; omega)
                      | exact rfl
                      | ((try dsimp only); rw [ix60 hx5 (by omega), he x2.toNatClampNeg (by rw [tcn]; omega)])
          · have ch8 := zk_f cc9 ch8
            have cc9n := cc9
            (try simp only [i32_lt, i32_le, i32_e, z32_0, z32_1, z32N_1] at cc9n)
            first
            | (exfalso; omega)
            | by_cases cc10 : pl_holds = (5 : Int32)
              · have ch8 := zk_t cc10 ch8
                have cc10n := cc10
                (try simp only [i32_lt, i32_le, i32_e, z32_0, z32_1, z32L_5] at cc10n)
                first
                | (exfalso; omega)
                | simp only [Option.some.injEq, Prod.mk.injEq] at ch8
                  obtain ⟨rfl, _⟩ := ch8
                  replace h := zk_f (by decide) h
                  have hjj := hj ⟨cc4, cc5⟩
                  subst hjj
                  obtain ⟨⟨hs1, hs2, hs3⟩, he, hd⟩ := id hP
                  have hx5 : 0 ≤ x1.toInt ∧ x1.toInt ≤ 5 := by
                    have q1 := cc4
                    have q2 := cc5
                    rw [i32_lt, z32_0] at q1
                    rw [i32_le, z32L_6] at q2
                    omega
                  have hsz := i32_m1 (a := mod_size x1.toNatClampNeg) (by rw [hs1]; omega)
                  have hsz2 : (mod_size x1.toNatClampNeg).toInt = pl_size.toInt := by rw [hs1]
                  unfold B_X12_element_0 at k
                  replace k := zk_o2 k
                  obtain ⟨mv35, mv36, mh37, k⟩ := k
                  unfold f_X12_whyNoPlace at mh37
                  unfold B_X12_whyNoPlace_0 at mh37
                  obtain ⟨mv38, mv39, mh40, mh37⟩ := zk_o2 mh37
                  unfold f_X12_isShelf at mh40
                  unfold B_X12_isShelf_0 at mh40
                  obtain ⟨mv41, mv42, mh43, mh40⟩ := zk_o2 mh40
                  unfold f_X12_in at mh43
                  unfold B_X12_in_0 at mh43
                  have mh43 := zk_f cc4 mh43
                  have mh43 := zk_f (by (try simp only [i32_lt, i32_le, i32_e, z32_0, z32_1, z32L_5]); omega) mh43
                  simp only [Option.some.injEq, Prod.mk.injEq] at mh43
                  obtain ⟨rfl, _⟩ := mh43
                  obtain ⟨_, mh40⟩ := zk_gd mh40
                  simp only [Option.some.injEq, Prod.mk.injEq] at mh40
                  obtain ⟨rfl, _⟩ := mh40
                  have mh37 := zk_f (by decide) mh37
                  obtain ⟨_, mh37⟩ := zk_gd mh37
                  by_cases mc44 : (mod_holds x1.toNatClampNeg) = (-1 : Int32)
                  · have mh37 := zk_t mc44 mh37
                    have mc44n := mc44
                    (try simp only [i32_lt, i32_le, i32_e, z32_0, z32_1, z32N_1] at mc44n)
                    first
                    | (exfalso; omega)
                    | simp only [Option.some.injEq, Prod.mk.injEq] at mh37
                      obtain ⟨rfl, _⟩ := mh37
                      replace k := zk_f (by decide) k
                      replace h := Option.some.inj h
                      replace k := Option.some.inj k
                      subst h
                      subst k
                      try dsimp only
                      all_goals first
                      | (exfalso; omega)
                      | exact rfl
                      | ((try dsimp only); rw [ix60 hx5 (by omega), he x2.toNatClampNeg (by rw [tcn]; omega)])
                  · have mh37 := zk_f mc44 mh37
                    have mc44n := mc44
                    (try simp only [i32_lt, i32_le, i32_e, z32_0, z32_1, z32N_1] at mc44n)
                    first
                    | (exfalso; omega)
                    | obtain ⟨_, mh37⟩ := zk_gd mh37
                      by_cases mc45 : (mod_holds x1.toNatClampNeg) < 0
                      · have mh37 := zk_t mc45 mh37
                        have mc45n := mc45
                        (try simp only [i32_lt, i32_le, i32_e, z32_0, z32_1] at mc45n)
                        first
                        | (exfalso; omega)
                        | obtain ⟨_, mh37⟩ := zk_gd mh37
                          obtain ⟨mv46, mv47, mh48, mh37⟩ := zk_o2 mh37
                          unfold f_X12_in at mh48
                          unfold B_X12_in_0 at mh48
                          by_cases mc49 : x2 < (0 : Int32)
                          · have mh48 := zk_t mc49 mh48
                            have mc49n := mc49
                            (try simp only [i32_lt, i32_le, i32_e, z32_0, z32_1] at mc49n)
                            first
                            | (exfalso; omega)
                            | simp only [Option.some.injEq, Prod.mk.injEq] at mh48
                              obtain ⟨rfl, _⟩ := mh48
                              have mh37 := zk_t rfl mh37
                              simp only [Option.some.injEq, Prod.mk.injEq] at mh37
                              obtain ⟨rfl, _⟩ := mh37
                              replace k := zk_f (by decide) k
                              replace h := Option.some.inj h
                              replace k := Option.some.inj k
                              subst h
                              subst k
                              try dsimp only
                              all_goals first
                              | (exfalso; omega)
                              | exact rfl
                              | ((try dsimp only); rw [ix60 hx5 (by omega), he x2.toNatClampNeg (by rw [tcn]; omega)])
                          · have mh48 := zk_f mc49 mh48
                            have mc49n := mc49
                            (try simp only [i32_lt, i32_le, i32_e, z32_0, z32_1] at mc49n)
                            first
                            | (exfalso; omega)
                            | by_cases mc50 : ((mod_size x1.toNatClampNeg) - (1 : Int32)) < x2
                              · have mh48 := zk_t mc50 mh48
                                have mc50n := mc50
                                (try simp only [i32_lt, i32_le, i32_e, z32_0, z32_1] at mc50n)
                                first
                                | (exfalso; omega)
                                | simp only [Option.some.injEq, Prod.mk.injEq] at mh48
                                  obtain ⟨rfl, _⟩ := mh48
                                  have mh37 := zk_t rfl mh37
                                  simp only [Option.some.injEq, Prod.mk.injEq] at mh37
                                  obtain ⟨rfl, _⟩ := mh37
                                  replace k := zk_f (by decide) k
                                  replace h := Option.some.inj h
                                  replace k := Option.some.inj k
                                  subst h
                                  subst k
                                  try dsimp only
                                  all_goals first
                                  | (exfalso; omega)
                                  | exact rfl
                                  | ((try dsimp only); rw [ix60 hx5 (by omega), he x2.toNatClampNeg (by rw [tcn]; omega)])
                              · have mh48 := zk_f mc50 mh48
                                have mc50n := mc50
                                (try simp only [i32_lt, i32_le, i32_e, z32_0, z32_1] at mc50n)
                                first
                                | (exfalso; omega)
                                | simp only [Option.some.injEq, Prod.mk.injEq] at mh48
                                  obtain ⟨rfl, _⟩ := mh48
                                  have mh37 := zk_f (by decide) mh37
                                  simp only [Option.some.injEq, Prod.mk.injEq] at mh37
                                  obtain ⟨rfl, _⟩ := mh37
                                  replace k := zk_t (Int32.le_refl _) k
                                  replace k := zk_gd k
                                  obtain ⟨_, k⟩ := k
                                  replace h := Option.some.inj h
                                  replace k := Option.some.inj k
                                  subst h
                                  subst k
                                  try dsimp only
                                  all_goals first
                                  | (exfalso; omega)
                                  | exact rfl
                                  | ((try dsimp only); rw [ix60 hx5 (by omega), he x2.toNatClampNeg (by rw [tcn]; omega)])
                      · have mh37 := zk_f mc45 mh37
                        have mc45n := mc45
                        (try simp only [i32_lt, i32_le, i32_e, z32_0, z32_1] at mc45n)
                        first
                        | (exfalso; omega)
                        | simp only [Option.some.injEq, Prod.mk.injEq] at mh37
                          obtain ⟨rfl, _⟩ := mh37
                          replace k := zk_f (by decide) k
                          replace h := Option.some.inj h
                          replace k := Option.some.inj k
                          subst h
                          subst k
                          try dsimp only
                          all_goals first
                          | (exfalso; omega)
                          | exact rfl
                          | ((try dsimp only); rw [ix60 hx5 (by omega), he x2.toNatClampNeg (by rw [tcn]; omega)])
              · have ch8 := zk_f cc10 ch8
                have cc10n := cc10
                (try simp only [i32_lt, i32_le, i32_e, z32_0, z32_1, z32L_5] at cc10n)
                first
                | (exfalso; omega)
                | obtain ⟨cv11, cv12, ch13, ch8⟩ := zk_o2 ch8
                  unfold f_X6_hasRange at ch13
                  unfold B_X6_hasRange_0 at ch13
                  by_cases cc14 : x2 < 0
                  · have ch13 := zk_t cc14 ch13
                    have cc14n := cc14
                    (try simp only [i32_lt, i32_le, i32_e, z32_0, z32_1] at cc14n)
                    first
                    | (exfalso; omega)
                    | simp only [Option.some.injEq, Prod.mk.injEq] at ch13
                      obtain ⟨rfl, _⟩ := ch13
                      have ch8 := zk_t rfl ch8
                      simp only [Option.some.injEq, Prod.mk.injEq] at ch8
                      obtain ⟨rfl, _⟩ := ch8
                      replace h := zk_f (by decide) h
                      have hjj := hj ⟨cc4, cc5⟩
                      subst hjj
                      obtain ⟨⟨hs1, hs2, hs3⟩, he, hd⟩ := id hP
                      have hx5 : 0 ≤ x1.toInt ∧ x1.toInt ≤ 5 := by
                        have q1 := cc4
                        have q2 := cc5
                        rw [i32_lt, z32_0] at q1
                        rw [i32_le, z32L_6] at q2
                        omega
                      have hsz := i32_m1 (a := mod_size x1.toNatClampNeg) (by rw [hs1]; omega)
                      have hsz2 : (mod_size x1.toNatClampNeg).toInt = pl_size.toInt := by rw [hs1]
                      unfold B_X12_element_0 at k
                      replace k := zk_o2 k
                      obtain ⟨mv51, mv52, mh53, k⟩ := k
                      unfold f_X12_whyNoPlace at mh53
                      unfold B_X12_whyNoPlace_0 at mh53
                      obtain ⟨mv54, mv55, mh56, mh53⟩ := zk_o2 mh53
                      unfold f_X12_isShelf at mh56
                      unfold B_X12_isShelf_0 at mh56
                      obtain ⟨mv57, mv58, mh59, mh56⟩ := zk_o2 mh56
                      unfold f_X12_in at mh59
                      unfold B_X12_in_0 at mh59
                      have mh59 := zk_f cc4 mh59
                      have mh59 := zk_f (by (try simp only [i32_lt, i32_le, i32_e, z32_0, z32_1, z32L_5]); omega) mh59
                      simp only [Option.some.injEq, Prod.mk.injEq] at mh59
                      obtain ⟨rfl, _⟩ := mh59
                      obtain ⟨_, mh56⟩ := zk_gd mh56
                      simp only [Option.some.injEq, Prod.mk.injEq] at mh56
                      obtain ⟨rfl, _⟩ := mh56
                      have mh53 := zk_f (by decide) mh53
                      obtain ⟨_, mh53⟩ := zk_gd mh53
                      by_cases mc60 : (mod_holds x1.toNatClampNeg) = (-1 : Int32)
                      · have mh53 := zk_t mc60 mh53
                        have mc60n := mc60
                        (try simp only [i32_lt, i32_le, i32_e, z32_0, z32_1, z32N_1] at mc60n)
                        first
                        | (exfalso; omega)
                        | simp only [Option.some.injEq, Prod.mk.injEq] at mh53
                          obtain ⟨rfl, _⟩ := mh53
                          replace k := zk_f (by decide) k
                          replace h := Option.some.inj h
                          replace k := Option.some.inj k
                          subst h
                          subst k
                          try dsimp only
                          all_goals first
                          | (exfalso; omega)
                          | exact rfl
                          | ((try dsimp only); rw [ix60 hx5 (by omega), he x2.toNatClampNeg (by rw [tcn]; omega)])
                      · have mh53 := zk_f mc60 mh53
                        have mc60n := mc60
                        (try simp only [i32_lt, i32_le, i32_e, z32_0, z32_1, z32N_1] at mc60n)
                        first
                        | (exfalso; omega)
                        | obtain ⟨_, mh53⟩ := zk_gd mh53
                          by_cases mc61 : (mod_holds x1.toNatClampNeg) < 0
                          · have mh53 := zk_t mc61 mh53
                            have mc61n := mc61
                            (try simp only [i32_lt, i32_le, i32_e, z32_0, z32_1] at mc61n)
                            first
                            | (exfalso; omega)
                            | obtain ⟨_, mh53⟩ := zk_gd mh53
                              obtain ⟨mv62, mv63, mh64, mh53⟩ := zk_o2 mh53
                              unfold f_X12_in at mh64
                              unfold B_X12_in_0 at mh64
                              have mh64 := zk_t cc14 mh64
                              simp only [Option.some.injEq, Prod.mk.injEq] at mh64
                              obtain ⟨rfl, _⟩ := mh64
                              have mh53 := zk_t rfl mh53
                              simp only [Option.some.injEq, Prod.mk.injEq] at mh53
                              obtain ⟨rfl, _⟩ := mh53
                              replace k := zk_f (by decide) k
                              replace h := Option.some.inj h
                              replace k := Option.some.inj k
                              subst h
                              subst k
                              try dsimp only
                              all_goals first
                              | (exfalso; omega)
                              | exact rfl
                              | ((try dsimp only); rw [ix60 hx5 (by omega), he x2.toNatClampNeg (by rw [tcn]; omega)])
                          · have mh53 := zk_f mc61 mh53
                            have mc61n := mc61
                            (try simp only [i32_lt, i32_le, i32_e, z32_0, z32_1] at mc61n)
                            first
                            | (exfalso; omega)
                            | simp only [Option.some.injEq, Prod.mk.injEq] at mh53
                              obtain ⟨rfl, _⟩ := mh53
                              replace k := zk_f (by decide) k
                              replace h := Option.some.inj h
                              replace k := Option.some.inj k
                              subst h
                              subst k
                              try dsimp only
                              all_goals first
                              | (exfalso; omega)
                              | exact rfl
                              | ((try dsimp only); rw [ix60 hx5 (by omega), he x2.toNatClampNeg (by rw [tcn]; omega)])
                  · have ch13 := zk_f cc14 ch13
                    have cc14n := cc14
                    (try simp only [i32_lt, i32_le, i32_e, z32_0, z32_1] at cc14n)
                    first
                    | (exfalso; omega)
                    | have ch13 := zk_f (by decide) ch13
                      by_cases cc15 : pl_size < x2
                      · have ch13 := zk_t cc15 ch13
                        have cc15n := cc15
                        (try simp only [i32_lt, i32_le, i32_e, z32_0, z32_1] at cc15n)
                        first
                        | (exfalso; omega)
                        | simp only [Option.some.injEq, Prod.mk.injEq] at ch13
                          obtain ⟨rfl, _⟩ := ch13
                          have ch8 := zk_t rfl ch8
                          simp only [Option.some.injEq, Prod.mk.injEq] at ch8
                          obtain ⟨rfl, _⟩ := ch8
                          replace h := zk_f (by decide) h
                          have hjj := hj ⟨cc4, cc5⟩
                          subst hjj
                          obtain ⟨⟨hs1, hs2, hs3⟩, he, hd⟩ := id hP
                          have hx5 : 0 ≤ x1.toInt ∧ x1.toInt ≤ 5 := by
                            have q1 := cc4
                            have q2 := cc5
                            rw [i32_lt, z32_0] at q1
                            rw [i32_le, z32L_6] at q2
                            omega
                          have hsz := i32_m1 (a := mod_size x1.toNatClampNeg) (by rw [hs1]; omega)
                          have hsz2 : (mod_size x1.toNatClampNeg).toInt = pl_size.toInt := by rw [hs1]
                          unfold B_X12_element_0 at k
                          replace k := zk_o2 k
                          obtain ⟨mv65, mv66, mh67, k⟩ := k
                          unfold f_X12_whyNoPlace at mh67
                          unfold B_X12_whyNoPlace_0 at mh67
                          obtain ⟨mv68, mv69, mh70, mh67⟩ := zk_o2 mh67
                          unfold f_X12_isShelf at mh70
                          unfold B_X12_isShelf_0 at mh70
                          obtain ⟨mv71, mv72, mh73, mh70⟩ := zk_o2 mh70
                          unfold f_X12_in at mh73
                          unfold B_X12_in_0 at mh73
                          have mh73 := zk_f cc4 mh73
                          have mh73 := zk_f (by (try simp only [i32_lt, i32_le, i32_e, z32_0, z32_1, z32L_5]); omega) mh73
                          simp only [Option.some.injEq, Prod.mk.injEq] at mh73
                          obtain ⟨rfl, _⟩ := mh73
                          obtain ⟨_, mh70⟩ := zk_gd mh70
                          simp only [Option.some.injEq, Prod.mk.injEq] at mh70
                          obtain ⟨rfl, _⟩ := mh70
                          have mh67 := zk_f (by decide) mh67
                          obtain ⟨_, mh67⟩ := zk_gd mh67
                          by_cases mc74 : (mod_holds x1.toNatClampNeg) = (-1 : Int32)
                          · have mh67 := zk_t mc74 mh67
                            have mc74n := mc74
                            (try simp only [i32_lt, i32_le, i32_e, z32_0, z32_1, z32N_1] at mc74n)
                            first
                            | (exfalso; omega)
                            | simp only [Option.some.injEq, Prod.mk.injEq] at mh67
                              obtain ⟨rfl, _⟩ := mh67
                              replace k := zk_f (by decide) k
                              replace h := Option.some.inj h
                              replace k := Option.some.inj k
                              subst h
                              subst k
                              try dsimp only
                              all_goals first
                              | (exfalso; omega)
                              | exact rfl
                              | ((try dsimp only); rw [ix60 hx5 (by omega), he x2.toNatClampNeg (by rw [tcn]; omega)])
                          · have mh67 := zk_f mc74 mh67
                            have mc74n := mc74
                            (try simp only [i32_lt, i32_le, i32_e, z32_0, z32_1, z32N_1] at mc74n)
                            first
                            | (exfalso; omega)
                            | obtain ⟨_, mh67⟩ := zk_gd mh67
                              by_cases mc75 : (mod_holds x1.toNatClampNeg) < 0
                              · have mh67 := zk_t mc75 mh67
                                have mc75n := mc75
                                (try simp only [i32_lt, i32_le, i32_e, z32_0, z32_1] at mc75n)
                                first
                                | (exfalso; omega)
                                | obtain ⟨_, mh67⟩ := zk_gd mh67
                                  obtain ⟨mv76, mv77, mh78, mh67⟩ := zk_o2 mh67
                                  unfold f_X12_in at mh78
                                  unfold B_X12_in_0 at mh78
                                  have mh78 := zk_f cc14 mh78
                                  by_cases mc79 : ((mod_size x1.toNatClampNeg) - (1 : Int32)) < x2
                                  · have mh78 := zk_t mc79 mh78
                                    have mc79n := mc79
                                    (try simp only [i32_lt, i32_le, i32_e, z32_0, z32_1] at mc79n)
                                    first
                                    | (exfalso; omega)
                                    | simp only [Option.some.injEq, Prod.mk.injEq] at mh78
                                      obtain ⟨rfl, _⟩ := mh78
                                      have mh67 := zk_t rfl mh67
                                      simp only [Option.some.injEq, Prod.mk.injEq] at mh67
                                      obtain ⟨rfl, _⟩ := mh67
                                      replace k := zk_f (by decide) k
                                      replace h := Option.some.inj h
                                      replace k := Option.some.inj k
                                      subst h
                                      subst k
                                      try dsimp only
                                      all_goals first
                                      | (exfalso; omega)
                                      | exact rfl
                                      | ((try dsimp only); rw [ix60 hx5 (by omega), he x2.toNatClampNeg (by rw [tcn]; omega)])
                                  · have mh78 := zk_f mc79 mh78
                                    have mc79n := mc79
                                    (try simp only [i32_lt, i32_le, i32_e, z32_0, z32_1] at mc79n)
                                    first
                                    | (exfalso; omega)
                                    | simp only [Option.some.injEq, Prod.mk.injEq] at mh78
                                      obtain ⟨rfl, _⟩ := mh78
                                      have mh67 := zk_f (by decide) mh67
                                      simp only [Option.some.injEq, Prod.mk.injEq] at mh67
                                      obtain ⟨rfl, _⟩ := mh67
                                      replace k := zk_t (Int32.le_refl _) k
                                      replace k := zk_gd k
                                      obtain ⟨_, k⟩ := k
                                      replace h := Option.some.inj h
                                      replace k := Option.some.inj k
                                      subst h
                                      subst k
                                      try dsimp only
                                      all_goals first
                                      | (exfalso; omega)
                                      | exact rfl
                                      | ((try dsimp only); rw [ix60 hx5 (by omega), he x2.toNatClampNeg (by rw [tcn]; omega)])
                              · have mh67 := zk_f mc75 mh67
                                have mc75n := mc75
                                (try simp only [i32_lt, i32_le, i32_e, z32_0, z32_1] at mc75n)
                                first
                                | (exfalso; omega)
                                | simp only [Option.some.injEq, Prod.mk.injEq] at mh67
                                  obtain ⟨rfl, _⟩ := mh67
                                  replace k := zk_f (by decide) k
                                  replace h := Option.some.inj h
                                  replace k := Option.some.inj k
                                  subst h
                                  subst k
                                  try dsimp only
                                  all_goals first
                                  | (exfalso; omega)
                                  | exact rfl
                                  | ((try dsimp only); rw [ix60 hx5 (by omega), he x2.toNatClampNeg (by rw [tcn]; omega)])
                      · have ch13 := zk_f cc15 ch13
                        have cc15n := cc15
                        (try simp only [i32_lt, i32_le, i32_e, z32_0, z32_1] at cc15n)
                        first
                        | (exfalso; omega)
                        | by_cases cc16 : (pl_size - x2) < (1 : Int32)
                          · have ch13 := zk_t cc16 ch13
                            have cc16n := cc16
                            (try simp only [i32_lt, i32_le, i32_e, z32_0, z32_1] at cc16n)
                            first
                            | (exfalso; omega)
                            | simp only [Option.some.injEq, Prod.mk.injEq] at ch13
                              obtain ⟨rfl, _⟩ := ch13
                              have ch8 := zk_t rfl ch8
                              simp only [Option.some.injEq, Prod.mk.injEq] at ch8
                              obtain ⟨rfl, _⟩ := ch8
                              replace h := zk_f (by decide) h
                              have hjj := hj ⟨cc4, cc5⟩
                              subst hjj
                              obtain ⟨⟨hs1, hs2, hs3⟩, he, hd⟩ := id hP
                              have hx5 : 0 ≤ x1.toInt ∧ x1.toInt ≤ 5 := by
                                have q1 := cc4
                                have q2 := cc5
                                rw [i32_lt, z32_0] at q1
                                rw [i32_le, z32L_6] at q2
                                omega
                              have hsz := i32_m1 (a := mod_size x1.toNatClampNeg) (by rw [hs1]; omega)
                              have hsz2 : (mod_size x1.toNatClampNeg).toInt = pl_size.toInt := by rw [hs1]
                              unfold B_X12_element_0 at k
                              replace k := zk_o2 k
                              obtain ⟨mv80, mv81, mh82, k⟩ := k
                              unfold f_X12_whyNoPlace at mh82
                              unfold B_X12_whyNoPlace_0 at mh82
                              obtain ⟨mv83, mv84, mh85, mh82⟩ := zk_o2 mh82
                              unfold f_X12_isShelf at mh85
                              unfold B_X12_isShelf_0 at mh85
                              obtain ⟨mv86, mv87, mh88, mh85⟩ := zk_o2 mh85
                              unfold f_X12_in at mh88
                              unfold B_X12_in_0 at mh88
                              have mh88 := zk_f cc4 mh88
                              have mh88 := zk_f (by (try simp only [i32_lt, i32_le, i32_e, z32_0, z32_1, z32L_5]); omega) mh88
                              simp only [Option.some.injEq, Prod.mk.injEq] at mh88
                              obtain ⟨rfl, _⟩ := mh88
                              obtain ⟨_, mh85⟩ := zk_gd mh85
                              simp only [Option.some.injEq, Prod.mk.injEq] at mh85
                              obtain ⟨rfl, _⟩ := mh85
                              have mh82 := zk_f (by decide) mh82
                              obtain ⟨_, mh82⟩ := zk_gd mh82
                              by_cases mc89 : (mod_holds x1.toNatClampNeg) = (-1 : Int32)
                              · have mh82 := zk_t mc89 mh82
                                have mc89n := mc89
                                (try simp only [i32_lt, i32_le, i32_e, z32_0, z32_1, z32N_1] at mc89n)
                                first
                                | (exfalso; omega)
                                | simp only [Option.some.injEq, Prod.mk.injEq] at mh82
                                  obtain ⟨rfl, _⟩ := mh82
                                  replace k := zk_f (by decide) k
                                  replace h := Option.some.inj h
                                  replace k := Option.some.inj k
                                  subst h
                                  subst k
                                  try dsimp only
                                  all_goals first
                                  | (exfalso; omega)
                                  | exact rfl
                                  | ((try dsimp only); rw [ix60 hx5 (by omega), he x2.toNatClampNeg (by rw [tcn]; omega)])
                              · have mh82 := zk_f mc89 mh82
                                have mc89n := mc89
                                (try simp only [i32_lt, i32_le, i32_e, z32_0, z32_1, z32N_1] at mc89n)
                                first
                                | (exfalso; omega)
                                | obtain ⟨_, mh82⟩ := zk_gd mh82
                                  by_cases mc90 : (mod_holds x1.toNatClampNeg) < 0
                                  · have mh82 := zk_t mc90 mh82
                                    have mc90n := mc90
                                    (try simp only [i32_lt, i32_le, i32_e, z32_0, z32_1] at mc90n)
                                    first
                                    | (exfalso; omega)
                                    | obtain ⟨_, mh82⟩ := zk_gd mh82
                                      obtain ⟨mv91, mv92, mh93, mh82⟩ := zk_o2 mh82
                                      unfold f_X12_in at mh93
                                      unfold B_X12_in_0 at mh93
                                      have mh93 := zk_f cc14 mh93
                                      by_cases mc94 : ((mod_size x1.toNatClampNeg) - (1 : Int32)) < x2
                                      · have mh93 := zk_t mc94 mh93
                                        have mc94n := mc94
                                        (try simp only [i32_lt, i32_le, i32_e, z32_0, z32_1] at mc94n)
                                        first
                                        | (exfalso; omega)
                                        | simp only [Option.some.injEq, Prod.mk.injEq] at mh93
                                          obtain ⟨rfl, _⟩ := mh93
                                          have mh82 := zk_t rfl mh82
                                          simp only [Option.some.injEq, Prod.mk.injEq] at mh82
                                          obtain ⟨rfl, _⟩ := mh82
                                          replace k := zk_f (by decide) k
                                          replace h := Option.some.inj h
                                          replace k := Option.some.inj k
                                          subst h
                                          subst k
                                          try dsimp only
                                          all_goals first
                                          | (exfalso; omega)
                                          | exact rfl
                                          | ((try dsimp only); rw [ix60 hx5 (by omega), he x2.toNatClampNeg (by rw [tcn]; omega)])
                                      · have mh93 := zk_f mc94 mh93
                                        have mc94n := mc94
                                        (try simp only [i32_lt, i32_le, i32_e, z32_0, z32_1] at mc94n)
                                        first
                                        | (exfalso; omega)
                                        | simp only [Option.some.injEq, Prod.mk.injEq] at mh93
                                          obtain ⟨rfl, _⟩ := mh93
                                          have mh82 := zk_f (by decide) mh82
                                          simp only [Option.some.injEq, Prod.mk.injEq] at mh82
                                          obtain ⟨rfl, _⟩ := mh82
                                          replace k := zk_t (Int32.le_refl _) k
                                          replace k := zk_gd k
                                          obtain ⟨_, k⟩ := k
                                          replace h := Option.some.inj h
                                          replace k := Option.some.inj k
                                          subst h
                                          subst k
                                          try dsimp only
                                          all_goals first
                                          | (exfalso; omega)
                                          | exact rfl
                                          | ((try dsimp only); rw [ix60 hx5 (by omega), he x2.toNatClampNeg (by rw [tcn]; omega)])
                                  · have mh82 := zk_f mc90 mh82
                                    have mc90n := mc90
                                    (try simp only [i32_lt, i32_le, i32_e, z32_0, z32_1] at mc90n)
                                    first
                                    | (exfalso; omega)
                                    | simp only [Option.some.injEq, Prod.mk.injEq] at mh82
                                      obtain ⟨rfl, _⟩ := mh82
                                      replace k := zk_f (by decide) k
                                      replace h := Option.some.inj h
                                      replace k := Option.some.inj k
                                      subst h
                                      subst k
                                      try dsimp only
                                      all_goals first
                                      | (exfalso; omega)
                                      | exact rfl
                                      | ((try dsimp only); rw [ix60 hx5 (by omega), he x2.toNatClampNeg (by rw [tcn]; omega)])
                          · have ch13 := zk_f cc16 ch13
                            have cc16n := cc16
                            (try simp only [i32_lt, i32_le, i32_e, z32_0, z32_1] at cc16n)
                            first
                            | (exfalso; omega)
                            | simp only [Option.some.injEq, Prod.mk.injEq] at ch13
                              obtain ⟨rfl, _⟩ := ch13
                              have ch8 := zk_f (by decide) ch8
                              simp only [Option.some.injEq, Prod.mk.injEq] at ch8
                              obtain ⟨rfl, _⟩ := ch8
                              replace h := zk_t (Int32.le_refl _) h
                              replace h := zk_gd h
                              obtain ⟨_, h⟩ := h
                              have hjj := hj ⟨cc4, cc5⟩
                              subst hjj
                              obtain ⟨⟨hs1, hs2, hs3⟩, he, hd⟩ := id hP
                              have hx5 : 0 ≤ x1.toInt ∧ x1.toInt ≤ 5 := by
                                have q1 := cc4
                                have q2 := cc5
                                rw [i32_lt, z32_0] at q1
                                rw [i32_le, z32L_6] at q2
                                omega
                              have hsz := i32_m1 (a := mod_size x1.toNatClampNeg) (by rw [hs1]; omega)
                              have hsz2 : (mod_size x1.toNatClampNeg).toInt = pl_size.toInt := by rw [hs1]
                              unfold B_X12_element_0 at k
                              replace k := zk_o2 k
                              obtain ⟨mv95, mv96, mh97, k⟩ := k
                              unfold f_X12_whyNoPlace at mh97
                              unfold B_X12_whyNoPlace_0 at mh97
                              obtain ⟨mv98, mv99, mh100, mh97⟩ := zk_o2 mh97
                              unfold f_X12_isShelf at mh100
                              unfold B_X12_isShelf_0 at mh100
                              obtain ⟨mv101, mv102, mh103, mh100⟩ := zk_o2 mh100
                              unfold f_X12_in at mh103
                              unfold B_X12_in_0 at mh103
                              have mh103 := zk_f cc4 mh103
                              have mh103 := zk_f (by (try simp only [i32_lt, i32_le, i32_e, z32_0, z32_1, z32L_5]); omega) mh103
                              simp only [Option.some.injEq, Prod.mk.injEq] at mh103
                              obtain ⟨rfl, _⟩ := mh103
                              obtain ⟨_, mh100⟩ := zk_gd mh100
                              simp only [Option.some.injEq, Prod.mk.injEq] at mh100
                              obtain ⟨rfl, _⟩ := mh100
                              have mh97 := zk_f (by decide) mh97
                              obtain ⟨_, mh97⟩ := zk_gd mh97
                              by_cases mc104 : (mod_holds x1.toNatClampNeg) = (-1 : Int32)
                              · have mh97 := zk_t mc104 mh97
                                have mc104n := mc104
                                (try simp only [i32_lt, i32_le, i32_e, z32_0, z32_1, z32N_1] at mc104n)
                                first
                                | (exfalso; omega)
                                | simp only [Option.some.injEq, Prod.mk.injEq] at mh97
                                  obtain ⟨rfl, _⟩ := mh97
                                  replace k := zk_f (by decide) k
                                  replace h := Option.some.inj h
                                  replace k := Option.some.inj k
                                  subst h
                                  subst k
                                  try dsimp only
                                  all_goals first
                                  | (exfalso; omega)
                                  | exact rfl
                                  | ((try dsimp only); rw [ix60 hx5 (by omega), he x2.toNatClampNeg (by rw [tcn]; omega)])
                              · have mh97 := zk_f mc104 mh97
                                have mc104n := mc104
                                (try simp only [i32_lt, i32_le, i32_e, z32_0, z32_1, z32N_1] at mc104n)
                                first
                                | (exfalso; omega)
                                | obtain ⟨_, mh97⟩ := zk_gd mh97
                                  by_cases mc105 : (mod_holds x1.toNatClampNeg) < 0
                                  · have mh97 := zk_t mc105 mh97
                                    have mc105n := mc105
                                    (try simp only [i32_lt, i32_le, i32_e, z32_0, z32_1] at mc105n)
                                    first
                                    | (exfalso; omega)
                                    | obtain ⟨_, mh97⟩ := zk_gd mh97
                                      obtain ⟨mv106, mv107, mh108, mh97⟩ := zk_o2 mh97
                                      unfold f_X12_in at mh108
                                      unfold B_X12_in_0 at mh108
                                      have mh108 := zk_f cc14 mh108
                                      by_cases mc109 : ((mod_size x1.toNatClampNeg) - (1 : Int32)) < x2
                                      · have mh108 := zk_t mc109 mh108
                                        have mc109n := mc109
                                        (try simp only [i32_lt, i32_le, i32_e, z32_0, z32_1] at mc109n)
                                        first
                                        | (exfalso; omega)
                                        | simp only [Option.some.injEq, Prod.mk.injEq] at mh108
                                          obtain ⟨rfl, _⟩ := mh108
                                          have mh97 := zk_t rfl mh97
                                          simp only [Option.some.injEq, Prod.mk.injEq] at mh97
                                          obtain ⟨rfl, _⟩ := mh97
                                          replace k := zk_f (by decide) k
                                          replace h := Option.some.inj h
                                          replace k := Option.some.inj k
                                          subst h
                                          subst k
                                          try dsimp only
                                          all_goals first
                                          | (exfalso; omega)
                                          | exact rfl
                                          | ((try dsimp only); rw [ix60 hx5 (by omega), he x2.toNatClampNeg (by rw [tcn]; omega)])
                                      · have mh108 := zk_f mc109 mh108
                                        have mc109n := mc109
                                        (try simp only [i32_lt, i32_le, i32_e, z32_0, z32_1] at mc109n)
                                        first
                                        | (exfalso; omega)
                                        | simp only [Option.some.injEq, Prod.mk.injEq] at mh108
                                          obtain ⟨rfl, _⟩ := mh108
                                          have mh97 := zk_f (by decide) mh97
                                          simp only [Option.some.injEq, Prod.mk.injEq] at mh97
                                          obtain ⟨rfl, _⟩ := mh97
                                          replace k := zk_t (Int32.le_refl _) k
                                          replace k := zk_gd k
                                          obtain ⟨_, k⟩ := k
                                          replace h := Option.some.inj h
                                          replace k := Option.some.inj k
                                          subst h
                                          subst k
                                          try dsimp only
                                          all_goals first
                                          | (exfalso; omega)
                                          | exact rfl
                                          | ((try dsimp only); rw [ix60 hx5 (by omega), he x2.toNatClampNeg (by rw [tcn]; omega)])
                                  · have mh97 := zk_f mc105 mh97
                                    have mc105n := mc105
                                    (try simp only [i32_lt, i32_le, i32_e, z32_0, z32_1] at mc105n)
                                    first
                                    | (exfalso; omega)
                                    | simp only [Option.some.injEq, Prod.mk.injEq] at mh97
                                      obtain ⟨rfl, _⟩ := mh97
                                      replace k := zk_f (by decide) k
                                      replace h := Option.some.inj h
                                      replace k := Option.some.inj k
                                      subst h
                                      subst k
                                      try dsimp only
                                      all_goals first
                                      | (exfalso; omega)
                                      | exact rfl
                                      | ((try dsimp only); rw [ix60 hx5 (by omega), he x2.toNatClampNeg (by rw [tcn]; omega)])
