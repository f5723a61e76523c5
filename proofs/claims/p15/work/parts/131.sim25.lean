
set_option maxHeartbeats 4000000 in
set_option maxRecDepth 20000 in
theorem m5_lay {mod_code : Int32} {court_shoeCount : Int32} {mod_claims : Int32} {ts : Int32} {court_suitCount : Int32} {mod_doneMany : Int32} {mod_undoneMany : Int32} {mod_isBoth : Int32} {mod_wished : Int32} {mod_bestMany : Int32} {mod_bestRow : Int32} {mod_ringDigits : Int32} {mod_traces : Int32} {he g o l : Int32} {ac wi : Nat → Int32} {x1 x2 : Int32} {R : Int32 × (Nat → Int32) × (Nat → Int32)} (hx : 0 ≤ x1.toInt ∧ x1.toInt ≤ 127) (hl : 0 ≤ l.toInt ∧ l.toInt ≤ 1000) (h : f_X12_lay x1 x2 mod_code court_shoeCount mod_claims ts he g court_suitCount mod_doneMany mod_undoneMany o l mod_isBoth mod_wished mod_bestMany mod_bestRow mod_ringDigits mod_traces ac wi = some R) : R.1.toInt = l.toInt + 1 ∧ R.1 = l + 1 ∧ R.2.1 = upd ac (4160 + l.toInt.toNat) x1 ∧ R.2.2 = upd wi (4160 + l.toInt.toNat) x2 := by
  unfold f_X12_lay B_X12_lay_0 at h
  replace h := zk_lt h
  obtain ⟨v1, e1, h⟩ := h
  replace h := zk_gd h
  obtain ⟨_, h⟩ := h
  replace h := zk_lt h
  obtain ⟨v2, e2, h⟩ := h
  replace h := zk_gd h
  obtain ⟨_, h⟩ := h
  replace h := zk_lt h
  obtain ⟨v3, e3, h⟩ := h
  replace h := zk_lt h
  obtain ⟨v4, e4, h⟩ := h
  replace h := Option.some.inj h
  have ei : ((4160 : Int32) + l).toNatClampNeg = 4160 + l.toInt.toNat := by
    have e0 : (4160 : Int32).toInt = 4160 := by decide
    show ((4160 : Int32) + l).toInt.toNat = _
    rw [Int32.toInt_add, e0, Int.bmod_eq_of_le (by omega) (by omega)]
    omega
  have ev : vp_nar .byte v1 = x1 := by
    apply Int32.toInt_inj.mp
    exact zn_byteE e1 ⟨by omega, by omega⟩
  subst e2
  subst e3
  subst e4
  rw [← h, ei, ev]
  exact ⟨i32_s (by omega), rfl, rfl, rfl⟩
set_option maxHeartbeats 4000000 in
set_option maxRecDepth 20000 in
theorem m5_open {mod_code : Int32} {court_shoeCount : Int32} {mod_claims : Int32} {ts : Int32} {court_suitCount : Int32} {mod_doneMany : Int32} {mod_undoneMany : Int32} {mod_isBoth : Int32} {mod_wished : Int32} {mod_bestMany : Int32} {mod_bestRow : Int32} {mod_ringDigits : Int32} {mod_traces : Int32} {he g o l : Int32} {R : Int32 × Int32 × Int32 × Int32} (hg : g.toInt < 0) (ho : 0 ≤ o.toInt ∧ o.toInt ≤ 6) (h : f_X12_opensOne mod_code court_shoeCount mod_claims ts he g court_suitCount mod_doneMany mod_undoneMany o l mod_isBoth mod_wished mod_bestMany mod_bestRow mod_ringDigits mod_traces = some R) : (o.toInt < 6 ∧ R = (1, he + 1, g, o + 1)) ∨ (6 ≤ o.toInt ∧ R = (0, he, he, o)) := by
  unfold f_X12_opensOne B_X12_opensOne_0 at h
  have e6 : (6 : Int32).toInt = 6 := by decide
  by_cases c1 : o = 6
  · replace h := zk_t c1 h
    replace h := zk_o1 h
    obtain ⟨u, a1, h⟩ := h
    rcases mb_wrong a1 with ⟨_, e⟩ | ⟨e, _⟩
    · subst e
      exact Or.inr ⟨by rw [c1]; decide, (Option.some.inj h).symm⟩
    · omega
  · replace h := zk_f c1 h
    rw [i32_e, e6] at c1
    replace h := zk_lt h
    obtain ⟨v1, e1, h⟩ := h
    replace h := zk_lt h
    obtain ⟨v2, e2, h⟩ := h
    subst e1
    subst e2
    exact Or.inl ⟨by omega, (Option.some.inj h).symm⟩
set_option maxHeartbeats 4000000 in
set_option maxRecDepth 20000 in
theorem c5_numL {ts : Int32} {tb : Nat → Int32} {sz f : Int32} {cd : Nat → Int32} (hT : TS ts) : ∀ (n k : Nat) (x1 x2 a : Int32) (R : Int32 × Int32 × (Nat → Int32)), 4 = x2.toInt + (k : Int) → 0 ≤ x2.toInt → G_X5_readNumber ts tb f n x1 x2 sz a cd = some R → ∃ e c, f_X5_emit (((nmr ts tb k x1 a).1 <<< ((5 : Int32) &&& 31)) ||| (0 : Int32)) sz (nmr ts tb k x1 a).2 f cd = some (e, c) ∧ R = (e, (nmr ts tb k x1 a).2, c) := by
  intro n
  induction n with
  | zero => intro k x1 x2 a R h1 h2 h; cases h
  | succ n ih =>
    intro k x1 x2 a R h1 h2 h
    replace h : B_X5_readNumber_4 (G_X5_readNumber ts tb f n) ts tb f x1 x2 sz a cd = some R := h
    unfold B_X5_readNumber_4 at h
    have e4 : (4 : Int32).toInt = 4 := by decide
    cases k with
    | zero =>
      replace h := zk_t (show (4 : Int32) ≤ x2 by rw [i32_le, e4]; omega) h
      unfold B_X5_readNumber_59 at h
      replace h := zk_o2 h
      obtain ⟨e, c, h1, h⟩ := h
      exact ⟨e, c, h1, (Option.some.inj h).symm⟩
    | succ k =>
      replace h := zk_f (show ¬ (4 : Int32) ≤ x2 by rw [i32_le, e4]; omega) h
      replace h := zk_o2 h
      obtain ⟨r1, u1, a1, h⟩ := h
      rcases cb_dig hT a1 with ⟨d1, d2, rfl⟩ | ⟨d1, rfl⟩
      · replace h := zk_f (by decide) h
        replace h := zk_o2 h
        obtain ⟨r2, u2, a2, h⟩ := h
        have e := cb_byte hT a2
        subst e
        replace h := zk_lt h
        obtain ⟨v1, e1, h⟩ := h
        replace h := zk_lt h
        obtain ⟨v2, e2, h⟩ := h
        replace h := zk_lt h
        obtain ⟨v3, e3, h⟩ := h
        subst e1
        subst e2
        subst e3
        have e5 := i32_s (a := x2) (by omega)
        have hn : nmr ts tb (k + 1) x1 a = nmr ts tb k (x1 * 10 + bz ts tb a - 48) (a + 1) := by
          show (if 48 ≤ bZ ts tb a ∧ bZ ts tb a ≤ 57 then nmr ts tb k (x1 * 10 + bz ts tb a - 48) (a + 1) else (x1, a)) = _
          rw [if_pos ⟨d1, d2⟩]
        rw [hn]
        exact ih k _ _ _ R (by omega) (by omega) h
      · replace h := zk_t rfl h
        have hn : nmr ts tb (k + 1) x1 a = (x1, a) := by
          show (if 48 ≤ bZ ts tb a ∧ bZ ts tb a ≤ 57 then nmr ts tb k (x1 * 10 + bz ts tb a - 48) (a + 1) else (x1, a)) = _
          rw [if_neg (fun z => by omega)]
        rw [hn]
        unfold B_X5_readNumber_59 at h
        replace h := zk_o2 h
        obtain ⟨e, c, h1, h⟩ := h
        exact ⟨e, c, h1, (Option.some.inj h).symm⟩
set_option maxHeartbeats 4000000 in
set_option maxRecDepth 20000 in
theorem m5_fig74 {mod_code : Int32} {court_shoeCount : Int32} {mod_claims : Int32} {ts : Int32} {court_suitCount : Int32} {mod_doneMany : Int32} {mod_undoneMany : Int32} {mod_isBoth : Int32} {mod_wished : Int32} {mod_bestMany : Int32} {mod_bestRow : Int32} {mod_ringDigits : Int32} {mod_traces : Int32} {tm : Nat → Int32} {G : Int32 → Int32 → Int32 → Int32 → Int32 → (Nat → Int32) → (Nat → Int32) → (Option (Int32 × Int32 × Int32 × (Nat → Int32) × (Nat → Int32)))} {he g o l : Int32} {ac wi : Nat → Int32} {x1 : Int32} {R : Int32 × Int32 × Int32 × (Nat → Int32) × (Nat → Int32)} (hl : 0 ≤ l.toInt ∧ l.toInt ≤ 1000) (h : B_X12_figure_74 G mod_code court_shoeCount mod_claims ts court_suitCount mod_doneMany mod_undoneMany o mod_isBoth mod_wished mod_bestMany mod_bestRow mod_ringDigits mod_traces tm x1 he g l ac wi = some R) : R.1 = he ∧ R.2.1 = g ∧ R.2.2.1.toInt = l.toInt + 1 ∧ R.2.2.1 = l + 1 ∧ R.2.2.2.1 = upd ac (4160 + l.toInt.toNat) 1 ∧ R.2.2.2.2 = upd wi (4160 + l.toInt.toNat) x1 := by
  unfold B_X12_figure_74 at h
  replace h := zk_o3 h
  obtain ⟨v1, v2, v3, h1, h⟩ := h
  replace h := Option.some.inj h
  rw [← h]
  obtain ⟨q1, q2, q3, q4⟩ := m5_lay ⟨by decide, by decide⟩ hl h1
  exact ⟨rfl, rfl, q1, q2, q3, q4⟩
set_option maxHeartbeats 4000000 in
set_option maxRecDepth 20000 in
theorem m5_fig70 {mod_code : Int32} {court_shoeCount : Int32} {mod_claims : Int32} {ts : Int32} {court_suitCount : Int32} {mod_doneMany : Int32} {mod_undoneMany : Int32} {mod_isBoth : Int32} {mod_wished : Int32} {mod_bestMany : Int32} {mod_bestRow : Int32} {mod_ringDigits : Int32} {mod_traces : Int32} {tm : Nat → Int32} {G : Int32 → Int32 → Int32 → Int32 → Int32 → (Nat → Int32) → (Nat → Int32) → (Option (Int32 × Int32 × Int32 × (Nat → Int32) × (Nat → Int32)))} {he g o l : Int32} {ac wi : Nat → Int32} {x1 : Int32} {R : Int32 × Int32 × Int32 × (Nat → Int32) × (Nat → Int32)} (hg : g.toInt < 0) (hl : 0 ≤ l.toInt ∧ l.toInt ≤ 1000) (h : B_X12_figure_70 G mod_code court_shoeCount mod_claims ts court_suitCount mod_doneMany mod_undoneMany o mod_isBoth mod_wished mod_bestMany mod_bestRow mod_ringDigits mod_traces tm x1 he g l ac wi = some R) : R.1 = he ∧ R.2.1 = he ∧ R.2.2.1.toInt = l.toInt + 1 ∧ R.2.2.1 = l + 1 ∧ R.2.2.2.1 = upd ac (4160 + l.toInt.toNat) 1 ∧ R.2.2.2.2 = upd wi (4160 + l.toInt.toNat) x1 := by
  unfold B_X12_figure_70 at h
  replace h := zk_o1 h
  obtain ⟨u, h1, h⟩ := h
  obtain ⟨q1, q2, q3⟩ := m5_fig74 hl h
  rcases mb_wrong h1 with ⟨_, e⟩ | ⟨e, _⟩
  · exact ⟨q1, q2.trans e, q3⟩
  · omega
set_option maxHeartbeats 4000000 in
set_option maxRecDepth 20000 in
theorem m5_fig52 {mod_code : Int32} {court_shoeCount : Int32} {mod_claims : Int32} {ts : Int32} {court_suitCount : Int32} {mod_doneMany : Int32} {mod_undoneMany : Int32} {mod_isBoth : Int32} {mod_wished : Int32} {mod_bestMany : Int32} {mod_bestRow : Int32} {mod_ringDigits : Int32} {mod_traces : Int32} {tm : Nat → Int32} {tb : Nat → Int32} {G : Int32 → Int32 → Int32 → Int32 → Int32 → (Nat → Int32) → (Nat → Int32) → (Option (Int32 × Int32 × Int32 × (Nat → Int32) × (Nat → Int32)))} {he g o l : Int32} {ac wi : Nat → Int32} {x1 x2 : Int32} {R : Int32 × Int32 × Int32 × (Nat → Int32) × (Nat → Int32)} (hT : TS ts) (hR : TR ts tb tm) (hp : PB ts he) (hg : g.toInt < 0) (hl : 0 ≤ l.toInt ∧ l.toInt ≤ 1000) (h : B_X12_figure_52 G mod_code court_shoeCount mod_claims ts court_suitCount mod_doneMany mod_undoneMany o mod_isBoth mod_wished mod_bestMany mod_bestRow mod_ringDigits mod_traces tm x1 x2 he g l ac wi = some R) : R.1 = he ∧ ((x2 = 0 ∨ (48 ≤ bZ ts tb he ∧ bZ ts tb he ≤ 57)) → R.2.1 = he) ∧ (¬ (x2 = 0 ∨ (48 ≤ bZ ts tb he ∧ bZ ts tb he ≤ 57)) → R.2.1 = g) ∧ R.2.2.1.toInt = l.toInt + 1 ∧ R.2.2.1 = l + 1 ∧ R.2.2.2.1 = upd ac (4160 + l.toInt.toNat) 1 ∧ R.2.2.2.2 = upd wi (4160 + l.toInt.toNat) x1 := by
  unfold B_X12_figure_52 at h
  by_cases c1 : x2 = 0
  · replace h := zk_t c1 h
    obtain ⟨q1, q2, q3⟩ := m5_fig70 hg hl h
    exact ⟨q1, fun _ => q2, fun z => absurd (Or.inl c1) z, q3⟩
  · replace h := zk_f c1 h
    replace h := zk_o2 h
    obtain ⟨r1, u1, a1, h⟩ := h
    have hb1 := mb_look hT hR hp a1
    replace h := zk_o2 h
    obtain ⟨r2, u2, a2, h⟩ := h
    rw [pe_in] at a2
    have e2 := congrArg Prod.fst (Option.some.inj a2)
    dsimp only at e2
    have e48 : (48 : Int32).toInt = 48 := by decide
    have e57 : (57 : Int32).toInt = 57 := by decide
    have hi := BR_i hb1 48 57 (by decide) (by decide)
    have hbz : bZ ts tb he = (bz ts tb he).toInt := rfl
    rw [← hbz] at hi
    by_cases c : 48 ≤ bZ ts tb he ∧ bZ ts tb he ≤ 57
    · have hr := hi.mpr c
      rw [if_neg (by rw [i32_lt, i32_lt, e48, e57]; omega)] at e2
      subst e2
      replace h := zk_f (by decide) h
      obtain ⟨q1, q2, q3⟩ := m5_fig70 hg hl h
      exact ⟨q1, fun _ => q2, fun z => absurd (Or.inr c) z, q3⟩
    · have hr := fun z => c (hi.mp z)
      rw [if_pos (by rw [i32_lt, i32_lt, e48, e57]; omega)] at e2
      subst e2
      replace h := zk_t rfl h
      obtain ⟨q1, q2, q3⟩ := m5_fig74 hl h
      exact ⟨q1, fun z => z.elim (fun y => absurd y c1) (fun y => absurd y c), fun _ => q2, q3⟩
set_option maxHeartbeats 4000000 in
set_option maxRecDepth 20000 in
theorem m5_figL {mod_code : Int32} {court_shoeCount : Int32} {mod_claims : Int32} {ts : Int32} {court_suitCount : Int32} {mod_doneMany : Int32} {mod_undoneMany : Int32} {mod_isBoth : Int32} {mod_wished : Int32} {mod_bestMany : Int32} {mod_bestRow : Int32} {mod_ringDigits : Int32} {mod_traces : Int32} {tm : Nat → Int32} {tb : Nat → Int32} {g o l : Int32} {ac wi : Nat → Int32} (hT : TS ts) (hR : TR ts tb tm) (hg : g.toInt < 0) (hl : 0 ≤ l.toInt ∧ l.toInt ≤ 1000) : ∀ (n k : Nat) (x1 x2 he : Int32) (R : Int32 × Int32 × Int32 × (Nat → Int32) × (Nat → Int32)), 4 = x2.toInt + (k : Int) → 0 ≤ x2.toInt → PB ts he → G_X12_figure mod_code court_shoeCount mod_claims ts court_suitCount mod_doneMany mod_undoneMany o mod_isBoth mod_wished mod_bestMany mod_bestRow mod_ringDigits mod_traces tm n x1 x2 he g l ac wi = some R → R.1 = (nmr ts tb k x1 he).2 ∧ (((x2 = 0 ∧ ¬ (48 ≤ bZ ts tb he ∧ bZ ts tb he ≤ 57)) ∨ (48 ≤ bZ ts tb (nmr ts tb k x1 he).2 ∧ bZ ts tb (nmr ts tb k x1 he).2 ≤ 57)) → R.2.1 = (nmr ts tb k x1 he).2) ∧ (¬ ((x2 = 0 ∧ ¬ (48 ≤ bZ ts tb he ∧ bZ ts tb he ≤ 57)) ∨ (48 ≤ bZ ts tb (nmr ts tb k x1 he).2 ∧ bZ ts tb (nmr ts tb k x1 he).2 ≤ 57)) → R.2.1 = g) ∧ R.2.2.1.toInt = l.toInt + 1 ∧ R.2.2.1 = l + 1 ∧ R.2.2.2.1 = upd ac (4160 + l.toInt.toNat) 1 ∧ R.2.2.2.2 = upd wi (4160 + l.toInt.toNat) (nmr ts tb k x1 he).1 := by
  intro n
  induction n with
  | zero => intro k x1 x2 he R h1 h2 hp h; cases h
  | succ n ih =>
    intro k x1 x2 he R h1 h2 hp h
    replace h : B_X12_figure_4 (G_X12_figure mod_code court_shoeCount mod_claims ts court_suitCount mod_doneMany mod_undoneMany o mod_isBoth mod_wished mod_bestMany mod_bestRow mod_ringDigits mod_traces tm n) mod_code court_shoeCount mod_claims ts court_suitCount mod_doneMany mod_undoneMany o mod_isBoth mod_wished mod_bestMany mod_bestRow mod_ringDigits mod_traces tm x1 x2 he g l ac wi = some R := h
    unfold B_X12_figure_4 at h
    have e4 : (4 : Int32).toInt = 4 := by decide
    cases k with
    | zero =>
      replace h := zk_t (show (4 : Int32) ≤ x2 by rw [i32_le, e4]; omega) h
      have n0 : ¬ x2 = 0 := by rw [i32_e, z32_0]; omega
      obtain ⟨q1, q2, q3, q4⟩ := m5_fig52 hT hR hp hg hl h
      exact ⟨q1, fun z => q2 (z.elim (fun y => absurd y.1 n0) Or.inr), fun z => q3 (fun y => y.elim (fun w => n0 w) (fun w => z (Or.inr w))), q4⟩
    | succ k =>
      replace h := zk_f (show ¬ (4 : Int32) ≤ x2 by rw [i32_le, e4]; omega) h
      replace h := zk_o2 h
      obtain ⟨r1, u1, a1, h⟩ := h
      have hb1 := mb_look hT hR hp a1
      replace h := zk_o2 h
      obtain ⟨r2, u2, a2, h⟩ := h
      rw [pe_in] at a2
      have e2 := congrArg Prod.fst (Option.some.inj a2)
      dsimp only at e2
      have e48 : (48 : Int32).toInt = 48 := by decide
      have e57 : (57 : Int32).toInt = 57 := by decide
      have hi := BR_i hb1 48 57 (by decide) (by decide)
      have hbz : bZ ts tb he = (bz ts tb he).toInt := rfl
      rw [← hbz] at hi
      by_cases c : 48 ≤ bZ ts tb he ∧ bZ ts tb he ≤ 57
      · have hr := hi.mpr c
        rw [if_neg (by rw [i32_lt, i32_lt, e48, e57]; omega)] at e2
        subst e2
        replace h := zk_f (by decide) h
        replace h := zk_o2 h
        obtain ⟨r3, u3, a3, h⟩ := h
        have hb3 := mb_look hT hR hp a3
        have er : r3 = bz ts tb he := by
          rcases hb3 with ⟨_, _, e⟩ | ⟨e, _⟩
          · exact e
          · omega
        subst er
        replace h := zk_lt h
        obtain ⟨v1, e1, h⟩ := h
        replace h := zk_lt h
        obtain ⟨v2, e2, h⟩ := h
        replace h := zk_lt h
        obtain ⟨v3, e3, h⟩ := h
        subst e1
        subst e2
        subst e3
        have e5 := i32_s (a := x2) (by omega)
        have hn : nmr ts tb (k + 1) x1 he = nmr ts tb k ((10 : Int32) * x1 + bz ts tb he - 48) (he + 1) := by
          show (if 48 ≤ bZ ts tb he ∧ bZ ts tb he ≤ 57 then nmr ts tb k (x1 * 10 + bz ts tb he - 48) (he + 1) else (x1, he)) = _
          rw [if_pos c, Int32.mul_comm]
        have n0 : ¬ (x2 + 1 : Int32) = 0 := by rw [i32_e, z32_0]; omega
        rw [hn]
        obtain ⟨q1, q2, q3, q4⟩ := ih k _ _ _ R (by omega) (by omega) (PB_s (tb := tb) hT hp (by omega)) h
        exact ⟨q1, fun z => q2 (z.elim (fun y => absurd c y.2) Or.inr), fun z => q3 (fun y => y.elim (fun w => n0 w.1) (fun w => z (Or.inr w))), q4⟩
      · have hr := fun z => c (hi.mp z)
        rw [if_pos (by rw [i32_lt, i32_lt, e48, e57]; omega)] at e2
        subst e2
        replace h := zk_t rfl h
        have hn : nmr ts tb (k + 1) x1 he = (x1, he) := by
          show (if 48 ≤ bZ ts tb he ∧ bZ ts tb he ≤ 57 then nmr ts tb k (x1 * 10 + bz ts tb he - 48) (he + 1) else (x1, he)) = _
          rw [if_neg c]
        rw [hn]
        obtain ⟨q1, q2, q3, q4⟩ := m5_fig52 hT hR hp hg hl h
        exact ⟨q1, fun z => q2 (z.elim (fun y => Or.inl y.1) (fun y => absurd y c)), fun z => q3 (fun y => y.elim (fun w => z (Or.inl ⟨w, c⟩)) (fun w => absurd w c)), q4⟩
set_option maxHeartbeats 4000000 in
set_option maxRecDepth 20000 in
theorem c5_step {ts : Int32} {tb : Nat → Int32} {rL : Int32 → Int32 → Int32 → (Nat → Int32) → Int32 → Int32 → Int32 → (Nat → Int32) → (Option (Int32 × Int32 × Int32 × (Nat → Int32)))} {rO : Int32 → Int32 → (Nat → Int32) → Int32 → Int32 → Int32 → (Nat → Int32) → (Option (Int32 × Int32 × Int32 × (Nat → Int32)))} {n : Nat} {lv o x3 sz a f : Int32} {cd : Nat → Int32} {R : Int32 × Int32 × Int32 × (Nat → Int32)} (hT : TS ts) (hl : 0 ≤ lv.toInt ∧ lv.toInt ≤ 4) (h : G_X5_readLevel rL rO ts tb (n + 1) lv o x3 sz a f cd = some R) : (R = (sz, a, f, cd) ∧ (120 ≤ x3.toInt ∨ 0 ≤ f.toInt ∨ ¬ sgn lv (bZ ts tb a))) ∨ (x3.toInt < 120 ∧ f.toInt < 0 ∧ sgn lv (bZ ts tb a) ∧ ∃ u1 u2 u3 u4 e1 e2, rL (lv + 1) o ts tb sz (a + 1) f cd = some (u1, u2, u3, u4) ∧ f_X5_emit (enc (bz ts tb a, 0)) u1 u2 u3 u4 = some (e1, e2) ∧ (lv = 2 → R = (e1, u2, u3, e2)) ∧ (¬ lv = 2 → G_X5_readLevel rL rO ts tb n lv o (x3 + 1) e1 u2 u3 e2 = some R)) := by
  replace h : B_X5_readLevel_21 rL rO (G_X5_readLevel rL rO ts tb n) ts tb lv o x3 sz a f cd = some R := h
  unfold B_X5_readLevel_21 at h
  have e120 : (120 : Int32).toInt = 120 := by decide
  by_cases c1 : (120 : Int32) ≤ x3
  · replace h := (Option.some.inj (zk_t c1 h)).symm
    rw [i32_le, e120] at c1
    exact Or.inl ⟨h, Or.inl c1⟩
  replace h := zk_f c1 h
  rw [i32_le, e120] at c1
  by_cases c2 : 0 ≤ f
  · replace h := (Option.some.inj (zk_t c2 h)).symm
    rw [i32_le, z32_0] at c2
    exact Or.inl ⟨h, Or.inr (Or.inl c2)⟩
  replace h := zk_f c2 h
  rw [i32_le, z32_0] at c2
  replace h := zk_o2 h
  obtain ⟨r1, w1, a1, h⟩ := h
  rcases c5_op hT hl a1 with ⟨hs, e⟩ | ⟨hs, e⟩
  · have e0 : 0 ≤ r1 := by
      rw [e]
      have hk := sgn_tk (show sgn lv (bz ts tb a).toInt from hs)
      unfold enc
      rw [if_neg hk.2.1, if_neg hk.2.2.1, if_neg hk.2.2.2.1, if_neg hk.2.2.2.2]
      repeat' split
      all_goals decide
    replace h := zk_t e0 h
    replace h := zk_lt h
    obtain ⟨v1, e1, h⟩ := h
    subst e1
    replace h := zk_o4 h
    obtain ⟨u1, u2, u3, u4, a2, h⟩ := h
    replace h := zk_o2 h
    obtain ⟨g1, g2, a3, h⟩ := h
    rw [e] at a3
    refine Or.inr ⟨by omega, by omega, hs, u1, u2, u3, u4, g1, g2, a2, a3, fun k => ?_, fun k => ?_⟩
    · exact (Option.some.inj (zk_t k h)).symm
    · replace h := zk_f k h
      replace h := zk_lt h
      obtain ⟨v2, e2, h⟩ := h
      subst e2
      exact h
  · replace h := zk_f (show ¬ 0 ≤ r1 by rw [e]; decide) h
    exact Or.inl ⟨(Option.some.inj h).symm, Or.inr (Or.inr hs)⟩
/-- one round of a loop of the reference's, with its sub-reader -/
def RSTEP (ts : Int32) (tb : Nat → Int32) (lv : Int32) (GM : Nat → Int32 → Int32 → Int32 → Int32 → (Nat → Int32) → (Nat → Int32) → Option (Int32 × Int32 × Int32 × Int32 × (Nat → Int32) × (Nat → Int32))) (sub : Int32 → Int32 → Int32 → Int32 → (Nat → Int32) → (Nat → Int32) → Option (Int32 × Int32 × Int32 × Int32 × (Nat → Int32) × (Nat → Int32))) : Prop := (∀ he g o l ac wi S, ¬ GM 0 he g o l ac wi = some S) ∧ ∀ m he g o l ac wi S, (g.toInt < 0 → PB ts he) → GM (m + 1) he g o l ac wi = some S → (S = (he, g, o, l, ac, wi) ∧ (0 ≤ g.toInt ∨ ¬ sgn lv (bZ ts tb he))) ∨ (g.toInt < 0 ∧ sgn lv (bZ ts tb he) ∧ ∃ u1 u2 u3 u4 u5 u6 l2 a2 w2, sub (he + 1) g o l ac wi = some (u1, u2, u3, u4, u5, u6) ∧ ((0 ≤ u4.toInt ∧ u4.toInt ≤ 1000) → l2 = u4 + 1 ∧ a2 = upd u5 (4160 + u4.toInt.toNat) (bz ts tb he) ∧ w2 = upd u6 (4160 + u4.toInt.toNat) 0) ∧ GM m u1 u2 u3 l2 a2 w2 = some S)
/-- a sub-reader of the class beside one of the reference's -/
def SUBS (ts : Int32) (tb : Nat → Int32) (kh : Nat) (o : Int32) (cl : Int32 → Int32 → Int32 → (Nat → Int32) → Option (Int32 × Int32 × Int32 × (Nat → Int32))) (sub : Int32 → Int32 → Int32 → Int32 → (Nat → Int32) → (Nat → Int32) → Option (Int32 × Int32 × Int32 × Int32 × (Nat → Int32) × (Nat → Int32))) : Prop := ∀ sz a f cd he g o2 l ac wi R S, LPR ts o sz a f he g o2 l → cl sz a f cd = some R → sub he g o2 l ac wi = some S → LOUT ts tb kh o sz.toInt a.toInt l.toInt cd ac wi R S
theorem LPR_n {ts : Int32} {tb : Nat → Int32} {lv o sz a f he g o2 l : Int32} (hT : TS ts) (h : LPR ts o sz a f he g o2 l) (hs : sgn lv (bZ ts tb a)) : LPR ts o sz (a + 1) f (he + 1) g o2 l ∧ (a + 1).toInt = a.toInt + 1 ∧ a.toInt < ts.toInt := by
  obtain ⟨h1, h2, h3, h4, h5, h6, h7, h8, h9, h10, h11⟩ := h
  have hr := sgn_r hs
  have hp := PB_s (tb := tb) hT h4 (by omega)
  have ht := hT.2
  have ha := h4.2
  have ha0 := h4.1
  have e := i32_s (a := a) (by omega)
  have hp2 := hp.2
  exact ⟨⟨h1, h2, by rw [h3], hp, h5, h6, h7, h8, by omega, h10, by omega⟩, e, by omega⟩
theorem LBAD_sg {ts : Int32} {tb : Nat → Int32} {lv a f g : Int32} (h : LBAD ts tb a f g) (hf : f.toInt < 0) (hs : sgn lv (bZ ts tb a)) : False := by
  have hr := sgn_r hs
  rcases h with ⟨h1, _⟩ | ⟨_, _, h2, _⟩
  · omega
  · exact hr.2.2 h2
theorem LBAD_g {ts : Int32} {tb : Nat → Int32} {a f g : Int32} (h : LBAD ts tb a f g) : 0 ≤ g.toInt := by
  rcases h with ⟨h1, _, h2⟩ | ⟨_, h1, _, h2⟩
  · rw [h2]
    exact h1
  · rw [h2]
    exact h1.1

set_option maxHeartbeats 4000000 in
set_option maxRecDepth 20000 in
theorem lp_bad {ts : Int32} {tb : Nat → Int32} {rL : Int32 → Int32 → Int32 → (Nat → Int32) → Int32 → Int32 → Int32 → (Nat → Int32) → (Option (Int32 × Int32 × Int32 × (Nat → Int32)))} {rO : Int32 → Int32 → (Nat → Int32) → Int32 → Int32 → Int32 → (Nat → Int32) → (Option (Int32 × Int32 × Int32 × (Nat → Int32)))} {lv o : Int32} {GM : Nat → Int32 → Int32 → Int32 → Int32 → (Nat → Int32) → (Nat → Int32) → Option (Int32 × Int32 × Int32 × Int32 × (Nat → Int32) × (Nat → Int32))} {sub : Int32 → Int32 → Int32 → Int32 → (Nat → Int32) → (Nat → Int32) → Option (Int32 × Int32 × Int32 × Int32 × (Nat → Int32) × (Nat → Int32))} (hT : TS ts) (hl : 0 ≤ lv.toInt ∧ lv.toInt ≤ 4) (hG : RSTEP ts tb lv GM sub) {n m : Nat} {x3 sz a f he g o2 l : Int32} {cd ac wi : Nat → Int32} {R : Int32 × Int32 × Int32 × (Nat → Int32)} {S : Int32 × Int32 × Int32 × Int32 × (Nat → Int32) × (Nat → Int32)} (hb : LBAD ts tb a f g) (h : G_X5_readLevel rL rO ts tb n lv o x3 sz a f cd = some R) (h2 : GM m he g o2 l ac wi = some S) : LBAD ts tb R.2.1 R.2.2.1 S.2.1 := by
  cases n with
  | zero => cases h
  | succ n =>
    cases m with
    | zero => exact absurd h2 (hG.1 _ _ _ _ _ _ _)
    | succ m =>
      have g0 := LBAD_g hb
      rcases hG.2 m _ _ _ _ _ _ _ (fun z => by omega) h2 with ⟨e2, _⟩ | ⟨z, _⟩
      · rcases c5_step hT hl h with ⟨e1, _⟩ | ⟨_, z, hs, _⟩
        · rw [e1, e2]
          exact hb
        · exact (LBAD_sg hb z hs).elim
      · omega
set_option maxHeartbeats 4000000 in
set_option maxRecDepth 20000 in
theorem lp_go {ts : Int32} {tb : Nat → Int32} {rL : Int32 → Int32 → Int32 → (Nat → Int32) → Int32 → Int32 → Int32 → (Nat → Int32) → (Option (Int32 × Int32 × Int32 × (Nat → Int32)))} {rO : Int32 → Int32 → (Nat → Int32) → Int32 → Int32 → Int32 → (Nat → Int32) → (Option (Int32 × Int32 × Int32 × (Nat → Int32)))} {kh : Nat} {lv o : Int32} {GM : Nat → Int32 → Int32 → Int32 → Int32 → (Nat → Int32) → (Nat → Int32) → Option (Int32 × Int32 × Int32 × Int32 × (Nat → Int32) × (Nat → Int32))} {sub : Int32 → Int32 → Int32 → Int32 → (Nat → Int32) → (Nat → Int32) → Option (Int32 × Int32 × Int32 × Int32 × (Nat → Int32) × (Nat → Int32))} (hT : TS ts) (hl : 0 ≤ lv.toInt ∧ lv.toInt ≤ 4) (h2l : ¬ lv = 2) (hG : RSTEP ts tb lv GM sub) (hS : SUBS ts tb kh o (fun sz a f cd => rL (lv + 1) o ts tb sz a f cd) sub) {s0 a0 l0 : Int} {c0 A0 W0 : Nat → Int32} (hs0 : 0 ≤ s0) (hl0 : 0 ≤ l0) : ∀ (n m : Nat) (x3 sz a f he g o2 l : Int32) (cd ac wi : Nat → Int32) (R : Int32 × Int32 × Int32 × (Nat → Int32)) (S : Int32 × Int32 × Int32 × Int32 × (Nat → Int32) × (Nat → Int32)) (L : List (Int32 × Int32)), LPR ts o sz a f he g o2 l → TSG (kh + 1) L → SEGS s0 a0 l0 c0 A0 W0 sz.toInt a.toInt l.toInt cd ac wi L → 0 ≤ x3.toInt → x3.toInt ≤ a.toInt → G_X5_readLevel rL rO ts tb n lv o x3 sz a f cd = some R → GM m he g o2 l ac wi = some S → LOUT ts tb (kh + 1) o s0 a0 l0 c0 A0 W0 R S := by
  intro n
  induction n with
  | zero => intro m x3 sz a f he g o2 l cd ac wi R S L hp hL hg hx0 hx1 h h2; cases h
  | succ n ih =>
    intro m x3 sz a f he g o2 l cd ac wi R S L hp hL hg hx0 hx1 h h2
    cases m with
    | zero => exact absurd h2 (hG.1 _ _ _ _ _ _ _)
    | succ m =>
      have ehe : he = a := hp.2.2.1
      subst ehe
      have hg0 : g.toInt < 0 := hp.2.1
      have hf0 : f.toInt < 0 := hp.1
      have hT2 := hT.2
      by_cases hs : sgn lv (bZ ts tb he)
      · obtain ⟨hn, en, hlt⟩ := LPR_n (tb := tb) hT hp hs
        rcases hG.2 m _ _ _ _ _ _ _ (fun _ => hp.2.2.2.1) h2 with ⟨_, z⟩ | ⟨_, _, u1, u2, u3, u4, u5, u6, l2, a2, w2, k1, k2, k3⟩
        · exact False.elim (z.elim (fun y => by omega) (fun y => y hs))
        rcases c5_step hT hl h with ⟨_, z⟩ | ⟨_, _, _, v1, v2, v3, v4, g1, g2, j1, j2, _, j3⟩
        · exact False.elim (z.elim (fun y => by omega) (fun y => y.elim (fun w => by omega) (fun w => w hs)))
        have j3 := j3 h2l
        have ho := hS _ _ _ _ _ _ _ _ _ _ _ _ hn j1 k1
        rcases ho with ⟨hp2, L2, t2, q2⟩ | hb
        · have hp2 : LPR ts o v1 v2 v3 u1 u2 u3 u4 := hp2
          have q2 : SEGS sz.toInt (he + 1).toInt l.toInt cd ac wi v1.toInt v2.toInt u4.toInt v4 u5 u6 L2 := q2
          obtain ⟨b1, b2, b3, b4, b5, b6, b7, b8, b9, b10, b11⟩ := hp2
          have b4' := b4.2
          have qe := c5_emit j2
          have q3 := q2.2.2.1
          have hsz := hp.2.2.2.2.2.2.2.1
          have hl0' := hp.2.2.2.2.2.2.2.2.2.1
          have qs := q2.1
          have ql := q2.2.1
          have m1 := hp.2.2.2.2.2.2.2.2.1
          have m2 := hp.2.2.2.2.2.2.2.2.2.2
          obtain ⟨x1, x2, x3'⟩ := qe.1 b1 b8 (by omega)
          obtain ⟨y1, y2, y3⟩ := k2 ⟨b10, by omega⟩
          have tk := sgn_tk (show sgn lv (bz ts tb he).toInt from hs)
          have sh := SEGS_sh q2 en
          have d1 := SEGS_tr (s0 := s0) hs0 hl0 (Int.le_refl _) hg sh.1
          have la : a0 + ((L ++ L2).length : Int) + 1 ≤ v2.toInt := by
            have := hg.2.2.1
            have := sh.2
            rw [List.length_append]
            omega
          have el := i32_s (a := u4) (by omega)
          have d2 := SEGS_em (x := (bz ts tb he, (0 : Int32))) (v := enc (bz ts tb he, 0)) (b := bz ts tb he) (w := 0) (s2 := g1.toInt) (l2 := l2.toInt) hs0 hl0 d1 la rfl rfl rfl tk.1 rfl rfl x1 (by rw [y1]; exact el)
          have d3 : SEGS s0 a0 l0 c0 A0 W0 g1.toInt v2.toInt l2.toInt g2 a2 w2 (L ++ (L2 ++ [(bz ts tb he, (0 : Int32))])) := by
            have x3'' : g2 = upd v4 v1.toInt.toNat (enc (bz ts tb he, 0)) := x3'
            rw [x3'', y2, y3, ← List.append_assoc]
            exact d2
          have l1 : l2.toInt = u4.toInt + 1 := by rw [y1]; exact el
          have x1' : g1.toInt = v1.toInt + 1 := x1
          have ex := i32_s (a := x3) (by omega)
          refine ih m (x3 + 1) g1 v2 v3 u1 u2 u3 l2 g2 a2 w2 R S _ ⟨b1, b2, b3, b4, b5, b6, b7, by omega, by omega, by omega, by omega⟩ (TSG_bin hL t2 ⟨tk.2.1, tk.2.2.1, tk.2.2.2.1, tk.2.2.2.2⟩ (Nat.le_refl _) (Nat.le_refl _)) d3 (by omega) (by omega) j3 k3
        · have hb : LBAD ts tb v2 v3 u2 := hb
          exact Or.inr (lp_bad hT hl hG hb j3 k3)
      · rcases hG.2 m _ _ _ _ _ _ _ (fun _ => hp.2.2.2.1) h2 with ⟨e2, _⟩ | ⟨_, z, _⟩
        · rcases c5_step hT hl h with ⟨e1, _⟩ | ⟨_, _, z, _⟩
          · rw [e1, e2]
            exact Or.inl ⟨hp, L, hL, hg⟩
          · exact absurd z hs
        · exact absurd z hs
set_option maxHeartbeats 4000000 in
set_option maxRecDepth 20000 in
theorem rs_either {mod_code : Int32} {court_shoeCount : Int32} {mod_claims : Int32} {ts : Int32} {court_suitCount : Int32} {mod_doneMany : Int32} {mod_undoneMany : Int32} {mod_isBoth : Int32} {mod_wished : Int32} {mod_bestMany : Int32} {mod_bestRow : Int32} {mod_ringDigits : Int32} {mod_traces : Int32} {tm : Nat → Int32} {tb : Nat → Int32} {r_X12_both : Int32 → Int32 → Int32 → Int32 → Int32 → Int32 → Int32 → Int32 → Int32 → Int32 → Int32 → Int32 → Int32 → Int32 → Int32 → Int32 → Int32 → (Nat → Int32) → (Nat → Int32) → (Nat → Int32) → (Option (Int32 × Int32 × Int32 × Int32 × (Nat → Int32) × (Nat → Int32)))} {r_X12_compared : Int32 → Int32 → Int32 → Int32 → Int32 → Int32 → Int32 → Int32 → Int32 → Int32 → Int32 → Int32 → Int32 → Int32 → Int32 → Int32 → Int32 → (Nat → Int32) → (Nat → Int32) → (Nat → Int32) → (Option (Int32 × Int32 × Int32 × Int32 × (Nat → Int32) × (Nat → Int32)))} {r_X12_either : Int32 → Int32 → Int32 → Int32 → Int32 → Int32 → Int32 → Int32 → Int32 → Int32 → Int32 → Int32 → Int32 → Int32 → Int32 → Int32 → Int32 → (Nat → Int32) → (Nat → Int32) → (Nat → Int32) → (Option (Int32 × Int32 × Int32 × Int32 × (Nat → Int32) × (Nat → Int32)))} {r_X12_operand : Int32 → Int32 → Int32 → Int32 → Int32 → Int32 → Int32 → Int32 → Int32 → Int32 → Int32 → Int32 → Int32 → Int32 → Int32 → Int32 → Int32 → (Nat → Int32) → (Nat → Int32) → (Nat → Int32) → (Option (Int32 × Int32 × Int32 × Int32 × (Nat → Int32) × (Nat → Int32)))} {r_X12_product : Int32 → Int32 → Int32 → Int32 → Int32 → Int32 → Int32 → Int32 → Int32 → Int32 → Int32 → Int32 → Int32 → Int32 → Int32 → Int32 → Int32 → (Nat → Int32) → (Nat → Int32) → (Nat → Int32) → (Option (Int32 × Int32 × Int32 × Int32 × (Nat → Int32) × (Nat → Int32)))} {r_X12_sum : Int32 → Int32 → Int32 → Int32 → Int32 → Int32 → Int32 → Int32 → Int32 → Int32 → Int32 → Int32 → Int32 → Int32 → Int32 → Int32 → Int32 → (Nat → Int32) → (Nat → Int32) → (Nat → Int32) → (Option (Int32 × Int32 × Int32 × Int32 × (Nat → Int32) × (Nat → Int32)))} (hT : TS ts) (hR : TR ts tb tm) : RSTEP ts tb 0 (fun m he g o l ac wi => G_X12_either r_X12_both r_X12_compared r_X12_either r_X12_operand r_X12_product r_X12_sum mod_code court_shoeCount mod_claims ts court_suitCount mod_doneMany mod_undoneMany mod_isBoth mod_wished mod_bestMany mod_bestRow mod_ringDigits mod_traces tm m he g o l ac wi) (fun he g o l ac wi => r_X12_both mod_code court_shoeCount mod_claims ts he g court_suitCount mod_doneMany mod_undoneMany o l mod_isBoth mod_wished mod_bestMany mod_bestRow mod_ringDigits mod_traces tm ac wi) := by
  refine ⟨fun he g o l ac wi S h => ?_, fun m he g o l ac wi S hp h => ?_⟩
  · cases h
  · replace h : B_X12_either_4 r_X12_both r_X12_compared r_X12_either r_X12_operand r_X12_product r_X12_sum (G_X12_either r_X12_both r_X12_compared r_X12_either r_X12_operand r_X12_product r_X12_sum mod_code court_shoeCount mod_claims ts court_suitCount mod_doneMany mod_undoneMany mod_isBoth mod_wished mod_bestMany mod_bestRow mod_ringDigits mod_traces tm m) mod_code court_shoeCount mod_claims ts court_suitCount mod_doneMany mod_undoneMany mod_isBoth mod_wished mod_bestMany mod_bestRow mod_ringDigits mod_traces tm he g o l ac wi = some S := h
    unfold B_X12_either_4 at h
    by_cases c1 : 0 ≤ g
    · replace h := (Option.some.inj (zk_t c1 h)).symm
      rw [i32_le, z32_0] at c1
      exact Or.inl ⟨h, Or.inl c1⟩
    replace h := zk_f c1 h
    rw [i32_le, z32_0] at c1
    have hp := hp (by omega)
    replace h := zk_o2 h
    obtain ⟨r0, w0, a0, h⟩ := h
    have hb0 := mb_look hT hR hp a0
    by_cases b0 : r0 = (124 : Int32)
    · replace h := zk_t b0 h
      have ez : bZ ts tb he = 124 := (BR_e hb0 ⟨by decide, by decide, by decide⟩).mp b0
      have eb : bz ts tb he = 124 := Int32.toInt_inj.mp (ez.trans (by decide))
      replace h := zk_lt h
      obtain ⟨v, ev, h⟩ := h
      subst ev
      replace h := zk_o6 h
      obtain ⟨u1, u2, u3, u4, u5, u6, k1, h⟩ := h
      replace h := zk_o3 h
      obtain ⟨l2, a2, w2, k2, h⟩ := h
      refine Or.inr ⟨by omega, Or.inl ⟨rfl, ez⟩, u1, u2, u3, u4, u5, u6, l2, a2, w2, k1, fun hl => ?_, h⟩
      have q := m5_lay ⟨by decide, by decide⟩ hl k2
      rw [eb]
      exact q.2
    replace h := zk_f b0 h
    have n0 : bZ ts tb he ≠ 124 := fun z => b0 ((BR_e hb0 ⟨by decide, by decide, by decide⟩).mpr z)
    refine Or.inl ⟨(Option.some.inj h).symm, Or.inr (fun z => ?_)⟩
    rcases z with ⟨z1, z⟩ | ⟨z1, z⟩ | ⟨z1, z⟩ | ⟨z1, z⟩ | ⟨z1, z⟩
    · omega
    · exact absurd z1 (by decide)
    · exact absurd z1 (by decide)
    · exact absurd z1 (by decide)
    · exact absurd z1 (by decide)
set_option maxHeartbeats 4000000 in
set_option maxRecDepth 20000 in
theorem rf_either {mod_code : Int32} {court_shoeCount : Int32} {mod_claims : Int32} {ts : Int32} {court_suitCount : Int32} {mod_doneMany : Int32} {mod_undoneMany : Int32} {mod_isBoth : Int32} {mod_wished : Int32} {mod_bestMany : Int32} {mod_bestRow : Int32} {mod_ringDigits : Int32} {mod_traces : Int32} {tm : Nat → Int32} {r_X12_both : Int32 → Int32 → Int32 → Int32 → Int32 → Int32 → Int32 → Int32 → Int32 → Int32 → Int32 → Int32 → Int32 → Int32 → Int32 → Int32 → Int32 → (Nat → Int32) → (Nat → Int32) → (Nat → Int32) → (Option (Int32 × Int32 × Int32 × Int32 × (Nat → Int32) × (Nat → Int32)))} {r_X12_compared : Int32 → Int32 → Int32 → Int32 → Int32 → Int32 → Int32 → Int32 → Int32 → Int32 → Int32 → Int32 → Int32 → Int32 → Int32 → Int32 → Int32 → (Nat → Int32) → (Nat → Int32) → (Nat → Int32) → (Option (Int32 × Int32 × Int32 × Int32 × (Nat → Int32) × (Nat → Int32)))} {r_X12_either : Int32 → Int32 → Int32 → Int32 → Int32 → Int32 → Int32 → Int32 → Int32 → Int32 → Int32 → Int32 → Int32 → Int32 → Int32 → Int32 → Int32 → (Nat → Int32) → (Nat → Int32) → (Nat → Int32) → (Option (Int32 × Int32 × Int32 × Int32 × (Nat → Int32) × (Nat → Int32)))} {r_X12_operand : Int32 → Int32 → Int32 → Int32 → Int32 → Int32 → Int32 → Int32 → Int32 → Int32 → Int32 → Int32 → Int32 → Int32 → Int32 → Int32 → Int32 → (Nat → Int32) → (Nat → Int32) → (Nat → Int32) → (Option (Int32 × Int32 × Int32 × Int32 × (Nat → Int32) × (Nat → Int32)))} {r_X12_product : Int32 → Int32 → Int32 → Int32 → Int32 → Int32 → Int32 → Int32 → Int32 → Int32 → Int32 → Int32 → Int32 → Int32 → Int32 → Int32 → Int32 → (Nat → Int32) → (Nat → Int32) → (Nat → Int32) → (Option (Int32 × Int32 × Int32 × Int32 × (Nat → Int32) × (Nat → Int32)))} {r_X12_sum : Int32 → Int32 → Int32 → Int32 → Int32 → Int32 → Int32 → Int32 → Int32 → Int32 → Int32 → Int32 → Int32 → Int32 → Int32 → Int32 → Int32 → (Nat → Int32) → (Nat → Int32) → (Nat → Int32) → (Option (Int32 × Int32 × Int32 × Int32 × (Nat → Int32) × (Nat → Int32)))} {m : Nat} {he g o l : Int32} {ac wi : Nat → Int32} {S : Int32 × Int32 × Int32 × Int32 × (Nat → Int32) × (Nat → Int32)} (h : f_X12_either r_X12_both r_X12_compared r_X12_either r_X12_operand r_X12_product r_X12_sum m mod_code court_shoeCount mod_claims ts he g court_suitCount mod_doneMany mod_undoneMany o l mod_isBoth mod_wished mod_bestMany mod_bestRow mod_ringDigits mod_traces tm ac wi = some S) : ∃ u1 u2 u3 u4 u5 u6, (fun he g o l ac wi => r_X12_both mod_code court_shoeCount mod_claims ts he g court_suitCount mod_doneMany mod_undoneMany o l mod_isBoth mod_wished mod_bestMany mod_bestRow mod_ringDigits mod_traces tm ac wi) he g o l ac wi = some (u1, u2, u3, u4, u5, u6) ∧ (fun m he g o l ac wi => G_X12_either r_X12_both r_X12_compared r_X12_either r_X12_operand r_X12_product r_X12_sum mod_code court_shoeCount mod_claims ts court_suitCount mod_doneMany mod_undoneMany mod_isBoth mod_wished mod_bestMany mod_bestRow mod_ringDigits mod_traces tm m he g o l ac wi) m u1 u2 u3 u4 u5 u6 = some S := by
  unfold f_X12_either B_X12_either_0 at h
  replace h := zk_o6 h
  obtain ⟨u1, u2, u3, u4, u5, u6, k1, h⟩ := h
  exact ⟨u1, u2, u3, u4, u5, u6, k1, h⟩
set_option maxHeartbeats 4000000 in
set_option maxRecDepth 20000 in
theorem rs_both {mod_code : Int32} {court_shoeCount : Int32} {mod_claims : Int32} {ts : Int32} {court_suitCount : Int32} {mod_doneMany : Int32} {mod_undoneMany : Int32} {mod_isBoth : Int32} {mod_wished : Int32} {mod_bestMany : Int32} {mod_bestRow : Int32} {mod_ringDigits : Int32} {mod_traces : Int32} {tm : Nat → Int32} {tb : Nat → Int32} {r_X12_both : Int32 → Int32 → Int32 → Int32 → Int32 → Int32 → Int32 → Int32 → Int32 → Int32 → Int32 → Int32 → Int32 → Int32 → Int32 → Int32 → Int32 → (Nat → Int32) → (Nat → Int32) → (Nat → Int32) → (Option (Int32 × Int32 × Int32 × Int32 × (Nat → Int32) × (Nat → Int32)))} {r_X12_compared : Int32 → Int32 → Int32 → Int32 → Int32 → Int32 → Int32 → Int32 → Int32 → Int32 → Int32 → Int32 → Int32 → Int32 → Int32 → Int32 → Int32 → (Nat → Int32) → (Nat → Int32) → (Nat → Int32) → (Option (Int32 × Int32 × Int32 × Int32 × (Nat → Int32) × (Nat → Int32)))} {r_X12_either : Int32 → Int32 → Int32 → Int32 → Int32 → Int32 → Int32 → Int32 → Int32 → Int32 → Int32 → Int32 → Int32 → Int32 → Int32 → Int32 → Int32 → (Nat → Int32) → (Nat → Int32) → (Nat → Int32) → (Option (Int32 × Int32 × Int32 × Int32 × (Nat → Int32) × (Nat → Int32)))} {r_X12_operand : Int32 → Int32 → Int32 → Int32 → Int32 → Int32 → Int32 → Int32 → Int32 → Int32 → Int32 → Int32 → Int32 → Int32 → Int32 → Int32 → Int32 → (Nat → Int32) → (Nat → Int32) → (Nat → Int32) → (Option (Int32 × Int32 × Int32 × Int32 × (Nat → Int32) × (Nat → Int32)))} {r_X12_product : Int32 → Int32 → Int32 → Int32 → Int32 → Int32 → Int32 → Int32 → Int32 → Int32 → Int32 → Int32 → Int32 → Int32 → Int32 → Int32 → Int32 → (Nat → Int32) → (Nat → Int32) → (Nat → Int32) → (Option (Int32 × Int32 × Int32 × Int32 × (Nat → Int32) × (Nat → Int32)))} {r_X12_sum : Int32 → Int32 → Int32 → Int32 → Int32 → Int32 → Int32 → Int32 → Int32 → Int32 → Int32 → Int32 → Int32 → Int32 → Int32 → Int32 → Int32 → (Nat → Int32) → (Nat → Int32) → (Nat → Int32) → (Option (Int32 × Int32 × Int32 × Int32 × (Nat → Int32) × (Nat → Int32)))} (hT : TS ts) (hR : TR ts tb tm) : RSTEP ts tb 1 (fun m he g o l ac wi => G_X12_both r_X12_both r_X12_compared r_X12_either r_X12_operand r_X12_product r_X12_sum mod_code court_shoeCount mod_claims ts court_suitCount mod_doneMany mod_undoneMany mod_isBoth mod_wished mod_bestMany mod_bestRow mod_ringDigits mod_traces tm m he g o l ac wi) (fun he g o l ac wi => r_X12_compared mod_code court_shoeCount mod_claims ts he g court_suitCount mod_doneMany mod_undoneMany o l mod_isBoth mod_wished mod_bestMany mod_bestRow mod_ringDigits mod_traces tm ac wi) := by
  refine ⟨fun he g o l ac wi S h => ?_, fun m he g o l ac wi S hp h => ?_⟩
  · cases h
  · replace h : B_X12_both_4 r_X12_both r_X12_compared r_X12_either r_X12_operand r_X12_product r_X12_sum (G_X12_both r_X12_both r_X12_compared r_X12_either r_X12_operand r_X12_product r_X12_sum mod_code court_shoeCount mod_claims ts court_suitCount mod_doneMany mod_undoneMany mod_isBoth mod_wished mod_bestMany mod_bestRow mod_ringDigits mod_traces tm m) mod_code court_shoeCount mod_claims ts court_suitCount mod_doneMany mod_undoneMany mod_isBoth mod_wished mod_bestMany mod_bestRow mod_ringDigits mod_traces tm he g o l ac wi = some S := h
    unfold B_X12_both_4 at h
    by_cases c1 : 0 ≤ g
    · replace h := (Option.some.inj (zk_t c1 h)).symm
      rw [i32_le, z32_0] at c1
      exact Or.inl ⟨h, Or.inl c1⟩
    replace h := zk_f c1 h
    rw [i32_le, z32_0] at c1
    have hp := hp (by omega)
    replace h := zk_o2 h
    obtain ⟨r0, w0, a0, h⟩ := h
    have hb0 := mb_look hT hR hp a0
    by_cases b0 : r0 = (38 : Int32)
    · replace h := zk_t b0 h
      have ez : bZ ts tb he = 38 := (BR_e hb0 ⟨by decide, by decide, by decide⟩).mp b0
      have eb : bz ts tb he = 38 := Int32.toInt_inj.mp (ez.trans (by decide))
      replace h := zk_lt h
      obtain ⟨v, ev, h⟩ := h
      subst ev
      replace h := zk_o6 h
      obtain ⟨u1, u2, u3, u4, u5, u6, k1, h⟩ := h
      replace h := zk_o3 h
      obtain ⟨l2, a2, w2, k2, h⟩ := h
      refine Or.inr ⟨by omega, Or.inr (Or.inl ⟨rfl, ez⟩), u1, u2, u3, u4, u5, u6, l2, a2, w2, k1, fun hl => ?_, h⟩
      have q := m5_lay ⟨by decide, by decide⟩ hl k2
      rw [eb]
      exact q.2
    replace h := zk_f b0 h
    have n0 : bZ ts tb he ≠ 38 := fun z => b0 ((BR_e hb0 ⟨by decide, by decide, by decide⟩).mpr z)
    refine Or.inl ⟨(Option.some.inj h).symm, Or.inr (fun z => ?_)⟩
    rcases z with ⟨z1, z⟩ | ⟨z1, z⟩ | ⟨z1, z⟩ | ⟨z1, z⟩ | ⟨z1, z⟩
    · exact absurd z1 (by decide)
    · omega
    · exact absurd z1 (by decide)
    · exact absurd z1 (by decide)
    · exact absurd z1 (by decide)
set_option maxHeartbeats 4000000 in
set_option maxRecDepth 20000 in
theorem rf_both {mod_code : Int32} {court_shoeCount : Int32} {mod_claims : Int32} {ts : Int32} {court_suitCount : Int32} {mod_doneMany : Int32} {mod_undoneMany : Int32} {mod_isBoth : Int32} {mod_wished : Int32} {mod_bestMany : Int32} {mod_bestRow : Int32} {mod_ringDigits : Int32} {mod_traces : Int32} {tm : Nat → Int32} {r_X12_both : Int32 → Int32 → Int32 → Int32 → Int32 → Int32 → Int32 → Int32 → Int32 → Int32 → Int32 → Int32 → Int32 → Int32 → Int32 → Int32 → Int32 → (Nat → Int32) → (Nat → Int32) → (Nat → Int32) → (Option (Int32 × Int32 × Int32 × Int32 × (Nat → Int32) × (Nat → Int32)))} {r_X12_compared : Int32 → Int32 → Int32 → Int32 → Int32 → Int32 → Int32 → Int32 → Int32 → Int32 → Int32 → Int32 → Int32 → Int32 → Int32 → Int32 → Int32 → (Nat → Int32) → (Nat → Int32) → (Nat → Int32) → (Option (Int32 × Int32 × Int32 × Int32 × (Nat → Int32) × (Nat → Int32)))} {r_X12_either : Int32 → Int32 → Int32 → Int32 → Int32 → Int32 → Int32 → Int32 → Int32 → Int32 → Int32 → Int32 → Int32 → Int32 → Int32 → Int32 → Int32 → (Nat → Int32) → (Nat → Int32) → (Nat → Int32) → (Option (Int32 × Int32 × Int32 × Int32 × (Nat → Int32) × (Nat → Int32)))} {r_X12_operand : Int32 → Int32 → Int32 → Int32 → Int32 → Int32 → Int32 → Int32 → Int32 → Int32 → Int32 → Int32 → Int32 → Int32 → Int32 → Int32 → Int32 → (Nat → Int32) → (Nat → Int32) → (Nat → Int32) → (Option (Int32 × Int32 × Int32 × Int32 × (Nat → Int32) × (Nat → Int32)))} {r_X12_product : Int32 → Int32 → Int32 → Int32 → Int32 → Int32 → Int32 → Int32 → Int32 → Int32 → Int32 → Int32 → Int32 → Int32 → Int32 → Int32 → Int32 → (Nat → Int32) → (Nat → Int32) → (Nat → Int32) → (Option (Int32 × Int32 × Int32 × Int32 × (Nat → Int32) × (Nat → Int32)))} {r_X12_sum : Int32 → Int32 → Int32 → Int32 → Int32 → Int32 → Int32 → Int32 → Int32 → Int32 → Int32 → Int32 → Int32 → Int32 → Int32 → Int32 → Int32 → (Nat → Int32) → (Nat → Int32) → (Nat → Int32) → (Option (Int32 × Int32 × Int32 × Int32 × (Nat → Int32) × (Nat → Int32)))} {m : Nat} {he g o l : Int32} {ac wi : Nat → Int32} {S : Int32 × Int32 × Int32 × Int32 × (Nat → Int32) × (Nat → Int32)} (h : f_X12_both r_X12_both r_X12_compared r_X12_either r_X12_operand r_X12_product r_X12_sum m mod_code court_shoeCount mod_claims ts he g court_suitCount mod_doneMany mod_undoneMany o l mod_isBoth mod_wished mod_bestMany mod_bestRow mod_ringDigits mod_traces tm ac wi = some S) : ∃ u1 u2 u3 u4 u5 u6, (fun he g o l ac wi => r_X12_compared mod_code court_shoeCount mod_claims ts he g court_suitCount mod_doneMany mod_undoneMany o l mod_isBoth mod_wished mod_bestMany mod_bestRow mod_ringDigits mod_traces tm ac wi) he g o l ac wi = some (u1, u2, u3, u4, u5, u6) ∧ (fun m he g o l ac wi => G_X12_both r_X12_both r_X12_compared r_X12_either r_X12_operand r_X12_product r_X12_sum mod_code court_shoeCount mod_claims ts court_suitCount mod_doneMany mod_undoneMany mod_isBoth mod_wished mod_bestMany mod_bestRow mod_ringDigits mod_traces tm m he g o l ac wi) m u1 u2 u3 u4 u5 u6 = some S := by
  unfold f_X12_both B_X12_both_0 at h
  replace h := zk_o6 h
  obtain ⟨u1, u2, u3, u4, u5, u6, k1, h⟩ := h
  exact ⟨u1, u2, u3, u4, u5, u6, k1, h⟩
