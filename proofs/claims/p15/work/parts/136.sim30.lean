
set_option maxHeartbeats 4000000 in
set_option maxRecDepth 20000 in
theorem cv_run  {fs cd : Nat → Int32} {cn : Nat} (hcn : cn ≤ 121) : ∀ (L : List (Int32 × Int32)) (n a : Nat) (x3 x4 : Int32) (sk : Nat → Int32) (st st2 : List Int32) (R : Int32 × (Nat → Int32)), CTk cd a L → x4.toInt = (a : Int) → a + L.length ≤ cn → x3.toInt = (st.length : Int) → st.length ≤ 36 → STK sk st → evk fs 36 L st = some st2 → G_X4_value fs 11 36 cd cn n x3 x4 sk = some R → ∃ (m : Nat) (y z : Int32) (sk2 : Nat → Int32), z.toInt = ((a + L.length : Nat) : Int) ∧ y.toInt = (st2.length : Int) ∧ st2.length ≤ 36 ∧ STK sk2 st2 ∧ G_X4_value fs 11 36 cd cn m y z sk2 = some R := by
  intro L
  induction L with
  | nil =>
    intro n a x3 x4 sk st st2 R hc h4 hl h3 h36 hs he h
    have he : some st = some st2 := he
    have he := Option.some.inj he
    subst he
    exact ⟨n, x3, x4, sk, h4, h3, h36, hs, h⟩
  | cons x t ih =>
    intro n a x3 x4 sk st st2 R hc h4 hl h3 h36 hs he h
    cases n with
    | zero => cases h
    | succ n =>
      replace h : B_X4_value_5 (G_X4_value fs 11 36 cd cn n) fs 11 36 cd cn x3 x4 sk = some R := h
      obtain ⟨⟨c1, c2⟩, c3⟩ := CTk_tl hc
      have hl : a + (t.length + 1) ≤ cn := hl
      have he : (if (x.1 = 1 ∨ x.1 = 2) ∧ 36 ≤ st.length then none else (ev1 fs x st).bind (evk fs 36 t)) = some st2 := he
      by_cases c : (x.1 = 1 ∨ x.1 = 2) ∧ 36 ≤ st.length
      · rw [if_pos c] at he
        cases he
      · rw [if_neg c] at he
        cases e1 : ev1 fs x st with
        | none =>
          rw [e1] at he
          cases he
        | some s1 =>
          rw [e1] at he
          have he : evk fs 36 t s1 = some st2 := he
          have ea : x4.toInt.toNat = a := by omega
          obtain ⟨y, sk2, y1, y2, y3, h⟩ := cv_step c2 (by rw [ea]; exact c1) ⟨by omega, by omega⟩ hcn h3 h36 hs c e1 h
          have e4 := i32_s (a := x4) (by omega)
          obtain ⟨m, y4, z, sk3, z1, z2, z3, z4, z5⟩ := ih n (a + 1) y (x4 + 1) sk2 s1 st2 R c3 (by omega) (by omega) y1 y2 y3 he h
          refine ⟨m, y4, z, sk3, ?_, z2, z3, z4, z5⟩
          show z.toInt = ((a + (t.length + 1) : Nat) : Int)
          omega
set_option maxHeartbeats 4000000 in
set_option maxRecDepth 20000 in
theorem cv_lines  {fs cd : Nat → Int32} {cn : Nat} (hcn : cn ≤ 121) : ∀ (Ls : List (List (Int32 × Int32) × List (Int32 × Int32))) (n a : Nat) (x3 x4 : Int32) (sk : Nat → Int32) (R : Int32 × (Nat → Int32)), LLC cd a Ls cn → (∀ ln ∈ Ls, LNS ln) → x4.toInt = (a : Int) → x3 = 0 → G_X4_value fs 11 36 cd cn n x3 x4 sk = some R → R.1 = lev fs Ls := by
  intro Ls
  induction Ls with
  | nil =>
    intro n a x3 x4 sk R hc _ h4 h3 h
    have hc : a = cn := hc
    cases n with
    | zero => cases h
    | succ n =>
      replace h : B_X4_value_5 (G_X4_value fs 11 36 cd cn n) fs 11 36 cd cn x3 x4 sk = some R := h
      unfold B_X4_value_5 at h
      replace h := zk_t (show Int32.ofNat cn ≤ x4 by rw [i32_le, Int32.toInt_ofNat_of_lt (by omega)]; omega) h
      rw [← Option.some.inj h]
      rfl
  | cons ln t ih =>
    intro n a x3 x4 sk R hc hS h4 h3 h
    subst h3
    obtain ⟨hc1, hc2⟩ := hc
    have hle := LLC_le t _ _ hc2
    obtain ⟨hS1, hS2⟩ := hS ln (List.mem_cons_self ..)
    rcases hc1 with ⟨c1, c2, c3⟩ | ⟨c1, c2, c3, c4, c5⟩
    · have e0 : ln.1.length = 0 := by rw [c1]; rfl
      have eL : lnl ln = ln.2.length + 1 := by
        unfold lnl
        exact if_pos e0
      have ev : lev fs (ln :: t) = val fs ln.2 := by
        show (if ln.1.length = 0 ∨ ¬ val fs ln.1 = 0 then val fs ln.2 else lev fs t) = _
        exact if_pos (Or.inl e0)
      rw [ev]
      obtain ⟨m, y, z, sk2, z1, z2, z3, z4, h⟩ := cv_run hcn ln.2 _ _ _ _ _ [] _ R c2 h4 (by omega) (show (0 : Int32).toInt = ((0 : Nat) : Int) by decide) (Nat.zero_le _) trivial ((val_e hS1 fs).2 36 (Nat.le_refl _)) h
      have z2 : y.toInt = ((1 : Nat) : Int) := z2
      cases m with
      | zero => cases h
      | succ m =>
        replace h : B_X4_value_5 (G_X4_value fs 11 36 cd cn m) fs 11 36 cd cn y z sk2 = some R := h
        unfold B_X4_value_5 at h
        have ez : z.toNatClampNeg = a + ln.2.length := tnc z1
        replace h := zk_f (show ¬ Int32.ofNat cn ≤ z by rw [i32_le, Int32.toInt_ofNat_of_lt (by omega)]; omega) h
        replace h := zk_gd h
        obtain ⟨_, h⟩ := h
        replace h := zk_lt h
        obtain ⟨v3, e3, h⟩ := h
        rw [ez, c3] at e3
        have e3 : v3 = (2 : Int32) := by rw [e3]; decide
        subst e3
        replace h := zk_gd h
        obtain ⟨_, h⟩ := h
        replace h := zk_lt h
        obtain ⟨v5, _, h⟩ := h
        replace h := zk_t (show (1 : Int32) < 2 by decide) h
        replace h := zk_t (show (1 : Int32) ≤ y by rw [i32_le, z32_1]; omega) h
        replace h := zk_t (show (2 : Int32) = 2 from rfl) h
        replace h := zk_gd h
        obtain ⟨_, h⟩ := h
        have em := i32_m1 (a := y) (by omega)
        have en : (y - 1).toNatClampNeg = 0 := tnc (by omega)
        rw [en] at h
        rw [← Option.some.inj h]
        exact z4.1
    · have hT : TSG 36 ln.1 := by
        rcases hS2 with z | z
        · rw [z] at c1
          exact absurd c1 (by decide)
        · exact z
      have eL : lnl ln = ln.1.length + ln.2.length + 2 := by
        unfold lnl
        exact if_neg (by omega)
      obtain ⟨m, y, z, sk2, z1, z2, z3, z4, h⟩ := cv_run hcn ln.1 _ _ _ _ _ [] _ R c2 h4 (by omega) (show (0 : Int32).toInt = ((0 : Nat) : Int) by decide) (Nat.zero_le _) trivial ((val_e hT fs).2 36 (Nat.le_refl _)) h
      have z2 : y.toInt = ((1 : Nat) : Int) := z2
      cases m with
      | zero => cases h
      | succ m =>
        replace h : B_X4_value_5 (G_X4_value fs 11 36 cd cn m) fs 11 36 cd cn y z sk2 = some R := h
        unfold B_X4_value_5 at h
        have ez : z.toNatClampNeg = a + ln.1.length := tnc z1
        replace h := zk_f (show ¬ Int32.ofNat cn ≤ z by rw [i32_le, Int32.toInt_ofNat_of_lt (by omega)]; omega) h
        replace h := zk_gd h
        obtain ⟨_, h⟩ := h
        replace h := zk_lt h
        obtain ⟨v3, e3, h⟩ := h
        replace h := zk_gd h
        obtain ⟨_, h⟩ := h
        replace h := zk_lt h
        obtain ⟨v5, e5, h⟩ := h
        rw [ez, c3] at e3 e5
        have k := en_unl ⟨a + ln.1.length + ln.2.length + 2, by omega⟩
        dsimp only at k
        rw [k.1] at e3
        rw [k.2] at e5
        subst e3
        replace h := zk_t (show (1 : Int32) < 3 by decide) h
        replace h := zk_t (show (1 : Int32) ≤ y by rw [i32_le, z32_1]; omega) h
        replace h := zk_f (show ¬ (3 : Int32) = 2 by decide) h
        replace h := zk_t (show (3 : Int32) = 3 from rfl) h
        replace h := zk_lt h
        obtain ⟨v27, e27, h⟩ := h
        have e27i : v27.toInt = 0 := by
          rw [e27, i32_a (by omega) (by decide), show (-1 : Int32).toInt = -1 from by decide]
          omega
        have e27 : v27 = 0 := Int32.toInt_inj.mp (e27i.trans z32_0.symm)
        subst e27
        have en : (0 : Int32).toNatClampNeg = 0 := by decide
        replace h := zk_gd h
        obtain ⟨_, h⟩ := h
        rw [en] at h
        have e5i : v5.toInt = ((a + ln.1.length + ln.2.length + 2 : Nat) : Int) := by
          rw [e5]
          exact Int32.toInt_ofNat_of_lt (by omega)
        by_cases cz : sk2 0 = 0
        · replace h := zk_t cz h
          have e51 := i32_m1 (a := v5) (by omega)
          rw [if_pos (show z < v5 - 1 by rw [i32_lt]; omega)] at h
          unfold B_X4_value_134 at h
          unfold B_X4_value_214 at h
          replace h := zk_lt h
          obtain ⟨w, ew, h⟩ := h
          have ew2 := i32_s (a := v5 - 1) (by omega)
          have hv : val fs ln.1 = 0 := z4.1.symm.trans cz
          have ev : lev fs (ln :: t) = lev fs t := by
            show (if ln.1.length = 0 ∨ ¬ val fs ln.1 = 0 then val fs ln.2 else lev fs t) = _
            exact if_neg (fun q => q.elim (fun q => by omega) (fun q => q hv))
          rw [ev]
          exact ih m _ _ w sk2 R hc2 (fun l hm => hS l (List.mem_cons_of_mem _ hm)) (by rw [ew, ew2, eL]; omega) rfl h
        · replace h := zk_f cz h
          unfold B_X4_value_134 at h
          unfold B_X4_value_214 at h
          replace h := zk_lt h
          obtain ⟨w, ew, h⟩ := h
          have ew2 := i32_s (a := z) (by omega)
          have hv : ¬ val fs ln.1 = 0 := fun q => cz (z4.1.trans q)
          have ev : lev fs (ln :: t) = val fs ln.2 := by
            show (if ln.1.length = 0 ∨ ¬ val fs ln.1 = 0 then val fs ln.2 else lev fs t) = _
            exact if_pos (Or.inr hv)
          rw [ev]
          obtain ⟨m, y, z, sk2, z1, z2, z3, z4, h⟩ := cv_run hcn ln.2 _ _ _ _ _ [] _ R c4 (show w.toInt = ((a + ln.1.length + 1 : Nat) : Int) by rw [ew, ew2]; omega) (by omega) (show (0 : Int32).toInt = ((0 : Nat) : Int) by decide) (Nat.zero_le _) trivial ((val_e hS1 fs).2 36 (Nat.le_refl _)) h
          have z2 : y.toInt = ((1 : Nat) : Int) := z2
          cases m with
          | zero => cases h
          | succ m =>
            replace h : B_X4_value_5 (G_X4_value fs 11 36 cd cn m) fs 11 36 cd cn y z sk2 = some R := h
            unfold B_X4_value_5 at h
            have ez : z.toNatClampNeg = a + ln.1.length + 1 + ln.2.length := tnc z1
            replace h := zk_f (show ¬ Int32.ofNat cn ≤ z by rw [i32_le, Int32.toInt_ofNat_of_lt (by omega)]; omega) h
            replace h := zk_gd h
            obtain ⟨_, h⟩ := h
            replace h := zk_lt h
            obtain ⟨v3, e3, h⟩ := h
            rw [ez, c5] at e3
            have e3 : v3 = (2 : Int32) := by rw [e3]; decide
            subst e3
            replace h := zk_gd h
            obtain ⟨_, h⟩ := h
            replace h := zk_lt h
            obtain ⟨v5, _, h⟩ := h
            replace h := zk_t (show (1 : Int32) < 2 by decide) h
            replace h := zk_t (show (1 : Int32) ≤ y by rw [i32_le, z32_1]; omega) h
            replace h := zk_t (show (2 : Int32) = 2 from rfl) h
            replace h := zk_gd h
            obtain ⟨_, h⟩ := h
            have em := i32_m1 (a := y) (by omega)
            have en : (y - 1).toNatClampNeg = 0 := tnc (by omega)
            rw [en] at h
            rw [← Option.some.inj h]
            exact z4.1
set_option maxHeartbeats 4000000 in
set_option maxRecDepth 20000 in
theorem mw_step {mod_code : Int32} {court_shoeCount : Int32} {mod_claims : Int32} {ts : Int32} {court_suitCount : Int32} {mod_doneMany : Int32} {mod_undoneMany : Int32} {mod_isBoth : Int32} {mod_wished : Int32} {mod_bestMany : Int32} {mod_bestRow : Int32} {mod_ringDigits : Int32} {mod_traces : Int32} {x1 x3 : Int32} {hh g o l : Int32} {fs ac wi : Nat → Int32} {sk : Nat → Int32} {x4 x5 : Int32} {n : Nat} {R : Int32 × (Nat → Int32)} {x : Int32 × Int32} {st st2 : List Int32} (hx : TKV x) (hc : ac x5.toInt.toNat = x.1 ∧ wi x5.toInt.toNat = x.2) (ha : ¬ ((130 : Int32) * x1) + x3 ≤ x5) (h4 : x4.toInt = (st.length : Int)) (hl : st.length ≤ 130) (hs : STK sk st) (he : ev1 fs x st = some st2) (h : B_X12_worked_12 (G_X12_worked mod_code court_shoeCount mod_claims ts hh g court_suitCount mod_doneMany mod_undoneMany o l mod_isBoth mod_wished mod_bestMany mod_bestRow mod_ringDigits mod_traces ac wi fs n) mod_code court_shoeCount mod_claims ts hh g court_suitCount mod_doneMany mod_undoneMany o l mod_isBoth mod_wished mod_bestMany mod_bestRow mod_ringDigits mod_traces ac wi fs x1 x3 x4 x5 sk = some R) : ∃ (y : Int32) (sk2 : Nat → Int32), y.toInt = (st2.length : Int) ∧ st2.length ≤ 130 ∧ STK sk2 st2 ∧ G_X12_worked mod_code court_shoeCount mod_claims ts hh g court_suitCount mod_doneMany mod_undoneMany o l mod_isBoth mod_wished mod_bestMany mod_bestRow mod_ringDigits mod_traces ac wi fs n x1 x3 y (x5 + 1) sk2 = some R := by
  unfold B_X12_worked_12 at h
  replace h := zk_f ha h
  replace h := zk_gd h
  obtain ⟨_, h⟩ := h
  replace h := zk_lt h
  obtain ⟨v4, e4, h⟩ := h
  have ex : x5.toNatClampNeg = x5.toInt.toNat := rfl
  rw [ex, hc.1] at e4
  subst e4
  rcases TKV_c hx with ⟨t, t2, t3⟩ | ⟨t, t2, t3⟩ | t | t | t
  · replace h := zk_t t h
    unfold B_X12_worked_45 at h
    replace h := zk_t t h
    replace h := zk_gd h
    obtain ⟨_, h⟩ := h
    rw [ex, hc.2] at h
    unfold ev1 at he
    rw [if_pos t] at he
    have he := Option.some.inj he
    subst he
    unfold B_X12_worked_79 at h
    replace h := zk_gd h
    obtain ⟨hg, h⟩ := h
    replace h := zk_lt h
    obtain ⟨f, ef, h⟩ := h
    replace h := zk_lt h
    obtain ⟨w, ew, h⟩ := h
    unfold B_X12_worked_182 at h
    replace h := zk_lt h
    obtain ⟨w2, rfl, h⟩ := h
    have e3 : x4.toNatClampNeg = st.length := tnc h4
    have hl2 : st.length < 130 := by
      by_cases c : st.length < 130
      · exact c
      · exact absurd (Or.inr (by omega)) hg
    refine ⟨w, f, ?_, ?_, ?_, h⟩
    · rw [ew, i32_s (by omega), h4]
      rfl
    · show st.length + 1 ≤ 130
      omega
    · rw [ef]
      skip
      exact STK_p hs (tnc h4)
  · have n1 : ¬ x.1 = 1 := by rw [t]; decide
    replace h := zk_f n1 h
    replace h := zk_t t h
    unfold B_X12_worked_45 at h
    replace h := zk_f n1 h
    replace h := zk_gd h
    obtain ⟨_, h⟩ := h
    replace h := zk_gd h
    obtain ⟨_, h⟩ := h
    rw [ex, hc.2] at h
    unfold ev1 at he
    rw [if_neg n1, if_pos t] at he
    have he := Option.some.inj he
    subst he
    unfold B_X12_worked_79 at h
    replace h := zk_gd h
    obtain ⟨hg, h⟩ := h
    replace h := zk_lt h
    obtain ⟨f, ef, h⟩ := h
    replace h := zk_lt h
    obtain ⟨w, ew, h⟩ := h
    unfold B_X12_worked_182 at h
    replace h := zk_lt h
    obtain ⟨w2, rfl, h⟩ := h
    have e3 : x4.toNatClampNeg = st.length := tnc h4
    have hl2 : st.length < 130 := by
      by_cases c : st.length < 130
      · exact c
      · exact absurd (Or.inr (by omega)) hg
    refine ⟨w, f, ?_, ?_, ?_, h⟩
    · rw [ew, i32_s (by omega), h4]
      rfl
    · show st.length + 1 ≤ 130
      omega
    · rw [ef]
      rw [show x.2.toNatClampNeg = x.2.toInt.toNat from rfl]
      exact STK_p hs (tnc h4)
  · replace h := zk_f (show ¬ x.1 = 1 by rw [t]; decide) h
    replace h := zk_f (show ¬ x.1 = 2 by rw [t]; decide) h
    replace h := zk_t t h
    cases st with
    | nil =>
      unfold ev1 at he
      rw [if_neg (by rw [t]; decide), if_neg (by rw [t]; decide), if_pos t] at he
      cases he
    | cons a t2 =>
      have h4 : x4.toInt = ((t2.length + 1 : Nat) : Int) := h4
      have hl : t2.length + 1 ≤ 130 := hl
      unfold ev1 at he
      rw [if_neg (by rw [t]; decide), if_neg (by rw [t]; decide), if_pos t] at he
      have he := Option.some.inj he
      subst he
      have em := i32_m1 (a := x4) (by omega)
      have en : (x4 - 1).toNatClampNeg = t2.length := tnc (by omega)
      have ha : sk (x4 - 1).toNatClampNeg = a := by rw [en]; exact hs.1
      replace h := zk_gd h
      obtain ⟨_, h⟩ := h
      by_cases c0 : sk (x4 - 1).toNatClampNeg = 0
      · replace h := zk_t c0 h
        rw [ha] at c0
        unfold B_X12_worked_117 at h
        replace h := zk_gd h
        obtain ⟨_, h⟩ := h
        replace h := zk_lt h
        obtain ⟨f, ef, h⟩ := h
        unfold B_X12_worked_182 at h
        replace h := zk_lt h
        obtain ⟨w2, rfl, h⟩ := h
        refine ⟨x4, f, h4, hl, ?_, h⟩
        rw [ef, en, if_pos c0]
        exact STK_p hs.2 rfl
      · replace h := zk_f c0 h
        rw [ha] at c0
        unfold B_X12_worked_117 at h
        replace h := zk_gd h
        obtain ⟨_, h⟩ := h
        replace h := zk_lt h
        obtain ⟨f, ef, h⟩ := h
        unfold B_X12_worked_182 at h
        replace h := zk_lt h
        obtain ⟨w2, rfl, h⟩ := h
        refine ⟨x4, f, h4, hl, ?_, h⟩
        rw [ef, en, if_neg c0]
        exact STK_p hs.2 rfl
  · replace h := zk_f (show ¬ x.1 = 1 by rw [t]; decide) h
    replace h := zk_f (show ¬ x.1 = 2 by rw [t]; decide) h
    replace h := zk_f (show ¬ x.1 = 3 by rw [t]; decide) h
    replace h := zk_t t h
    cases st with
    | nil =>
      unfold ev1 at he
      rw [if_neg (by rw [t]; decide), if_neg (by rw [t]; decide), if_neg (by rw [t]; decide), if_pos t] at he
      cases he
    | cons a t2 =>
      have h4 : x4.toInt = ((t2.length + 1 : Nat) : Int) := h4
      have hl : t2.length + 1 ≤ 130 := hl
      unfold ev1 at he
      rw [if_neg (by rw [t]; decide), if_neg (by rw [t]; decide), if_neg (by rw [t]; decide), if_pos t] at he
      have he := Option.some.inj he
      subst he
      have em := i32_m1 (a := x4) (by omega)
      have en : (x4 - 1).toNatClampNeg = t2.length := tnc (by omega)
      have ha : sk (x4 - 1).toNatClampNeg = a := by rw [en]; exact hs.1
      replace h := zk_gd h
      obtain ⟨_, h⟩ := h
      replace h := zk_lt h
      obtain ⟨v, ev, h⟩ := h
      replace h := zk_gd h
      obtain ⟨_, h⟩ := h
      replace h := zk_lt h
      obtain ⟨f, ef, h⟩ := h
      unfold B_X12_worked_182 at h
      replace h := zk_lt h
      obtain ⟨w2, rfl, h⟩ := h
      refine ⟨x4, f, h4, hl, ?_, h⟩
      rw [ef, en, ev, ha]
      exact STK_p hs.2 rfl
  · obtain ⟨n1, n2, n3, n4⟩ := opt_n t
    replace h := zk_f n1 h
    replace h := zk_f n2 h
    replace h := zk_f n3 h
    replace h := zk_f n4 h
    unfold ev1 at he
    rw [if_neg n1, if_neg n2, if_neg n3, if_neg n4] at he
    cases st with
    | nil => cases he
    | cons b t1 =>
      cases t1 with
      | nil => cases he
      | cons a t2 =>
        have he := Option.some.inj he
        subst he
        have h4 : x4.toInt = ((t2.length + 1 + 1 : Nat) : Int) := h4
        have hl : t2.length + 1 + 1 ≤ 130 := hl
        replace h := zk_lt h
        obtain ⟨v13, e13, h⟩ := h
        have em : v13.toInt = x4.toInt - 1 := by
          rw [e13, i32_a (by omega) (by decide), show (-1 : Int32).toInt = -1 from by decide]
          omega
        have em2 := i32_m1 (a := v13) (by omega)
        have en : v13.toNatClampNeg = t2.length + 1 := tnc (by omega)
        have en2 : (v13 - 1).toNatClampNeg = t2.length := tnc (by omega)
        replace h := zk_gd h
        obtain ⟨_, h⟩ := h
        replace h := zk_gd h
        obtain ⟨_, h⟩ := h
        replace h := zk_o2 h
        obtain ⟨r, u, k, h⟩ := h
        rw [en, en2] at k
        have hb : sk (t2.length + 1) = b := hs.1
        have ha2 : sk t2.length = a := hs.2.1
        rw [hb, ha2] at k
        have er := tw_op t k
        replace h := zk_gd h
        obtain ⟨_, h⟩ := h
        replace h := zk_lt h
        obtain ⟨f, ef, h⟩ := h
        unfold B_X12_worked_182 at h
        replace h := zk_lt h
        obtain ⟨w2, rfl, h⟩ := h
        refine ⟨v13, f, by show v13.toInt = ((t2.length + 1 : Nat) : Int); omega, by show t2.length + 1 ≤ 130; omega, ?_, h⟩
        rw [ef, en2, er]
        exact STK_p hs.2.2 rfl
set_option maxHeartbeats 4000000 in
set_option maxRecDepth 20000 in
theorem mw_run {mod_code : Int32} {court_shoeCount : Int32} {mod_claims : Int32} {ts : Int32} {court_suitCount : Int32} {mod_doneMany : Int32} {mod_undoneMany : Int32} {mod_isBoth : Int32} {mod_wished : Int32} {mod_bestMany : Int32} {mod_bestRow : Int32} {mod_ringDigits : Int32} {mod_traces : Int32} {x1 x3 : Int32} {hh g o l : Int32} {fs ac wi : Nat → Int32} {E : Nat} (hE : (((130 : Int32) * x1) + x3).toInt = (E : Int)) (hE2 : E ≤ 4290) : ∀ (L : List (Int32 × Int32)) (n a : Nat) (x4 x5 : Int32) (sk : Nat → Int32) (st st2 : List Int32) (R : Int32 × (Nat → Int32)), MTk ac wi a L → (∀ x ∈ L, TKV x) → x5.toInt = (a : Int) → a + L.length ≤ E → x4.toInt = (st.length : Int) → st.length ≤ 130 → STK sk st → evs fs L st = some st2 → G_X12_worked mod_code court_shoeCount mod_claims ts hh g court_suitCount mod_doneMany mod_undoneMany o l mod_isBoth mod_wished mod_bestMany mod_bestRow mod_ringDigits mod_traces ac wi fs n x1 x3 x4 x5 sk = some R → ∃ (m : Nat) (y z : Int32) (sk2 : Nat → Int32), z.toInt = ((a + L.length : Nat) : Int) ∧ y.toInt = (st2.length : Int) ∧ st2.length ≤ 130 ∧ STK sk2 st2 ∧ G_X12_worked mod_code court_shoeCount mod_claims ts hh g court_suitCount mod_doneMany mod_undoneMany o l mod_isBoth mod_wished mod_bestMany mod_bestRow mod_ringDigits mod_traces ac wi fs m x1 x3 y z sk2 = some R := by
  intro L
  induction L with
  | nil =>
    intro n a x4 x5 sk st st2 R hc hv h5 hl h4 h36 hs he h
    have he : some st = some st2 := he
    have he := Option.some.inj he
    subst he
    exact ⟨n, x4, x5, sk, h5, h4, h36, hs, h⟩
  | cons x t ih =>
    intro n a x4 x5 sk st st2 R hc hv h5 hl h4 h36 hs he h
    cases n with
    | zero => cases h
    | succ n =>
      replace h : B_X12_worked_12 (G_X12_worked mod_code court_shoeCount mod_claims ts hh g court_suitCount mod_doneMany mod_undoneMany o l mod_isBoth mod_wished mod_bestMany mod_bestRow mod_ringDigits mod_traces ac wi fs n) mod_code court_shoeCount mod_claims ts hh g court_suitCount mod_doneMany mod_undoneMany o l mod_isBoth mod_wished mod_bestMany mod_bestRow mod_ringDigits mod_traces ac wi fs x1 x3 x4 x5 sk = some R := h
      obtain ⟨c1, c3⟩ := MTk_tl hc
      have hl : a + (t.length + 1) ≤ E := hl
      have he : (ev1 fs x st).bind (evs fs t) = some st2 := he
      cases e1 : ev1 fs x st with
      | none =>
        rw [e1] at he
        cases he
      | some s1 =>
        rw [e1] at he
        have he : evs fs t s1 = some st2 := he
        have ea : x5.toInt.toNat = a := by omega
        obtain ⟨y, sk2, y1, y2, y3, h⟩ := mw_step (hv x (List.mem_cons_self ..)) (by rw [ea]; exact c1) (by rw [i32_le, hE]; omega) h4 h36 hs e1 h
        have e4 := i32_s (a := x5) (by omega)
        obtain ⟨m, y4, z, sk3, z1, z2, z3, z4, z5⟩ := ih n (a + 1) y (x5 + 1) sk2 s1 st2 R c3 (fun q hq => hv q (List.mem_cons_of_mem _ hq)) (by omega) (by omega) y1 y2 y3 he h
        refine ⟨m, y4, z, sk3, ?_, z2, z3, z4, z5⟩
        show z.toInt = ((a + (t.length + 1) : Nat) : Int)
        omega
set_option maxHeartbeats 4000000 in
set_option maxRecDepth 20000 in
theorem mw_all {mod_code : Int32} {court_shoeCount : Int32} {mod_claims : Int32} {ts : Int32} {court_suitCount : Int32} {mod_doneMany : Int32} {mod_undoneMany : Int32} {mod_isBoth : Int32} {mod_wished : Int32} {mod_bestMany : Int32} {mod_bestRow : Int32} {mod_ringDigits : Int32} {mod_traces : Int32} {x1 x2 x3 : Int32} {hh g o l : Int32} {fs ac wi sk : Nat → Int32} {L : List (Int32 × Int32)} {P a b : Nat} {R : Int32 × (Nat → Int32)} (hP : x1.toInt = (P : Int)) (hP2 : P ≤ 32) (ha : x2.toInt = (a : Int)) (hb : x3.toInt = (b : Int)) (hb2 : b ≤ 130) (hL : a + L.length = b) (hc : MTk ac wi (130 * P + a) L) (hv : ∀ x ∈ L, TKV x) (ht : TSG 36 L) (h : f_X12_worked 100000 x1 x2 x3 mod_code court_shoeCount mod_claims ts hh g court_suitCount mod_doneMany mod_undoneMany o l mod_isBoth mod_wished mod_bestMany mod_bestRow mod_ringDigits mod_traces ac wi fs sk = some R) : R.1 = val fs L := by
  unfold f_X12_worked B_X12_worked_0 at h
  replace h := zk_lt h
  obtain ⟨v, ev, h⟩ := h
  have e130 : (130 : Int32).toInt = 130 := by decide
  have em : ((130 : Int32) * x1).toInt = 130 * x1.toInt := by
    rw [Int32.toInt_mul, e130]
    exact zi_bm2 (by omega) (by omega)
  have hv2 : v.toInt = ((130 * P + a : Nat) : Int) := by
    rw [ev, i32_a (by omega) (by omega), em]
    omega
  have hE : (((130 : Int32) * x1) + x3).toInt = ((130 * P + b : Nat) : Int) := by
    rw [i32_a (by omega) (by omega), em]
    omega
  obtain ⟨m, y, z, sk2, z1, z2, z3, z4, h⟩ := mw_run hE (by omega) L _ _ _ _ _ [] _ R hc hv hv2 (by omega) (show (0 : Int32).toInt = ((0 : Nat) : Int) by decide) (Nat.zero_le _) trivial (val_e ht fs).1 h
  cases m with
  | zero => cases h
  | succ m =>
    replace h : B_X12_worked_12 (G_X12_worked mod_code court_shoeCount mod_claims ts hh g court_suitCount mod_doneMany mod_undoneMany o l mod_isBoth mod_wished mod_bestMany mod_bestRow mod_ringDigits mod_traces ac wi fs m) mod_code court_shoeCount mod_claims ts hh g court_suitCount mod_doneMany mod_undoneMany o l mod_isBoth mod_wished mod_bestMany mod_bestRow mod_ringDigits mod_traces ac wi fs x1 x3 y z sk2 = some R := h
    unfold B_X12_worked_12 at h
    replace h := zk_t (show ((130 : Int32) * x1) + x3 ≤ z by rw [i32_le, hE, z1]; omega) h
    have en : (0 : Int32).toNatClampNeg = 0 := by decide
    rw [en] at h
    rw [← Option.some.inj h]
    exact z4.1
set_option maxHeartbeats 4000000 in
set_option maxRecDepth 20000 in
theorem mg_47 {mod_code : Int32} {court_shoeCount : Int32} {mod_claims : Int32} {ts : Int32} {court_suitCount : Int32} {mod_doneMany : Int32} {mod_undoneMany : Int32} {mod_isBoth : Int32} {mod_wished : Int32} {mod_bestMany : Int32} {mod_bestRow : Int32} {mod_ringDigits : Int32} {mod_traces : Int32} {G : Int32 → Int32 → Int32 → (Nat → Int32) → (Option (Int32 × (Nat → Int32)))} {x1 x3 : Int32} {hh g o l : Int32} {fs ac wi lm te le sk : Nat → Int32} {ln : List (Int32 × Int32) × List (Int32 × Int32)} {P r l0 : Nat} {R : Int32 × (Nat → Int32)} (hP : x1.toInt = (P : Int)) (hP2 : P ≤ 32) (h3 : x3.toInt = (r : Int)) (hl : l0 + ln.1.length + ln.2.length ≤ 130) (hm : LNM ac wi te le (130 * P) r l0 ln) (hv : ∀ x ∈ ln.1 ++ ln.2, TKV x) (ht : TSG 36 ln.2) (h : B_X12_gives_47 G mod_code court_shoeCount mod_claims ts hh g court_suitCount mod_doneMany mod_undoneMany o l mod_isBoth mod_wished mod_bestMany mod_bestRow mod_ringDigits mod_traces ac wi lm te le fs x1 x3 sk = some R) : R.1 = val fs ln.2 := by
  unfold B_X12_gives_47 at h
  replace h := zk_gd h
  obtain ⟨_, h⟩ := h
  replace h := zk_gd h
  obtain ⟨_, h⟩ := h
  replace h := zk_o2 h
  obtain ⟨r1, u1, k, h⟩ := h
  obtain ⟨m1, m2, m3⟩ := hm
  rw [tnc h3] at k
  have q := mw_all (L := ln.2) hP hP2 m2 m3 (by omega) rfl (by
    have := (MTk_l m1).2
    rw [Nat.add_assoc] at this
    exact this) (fun x hx => hv x (List.mem_append_right _ hx)) ht k
  rw [← Option.some.inj h]
  exact q
set_option maxHeartbeats 4000000 in
set_option maxRecDepth 20000 in
theorem mg_lines {mod_code : Int32} {court_shoeCount : Int32} {mod_claims : Int32} {ts : Int32} {court_suitCount : Int32} {mod_doneMany : Int32} {mod_undoneMany : Int32} {mod_isBoth : Int32} {mod_wished : Int32} {mod_bestMany : Int32} {mod_bestRow : Int32} {mod_ringDigits : Int32} {mod_traces : Int32} {x1 : Int32} {hh g o l : Int32} {fs ac wi lm te le : Nat → Int32} {P N e : Nat} (hP : x1.toInt = (P : Int)) (hP2 : P ≤ 32) (hN : (lm P).toInt = (N : Int)) (hN2 : N ≤ 61) (he2 : e ≤ 130) : ∀ (Ls : List (List (Int32 × Int32) × List (Int32 × Int32))) (n r l0 : Nat) (x2 x3 : Int32) (sk : Nat → Int32) (R : Int32 × (Nat → Int32)), LLM ac wi te le (130 * P) r l0 Ls e → (∀ ln ∈ Ls, LNS ln) → (∀ ln ∈ Ls, ∀ x ∈ ln.1 ++ ln.2, TKV x) → r + Ls.length = 61 * P + N → x3.toInt = (r : Int) → x2.toInt = (l0 : Int) → G_X12_gives mod_code court_shoeCount mod_claims ts hh g court_suitCount mod_doneMany mod_undoneMany o l mod_isBoth mod_wished mod_bestMany mod_bestRow mod_ringDigits mod_traces ac wi lm te le fs n x1 x2 x3 sk = some R → R.1 = lev fs Ls := by
  have e61 : (61 : Int32).toInt = 61 := by decide
  have em : ((61 : Int32) * x1).toInt = 61 * x1.toInt := by
    rw [Int32.toInt_mul, e61]
    exact zi_bm2 (by omega) (by omega)
  have eE : (((61 : Int32) * x1) + lm P).toInt = ((61 * P + N : Nat) : Int) := by
    rw [i32_a (by omega) (by omega), em]
    omega
  intro Ls
  induction Ls with
  | nil =>
    intro n r l0 x2 x3 sk R hc _ _ hr h3 h2 h
    have hr : r = 61 * P + N := hr
    cases n with
    | zero => cases h
    | succ n =>
      replace h : B_X12_gives_7 (G_X12_gives mod_code court_shoeCount mod_claims ts hh g court_suitCount mod_doneMany mod_undoneMany o l mod_isBoth mod_wished mod_bestMany mod_bestRow mod_ringDigits mod_traces ac wi lm te le fs n) mod_code court_shoeCount mod_claims ts hh g court_suitCount mod_doneMany mod_undoneMany o l mod_isBoth mod_wished mod_bestMany mod_bestRow mod_ringDigits mod_traces ac wi lm te le fs x1 x2 x3 sk = some R := h
      unfold B_X12_gives_7 at h
      replace h := zk_gd h
      obtain ⟨_, h⟩ := h
      rw [tnc hP] at h
      replace h := zk_t (show ((61 : Int32) * x1) + lm P ≤ x3 by rw [i32_le, eE]; omega) h
      rw [← Option.some.inj h]
      rfl
  | cons ln t ih =>
    intro n r l0 x2 x3 sk R hc hS hV hr h3 h2 h
    have hr : r + (t.length + 1) = 61 * P + N := hr
    obtain ⟨hc1, hc2⟩ := hc
    have hle := LLM_le t _ _ _ hc2
    have hv := hV ln (List.mem_cons_self ..)
    obtain ⟨hS1, hS2⟩ := hS ln (List.mem_cons_self ..)
    have hc1' := hc1
    obtain ⟨m1, m2, m3⟩ := hc1'
    cases n with
    | zero => cases h
    | succ n =>
      replace h : B_X12_gives_7 (G_X12_gives mod_code court_shoeCount mod_claims ts hh g court_suitCount mod_doneMany mod_undoneMany o l mod_isBoth mod_wished mod_bestMany mod_bestRow mod_ringDigits mod_traces ac wi lm te le fs n) mod_code court_shoeCount mod_claims ts hh g court_suitCount mod_doneMany mod_undoneMany o l mod_isBoth mod_wished mod_bestMany mod_bestRow mod_ringDigits mod_traces ac wi lm te le fs x1 x2 x3 sk = some R := h
      unfold B_X12_gives_7 at h
      replace h := zk_gd h
      obtain ⟨_, h⟩ := h
      rw [tnc hP] at h
      replace h := zk_f (show ¬ ((61 : Int32) * x1) + lm P ≤ x3 by rw [i32_le, eE]; omega) h
      replace h := zk_gd h
      obtain ⟨_, h⟩ := h
      by_cases c : te x3.toNatClampNeg = x2
      · replace h := zk_t c h
        rw [tnc h3] at c
        have e0 : ln.1.length = 0 := by
          rw [c, h2] at m2
          omega
        have ev : lev fs (ln :: t) = val fs ln.2 := by
          show (if ln.1.length = 0 ∨ ¬ val fs ln.1 = 0 then val fs ln.2 else lev fs t) = _
          exact if_pos (Or.inl e0)
        rw [ev]
        exact mg_47 hP hP2 h3 (by omega) hc1 hv hS1 h
      · replace h := zk_f c h
        rw [tnc h3] at c
        have e0 : ¬ ln.1.length = 0 := fun z => c (Int32.toInt_inj.mp (by rw [m2, h2, z]; rfl))
        have hT : TSG 36 ln.1 := by
          rcases hS2 with z | z
          · rw [z] at e0
            exact absurd rfl e0
          · exact z
        replace h := zk_gd h
        obtain ⟨_, h⟩ := h
        replace h := zk_o2 h
        obtain ⟨r7, u8, k, h⟩ := h
        rw [tnc h3] at k
        have q := mw_all (L := ln.1) hP hP2 h2 m2 (by omega) rfl (MTk_l m1).1 (fun x hx => hv x (List.mem_append_left _ hx)) hT k
        have q : r7 = val fs ln.1 := q
        by_cases cz : r7 = 0
        · replace h := zk_t cz h
          replace h := zk_gd h
          obtain ⟨_, h⟩ := h
          replace h := zk_lt h
          obtain ⟨v12, e12, h⟩ := h
          replace h := zk_lt h
          obtain ⟨v13, e13, h⟩ := h
          rw [tnc h3] at e12
          have es := i32_s (a := x3) (by omega)
          have ev : lev fs (ln :: t) = lev fs t := by
            show (if ln.1.length = 0 ∨ ¬ val fs ln.1 = 0 then val fs ln.2 else lev fs t) = _
            exact if_neg (fun z => z.elim e0 (fun z => z (q.symm.trans cz)))
          rw [ev]
          exact ih n (r + 1) _ v12 v13 u8 R hc2 (fun y hy => hS y (List.mem_cons_of_mem _ hy)) (fun y hy => hV y (List.mem_cons_of_mem _ hy)) (by omega) (by rw [e13, es]; omega) (by rw [e12]; exact m3) h
        · replace h := zk_f cz h
          have ev : lev fs (ln :: t) = val fs ln.2 := by
            show (if ln.1.length = 0 ∨ ¬ val fs ln.1 = 0 then val fs ln.2 else lev fs t) = _
            exact if_pos (Or.inr (fun z => cz (q.trans z)))
          rw [ev]
          exact mg_47 hP hP2 h3 (by omega) hc1 hv hS1 h
def LU (u : Nat) : List (List (Int32 × Int32) × List (Int32 × Int32)) := if u = 0 then [([], [((2 : Int32), (5 : Int32)), ((2 : Int32), (0 : Int32)), ((1 : Int32), (1 : Int32)), ((61 : Int32), (0 : Int32)), ((38 : Int32), (0 : Int32)), ((2 : Int32), (5 : Int32)), ((2 : Int32), (0 : Int32)), ((1 : Int32), (6 : Int32)), ((61 : Int32), (0 : Int32)), ((38 : Int32), (0 : Int32)), ((124 : Int32), (0 : Int32)), ((2 : Int32), (5 : Int32)), ((2 : Int32), (0 : Int32)), ((1 : Int32), (3 : Int32)), ((61 : Int32), (0 : Int32)), ((38 : Int32), (0 : Int32)), ((124 : Int32), (0 : Int32))])] else if u = 1 then [([], [((2 : Int32), (9 : Int32)), ((2 : Int32), (10 : Int32)), ((38 : Int32), (0 : Int32))])] else if u = 2 then [([], [((2 : Int32), (10 : Int32)), ((1 : Int32), (3 : Int32)), ((60 : Int32), (0 : Int32))])] else [([], [((1 : Int32), (1 : Int32))])]
def LAWR (Lc : Nat → Nat → Int32) (Ln : Nat → Nat) (ac wi lm te le : Nat → Int32) (p : Nat) : Prop := ∃ (Ls : List (List (Int32 × Int32) × List (Int32 × Int32))) (e : Nat), (∀ ln ∈ Ls, LNS ln) ∧ LLC (Lc p) 0 Ls (Ln p) ∧ Ln p ≤ 121 ∧ (((lm p).toInt = 0 ∧ Ls = LU (p / 8)) ∨ ((lm p).toInt = (Ls.length : Int) ∧ 1 ≤ Ls.length ∧ Ls.length ≤ 61 ∧ e ≤ 120 ∧ LLM ac wi te le (130 * p) (61 * p) 0 Ls e))
theorem ev1_cg {fs f2 : Nat → Int32} {x : Int32 × Int32} (hx : TKV x) (h : ∀ i, i < 11 → fs i = f2 i) (st : List Int32) : ev1 fs x st = ev1 f2 x st := by
  unfold ev1
  by_cases c1 : x.1 = 1
  · rw [if_pos c1, if_pos c1]
  · rw [if_neg c1, if_neg c1]
    by_cases c2 : x.1 = 2
    · rw [if_pos c2, if_pos c2]
      have hb : x.2.toInt.toNat < 11 := by
        rcases TKV_c hx with ⟨t, _⟩ | ⟨_, t2, t3⟩ | t | t | t
        · exact absurd t c1
        · omega
        · rw [t] at c2
          exact absurd c2 (by decide)
        · rw [t] at c2
          exact absurd c2 (by decide)
        · exact absurd c2 (opt_n t).2.1
      rw [h _ hb]
    · rw [if_neg c2, if_neg c2]
theorem evs_cg {fs f2 : Nat → Int32} (h : ∀ i, i < 11 → fs i = f2 i) : ∀ (L : List (Int32 × Int32)) (st : List Int32), (∀ x ∈ L, TKV x) → evs fs L st = evs f2 L st
  | [], st, _ => rfl
  | x :: t, st, hv => by
    show (ev1 fs x st).bind (evs fs t) = (ev1 f2 x st).bind (evs f2 t)
    rw [ev1_cg (hv x (List.mem_cons_self ..)) h]
    cases ev1 f2 x st with
    | none => rfl
    | some s1 => exact evs_cg h t s1 (fun y hy => hv y (List.mem_cons_of_mem _ hy))
theorem val_cg {fs f2 : Nat → Int32} (h : ∀ i, i < 11 → fs i = f2 i) {L : List (Int32 × Int32)} (hv : ∀ x ∈ L, TKV x) : val fs L = val f2 L := by
  unfold val
  rw [evs_cg h L [] hv]
theorem lev_cg {fs f2 : Nat → Int32} (h : ∀ i, i < 11 → fs i = f2 i) : ∀ Ls : List (List (Int32 × Int32) × List (Int32 × Int32)), (∀ ln ∈ Ls, ∀ x ∈ ln.1 ++ ln.2, TKV x) → lev fs Ls = lev f2 Ls
  | [], _ => rfl
  | ln :: t, hv => by
    have q := hv ln (List.mem_cons_self ..)
    show (if ln.1.length = 0 ∨ ¬ val fs ln.1 = 0 then val fs ln.2 else lev fs t) = (if ln.1.length = 0 ∨ ¬ val f2 ln.1 = 0 then val f2 ln.2 else lev f2 t)
    rw [val_cg h (fun x hx => q x (List.mem_append_left _ hx)), val_cg h (fun x hx => q x (List.mem_append_right _ hx)), lev_cg h t (fun y hy => hv y (List.mem_cons_of_mem _ hy))]
theorem lu_0 (fs : Nat → Int32) : lev fs (LU 0) = op2 124 (op2 124 (op2 38 (fs 5) (op2 61 (fs 0) 1)) (op2 38 (fs 5) (op2 61 (fs 0) 6))) (op2 38 (fs 5) (op2 61 (fs 0) 3)) := rfl
theorem lu_1 (fs : Nat → Int32) : lev fs (LU 1) = op2 38 (fs 9) (fs 10) := rfl
theorem lu_2 (fs : Nat → Int32) : lev fs (LU 2) = op2 60 (fs 10) 3 := rfl
theorem lu_3 (fs : Nat → Int32) : lev fs (LU 3) = 1 := rfl
theorem b01 {c : Prop} [Decidable c] : ((if c then (1 : Int32) else 0) = 0) ↔ ¬ c := by
  by_cases h : c
  · rw [if_pos h]
    exact ⟨fun z => absurd z (by decide), fun z => absurd h z⟩
  · rw [if_neg h]
    exact ⟨fun _ => h, fun _ => rfl⟩
theorem b10 {c : Prop} [Decidable c] : ((if c then (0 : Int32) else 1) = 0) ↔ c := by
  by_cases h : c
  · rw [if_pos h]
    exact ⟨fun _ => h, fun _ => rfl⟩
  · rw [if_neg h]
    exact ⟨fun z => absurd z (by decide), fun z => absurd z h⟩
theorem lu_0z (fs : Nat → Int32) : lev fs (LU 0) = 0 ↔ (fs 5 = 0 ∨ (¬ fs 0 = 1 ∧ ¬ fs 0 = 6 ∧ ¬ fs 0 = 3)) := by
  rw [lu_0]
  simp only [op2_124, op2_38, op2_61, b10, b01]
  by_cases c : fs 5 = 0
  · simp [c]
  · simp [c, and_assoc]
theorem lu_1z (fs : Nat → Int32) : lev fs (LU 1) = 0 ↔ (fs 9 = 0 ∨ fs 10 = 0) := by
  rw [lu_1, op2_38, b10]
theorem lu_2z (fs : Nat → Int32) : lev fs (LU 2) = 0 ↔ ¬ fs 10 < 3 := by
  rw [lu_2, op2_60, b01]
set_option maxHeartbeats 4000000 in
set_option maxRecDepth 20000 in
theorem cv_all  {fs cd sk : Nat → Int32} {cn : Nat} {Ls : List (List (Int32 × Int32) × List (Int32 × Int32))} {R : Int32 × (Nat → Int32)} (hcn : cn ≤ 121) (hc : LLC cd 0 Ls cn) (hS : ∀ ln ∈ Ls, LNS ln) (h : f_X4_value 100000 fs 11 sk 36 cd cn = some R) : R.1 = lev fs Ls := by
  unfold f_X4_value B_X4_value_0 at h
  exact cv_lines hcn Ls _ 0 _ _ _ R hc hS (by rw [z32_0]; rfl) rfl h
set_option maxHeartbeats 4000000 in
set_option maxRecDepth 20000 in
theorem mg_all {mod_code : Int32} {court_shoeCount : Int32} {mod_claims : Int32} {ts : Int32} {court_suitCount : Int32} {mod_doneMany : Int32} {mod_undoneMany : Int32} {mod_isBoth : Int32} {mod_wished : Int32} {mod_bestMany : Int32} {mod_bestRow : Int32} {mod_ringDigits : Int32} {mod_traces : Int32} {x1 : Int32} {hh g o l : Int32} {fs ac wi lm te le sk : Nat → Int32} {P e : Nat} {Ls : List (List (Int32 × Int32) × List (Int32 × Int32))} {R : Int32 × (Nat → Int32)} (hP : x1.toInt = (P : Int)) (hP2 : P ≤ 31) (hN : (lm P).toInt = (Ls.length : Int)) (hN2 : Ls.length ≤ 61) (he2 : e ≤ 120) (hm : LLM ac wi te le (130 * P) (61 * P) 0 Ls e) (hS : ∀ ln ∈ Ls, LNS ln) (hV : ∀ ln ∈ Ls, ∀ x ∈ ln.1 ++ ln.2, TKV x) (h : f_X12_gives 100000 x1 mod_code court_shoeCount mod_claims ts hh g court_suitCount mod_doneMany mod_undoneMany o l mod_isBoth mod_wished mod_bestMany mod_bestRow mod_ringDigits mod_traces ac wi lm te le fs sk = some R) : R.1 = lev fs Ls := by
  unfold f_X12_gives B_X12_gives_0 at h
  replace h := zk_lt h
  obtain ⟨v, ev, h⟩ := h
  have e61 : (61 : Int32).toInt = 61 := by decide
  have em : ((61 : Int32) * x1).toInt = 61 * x1.toInt := by
    rw [Int32.toInt_mul, e61]
    exact zi_bm2 (by omega) (by omega)
  exact mg_lines hP (by omega) hN hN2 (by omega) Ls _ _ _ _ _ _ R hm hS hV rfl (by rw [ev, em]; omega) (by rw [z32_0]; rfl) h
set_option maxHeartbeats 4000000 in
set_option maxRecDepth 20000 in
theorem lw_eq {mod_code : Int32} {court_shoeCount : Int32} {mod_claims : Int32} {ts : Int32} {court_suitCount : Int32} {mod_doneMany : Int32} {mod_undoneMany : Int32} {mod_isBoth : Int32} {mod_wished : Int32} {mod_bestMany : Int32} {mod_bestRow : Int32} {mod_ringDigits : Int32} {mod_traces : Int32} {court_claimCount : Int32} {inq_day : Int32} {inq_land : Int32} {inq_shoeLeftOut : Int32} {court_laws : Nat → Option Nat} {inq_names : Nat → Int32} {L_n : Nat → Nat} {L_code : Nat → Nat → Int32} {inq_stack : Nat → Int32} {x1 r1 r2 : Int32} {u1 u2 : Nat → Int32} {hh g o l : Int32} {fs ac wi lm te le sk : Nat → Int32} (hu : 0 ≤ x1.toInt ∧ x1.toInt ≤ 3) (hl : 0 ≤ inq_land.toInt ∧ inq_land.toInt ≤ 7) (hL : ∀ p, p < 32 → LAWR L_code L_n ac wi lm te le p) (hn : ∀ i, i < 11 → inq_names i = fs i) (h : f_X3_lawGives x1 court_shoeCount court_claimCount court_suitCount court_laws inq_day inq_land inq_shoeLeftOut inq_names inq_stack L_n L_code = some (r1, u1)) (k : f_X12_isSo x1 inq_land mod_code court_shoeCount mod_claims ts hh g court_suitCount mod_doneMany mod_undoneMany o l mod_isBoth mod_wished mod_bestMany mod_bestRow mod_ringDigits mod_traces ac wi lm te le fs sk = some (r2, u2)) : (r1 = 0 ↔ r2 = 0) ∧ (r2 = 0 ∨ r2 = 1) := by
  have e8 : (8 : Int32).toInt = 8 := by decide
  have em : (x1 * (8 : Int32)).toInt = x1.toInt * 8 := by
    rw [Int32.toInt_mul, e8]
    exact zi_bm2 (by omega) (by omega)
  have em2 : ((8 : Int32) * x1).toInt = 8 * x1.toInt := by
    rw [Int32.toInt_mul, e8]
    exact zi_bm2 (by omega) (by omega)
  obtain ⟨P, hP⟩ : ∃ P : Nat, P = (8 * x1.toInt + inq_land.toInt).toNat := ⟨_, rfl⟩
  have ei : ((x1 * (8 : Int32)) + inq_land).toNatClampNeg = P := tnc (by rw [i32_a (by omega) (by omega), em]; omega)
  have hv : (((8 : Int32) * x1) + inq_land).toInt = (P : Int) := by
    rw [i32_a (by omega) (by omega), em2]
    omega
  have hPu : (P / 8 : Nat) = x1.toInt.toNat := by omega
  obtain ⟨Ls, e, hS, hc, hcn, hm⟩ := hL P (by omega)
  have hV := LLC_tk Ls 0 _ hc
  have er1 : r1 = lev fs Ls := by
    unfold f_X3_lawGives B_X3_lawGives_0 at h
    replace h := zk_gd h
    obtain ⟨_, h⟩ := h
    replace h := zk_gd h
    obtain ⟨_, h⟩ := h
    replace h := zk_gd h
    obtain ⟨_, h⟩ := h
    replace h := zk_o2 h
    obtain ⟨r, u, h1, h⟩ := h
    rw [ei] at h1
    have q := cv_all hcn hc hS h1
    have q : r = lev inq_names Ls := q
    rw [lev_cg hn Ls hV] at q
    replace h := congrArg Prod.fst (Option.some.inj h)
    exact h.symm.trans q
  unfold f_X12_isSo B_X12_isSo_0 at k
  replace k := zk_lt k
  obtain ⟨v, rfl, k⟩ := k
  replace k := zk_gd k
  obtain ⟨_, k⟩ := k
  rw [tnc hv] at k
  have fin : ∀ (b : Int32) (w : Nat → Int32), some (b, w) = some (r2, u2) → r2 = b := fun b w q => (congrArg Prod.fst (Option.some.inj q)).symm
  rcases hm with ⟨m1, m2⟩ | ⟨m1, m2, m3, m4, m5⟩
  · replace k := zk_t (show lm P ≤ 0 by rw [i32_le, z32_0]; omega) k
    rw [er1, m2, hPu]
    by_cases c0 : x1 = 0
    · replace k := zk_t c0 k
      rw [c0, show (0 : Int32).toInt.toNat = 0 from by decide, lu_0z]
      rw [show (5 : Int32).toNatClampNeg = 5 from by decide, show (0 : Int32).toNatClampNeg = 0 from by decide] at k
      by_cases d5 : fs 5 = 0
      · rw [fin _ _ (zk_t d5 k)]
        exact ⟨⟨fun _ => rfl, fun _ => Or.inl d5⟩, Or.inl rfl⟩
      replace k := zk_f d5 k
      unfold B_X12_isSo_96 at k
      by_cases d1 : fs 0 = 1
      · rw [fin _ _ (zk_t d1 k)]
        exact ⟨⟨fun z => z.elim (fun z => absurd z d5) (fun z => absurd d1 z.1), fun z => absurd z (by decide)⟩, Or.inr rfl⟩
      replace k := zk_f d1 k
      by_cases d6 : fs 0 = 6
      · rw [fin _ _ (zk_t d6 k)]
        exact ⟨⟨fun z => z.elim (fun z => absurd z d5) (fun z => absurd d6 z.2.1), fun z => absurd z (by decide)⟩, Or.inr rfl⟩
      replace k := zk_f d6 k
      by_cases d3 : fs 0 = 3
      · rw [fin _ _ (zk_t d3 k)]
        exact ⟨⟨fun z => z.elim (fun z => absurd z d5) (fun z => absurd d3 z.2.2), fun z => absurd z (by decide)⟩, Or.inr rfl⟩
      replace k := zk_f d3 k
      rw [fin _ _ k]
      exact ⟨⟨fun _ => rfl, fun _ => Or.inr ⟨d1, d6, d3⟩⟩, Or.inl rfl⟩
    replace k := zk_f c0 k
    by_cases c1 : x1 = 1
    · replace k := zk_t c1 k
      rw [c1, show (1 : Int32).toInt.toNat = 1 from by decide, lu_1z]
      rw [show (9 : Int32).toNatClampNeg = 9 from by decide, show (10 : Int32).toNatClampNeg = 10 from by decide] at k
      by_cases d9 : fs 9 = 0
      · rw [fin _ _ (zk_t d9 k)]
        exact ⟨⟨fun _ => rfl, fun _ => Or.inl d9⟩, Or.inl rfl⟩
      replace k := zk_f d9 k
      by_cases d10 : fs 10 = 0
      · rw [fin _ _ (zk_t d10 k)]
        exact ⟨⟨fun _ => rfl, fun _ => Or.inr d10⟩, Or.inl rfl⟩
      · rw [fin _ _ (zk_f d10 k)]
        exact ⟨⟨fun z => z.elim (fun z => absurd z d9) (fun z => absurd z d10), fun z => absurd z (by decide)⟩, Or.inr rfl⟩
    replace k := zk_f c1 k
    by_cases c2 : x1 = 2
    · replace k := zk_t c2 k
      rw [c2, show (2 : Int32).toInt.toNat = 2 from by decide, lu_2z]
      rw [show (10 : Int32).toNatClampNeg = 10 from by decide] at k
      by_cases d : (3 : Int32) ≤ fs 10
      · rw [fin _ _ (zk_t d k)]
        exact ⟨⟨fun _ => rfl, fun _ => Int32.not_lt.mpr d⟩, Or.inl rfl⟩
      · rw [fin _ _ (zk_f d k)]
        exact ⟨⟨fun z => absurd (Int32.not_lt.mp z) d, fun z => absurd z (by decide)⟩, Or.inr rfl⟩
    replace k := zk_f c2 k
    rw [i32_e, z32_0] at c0
    rw [i32_e, z32_1] at c1
    rw [i32_e, show (2 : Int32).toInt = 2 from by decide] at c2
    have e3 : x1.toInt.toNat = 3 := by omega
    rw [e3, lu_3, fin _ _ k]
    exact ⟨Iff.rfl, Or.inr rfl⟩
  · replace k := zk_f (show ¬ lm P ≤ 0 by rw [i32_le, z32_0]; omega) k
    replace k := zk_o2 k
    obtain ⟨r14, u15, k1, k⟩ := k
    have q := mg_all hv (by omega) m1 m3 m4 m5 hS hV k1
    have q : r14 = lev fs Ls := q
    rw [er1, ← q]
    by_cases c : r14 = 0
    · rw [fin _ _ (zk_t c k)]
      exact ⟨⟨fun _ => rfl, fun _ => c⟩, Or.inl rfl⟩
    · rw [fin _ _ (zk_f c k)]
      exact ⟨⟨fun z => absurd z c, fun z => absurd z (by decide)⟩, Or.inr rfl⟩
