
theorem zl_in {x c : Int32} {L : Nat} (h : 0 ≤ x.toInt ∧ x.toInt + 6 ≤ (L : Int)) (hL : L ≤ 3072) (hc : 0 ≤ c.toInt ∧ c.toInt ≤ 5) : vp_in (x + c) L := by
  have e : (x + c).toInt = x.toInt + c.toInt := by rw [Int32.toInt_add]; exact zi_bm2 (by omega) (by omega)
  unfold vp_in
  rintro (h1 | h1)
  · have h2 := Int32.lt_iff_toInt_lt.mp h1
    rw [e, zl_0] at h2
    omega
  · have h2 : (x + c).toNatClampNeg = (x + c).toInt.toNat := rfl
    omega
theorem zl_in0 {x : Int32} {L : Nat} (h : 0 ≤ x.toInt ∧ x.toInt + 6 ≤ (L : Int)) : vp_in x L := by
  unfold vp_in
  rintro (h1 | h1)
  · have h2 := Int32.lt_iff_toInt_lt.mp h1
    rw [zl_0] at h2
    omega
  · have h2 : x.toNatClampNeg = x.toInt.toNat := rfl
    omega
theorem zk_pl (x : Int32) : ∃ j, j < 6 ∧ ((¬ x < 0 ∧ ¬ 6 ≤ x) → x.toNatClampNeg = j) := by
  by_cases h : ¬ x < 0 ∧ ¬ 6 ≤ x
  · refine ⟨x.toNatClampNeg, ?_, fun _ => rfl⟩
    have h1 := h.1
    have h2 := h.2
    rw [Int32.lt_iff_toInt_lt] at h1
    rw [Int32.le_iff_toInt_le] at h2
    have e0 : (0 : Int32).toInt = 0 := by decide
    have e6 : (6 : Int32).toInt = 6 := by decide
    have e : x.toNatClampNeg = x.toInt.toNat := rfl
    omega
  · exact ⟨0, by omega, fun z => absurd z h⟩
theorem zk_lc (x : Int64) : lg_cmp x x = 0 := by
  have : ¬ x < x := Int64.lt_irrefl
  simp [lg_cmp, this]
def RL (z : ZT) (w : MT) : Prop := True
theorem pe_in (x lo hi : Int32) : f_X12_in x lo hi = some ((if x < lo ∨ hi < x then (0 : Int32) else 1), ()) := by
  unfold f_X12_in B_X12_in_0
  by_cases h1 : x < lo
  · rw [if_pos h1, if_pos (Or.inl h1)]
  · by_cases h2 : hi < x
    · rw [if_neg h1, if_pos h2, if_pos (Or.inr h2)]
    · rw [if_neg h1, if_neg h2, if_neg (fun z => z.elim h1 h2)]
theorem pe_b2 {A B C : Type} (a : A) (b : B) (k : A → B → Option C) : zk_b2 (some (a, b)) k = k a b := rfl
theorem pe_lt {x : Int32} {a b : Int32} (h : b.toInt = a.toInt + 1) : (a < x) ↔ (b ≤ x) := by
  rw [Int32.lt_iff_toInt_lt, Int32.le_iff_toInt_le]
  omega
def zrow (x1 x2 x3 : Int32) : Int32 := if x1 < 0 then -1 else if (6 : Int32) ≤ x1 then -1 else if x2 < 0 then -1 else if (4 : Int32) < x2 then -1 else if x3 ≤ (60 : Int32) then (if 0 ≤ x3 then 1 else -14) else -1
theorem pr11 {h : Nat} {x1 x2 x3 : Int32} {pf : Nat → Option Nat} {a b c : Int32} {el : Nat → Int64} {R : Int32 × Int32 × Int32 × (Nat → Int64)} (hf : f_X11_row h x1 x2 x3 pf a b c el = some R) : R.1 = zrow x1 x2 x3 := by
  unfold f_X11_row B_X11_row_0 at hf
  obtain ⟨r, u, h1, hf⟩ := zk_o2 hf
  unfold f_X11_placeAt B_X11_placeAt_0 at h1
  unfold zrow
  by_cases c1 : x1 < 0
  · have h1 := zk_t c1 h1
    have e : r = false := (congrArg Prod.fst (Option.some.inj h1)).symm
    subst e
    have hf := zk_f (by decide) hf
    rw [if_pos c1, ← Option.some.inj hf]
  · have h1 := zk_f c1 h1
    rw [if_neg c1]
    by_cases c2 : (6 : Int32) ≤ x1
    · have h1 := zk_t c2 h1
      have e : r = false := (congrArg Prod.fst (Option.some.inj h1)).symm
      subst e
      have hf := zk_f (by decide) hf
      rw [if_pos c2, ← Option.some.inj hf]
    · have h1 := zk_f c2 h1
      obtain ⟨_, h1⟩ := zk_gd h1
      obtain ⟨_, h1⟩ := zk_gd h1
      have e : r = true := (congrArg Prod.fst (Option.some.inj h1)).symm
      subst e
      have hf := zk_t rfl hf
      rw [if_neg c2]
      by_cases c3 : x2 < 0
      · have hf := zk_t c3 hf
        rw [if_pos c3, ← Option.some.inj hf]
      · have hf := zk_f c3 hf
        rw [if_neg c3]
        by_cases c4 : (4 : Int32) < x2
        · have hf := zk_t c4 hf
          rw [if_pos c4, ← Option.some.inj hf]
        · have hf := zk_f c4 hf
          rw [if_neg c4]
          by_cases c5 : x3 ≤ (60 : Int32)
          · have hf := zk_t c5 hf
            rw [if_pos c5]
            by_cases c6 : 0 ≤ x3
            · have hf := zk_t c6 hf
              obtain ⟨u1, u2, u3, h9, hf⟩ := zk_o3 hf
              rw [if_pos c6, ← Option.some.inj hf]
            · have hf := zk_f c6 hf
              rw [if_neg c6, ← Option.some.inj hf]
          · have hf := zk_f c5 hf
            rw [if_neg c5, ← Option.some.inj hf]
theorem pr12g {mod_code : Int32} {mod_shoes : Int32} {mod_claims : Int32} {mod_taped : Int32} {mod_here : Int32} {mod_fault : Int32} {mod_suits : Int32} {mod_doneMany : Int32} {mod_undoneMany : Int32} {mod_open : Int32} {mod_laid : Int32} {mod_isBoth : Int32} {mod_wished : Int32} {mod_bestMany : Int32} {mod_bestRow : Int32} {mod_ringDigits : Int32} {mod_traces : Int32} : ∀ (n : Nat) (x1 x4 : Int32) (a b : Nat → Int32) (c : Nat → Int64) (R : Int32 × (Nat → Int32) × (Nat → Int32) × (Nat → Int64)), G_X12_row mod_code mod_shoes mod_claims mod_taped mod_here mod_fault mod_suits mod_doneMany mod_undoneMany mod_open mod_laid mod_isBoth mod_wished mod_bestMany mod_bestRow mod_ringDigits mod_traces n x1 x4 a b c = some R → R.1 = 1 := by
  intro n
  induction n with
  | zero => intro x1 x4 a b c R h; cases h
  | succ n ih =>
    intro x1 x4 a b c R h
    have h : B_X12_row_54 (G_X12_row mod_code mod_shoes mod_claims mod_taped mod_here mod_fault mod_suits mod_doneMany mod_undoneMany mod_open mod_laid mod_isBoth mod_wished mod_bestMany mod_bestRow mod_ringDigits mod_traces n) mod_code mod_shoes mod_claims mod_taped mod_here mod_fault mod_suits mod_doneMany mod_undoneMany mod_open mod_laid mod_isBoth mod_wished mod_bestMany mod_bestRow mod_ringDigits mod_traces x1 x4 a b c = some R := h
    unfold B_X12_row_54 at h
    by_cases k : (((60 : Int32) * x1) + (60 : Int32)) ≤ x4
    · have h := zk_t k h
      rw [← Option.some.inj h]
    · have h := zk_f k h
      obtain ⟨_, h⟩ := zk_gd h
      obtain ⟨f, _, h⟩ := zk_lt h
      obtain ⟨v, _, h⟩ := zk_lt h
      exact ih _ _ _ _ _ _ h
theorem pr12 {n : Nat} {x1 x2 x3 : Int32} {mod_code : Int32} {mod_shoes : Int32} {mod_claims : Int32} {mod_taped : Int32} {mod_here : Int32} {mod_fault : Int32} {mod_suits : Int32} {mod_doneMany : Int32} {mod_undoneMany : Int32} {mod_open : Int32} {mod_laid : Int32} {mod_isBoth : Int32} {mod_wished : Int32} {mod_bestMany : Int32} {mod_bestRow : Int32} {mod_ringDigits : Int32} {mod_traces : Int32} {mod_holds : Nat → Int32} {mod_size : Nat → Int32} {mod_elements : Nat → Int64} {R : Int32 × (Nat → Int32) × (Nat → Int32) × (Nat → Int64)} (hf : f_X12_row n x1 x2 x3 mod_code mod_shoes mod_claims mod_taped mod_here mod_fault mod_suits mod_doneMany mod_undoneMany mod_open mod_laid mod_isBoth mod_wished mod_bestMany mod_bestRow mod_ringDigits mod_traces mod_holds mod_size mod_elements = some R) : R.1 = zrow x1 x2 x3 := by
  unfold f_X12_row B_X12_row_0 at hf
  obtain ⟨r, u, h1, hf⟩ := zk_o2 hf
  unfold f_X12_isShelf B_X12_isShelf_0 at h1
  rw [pe_in, pe_b2] at h1
  obtain ⟨_, h1⟩ := zk_gd h1
  have e := (congrArg Prod.fst (Option.some.inj h1))
  dsimp only at e
  unfold zrow
  have e5 : ((5 : Int32) < x1) ↔ ((6 : Int32) ≤ x1) := pe_lt (by decide)
  by_cases c1 : x1 < 0
  · rw [if_pos (Or.inl c1)] at e
    subst e
    have hf := zk_t rfl hf
    rw [if_pos c1, ← Option.some.inj hf]
  · rw [if_neg c1]
    by_cases c2 : (6 : Int32) ≤ x1
    · rw [if_pos (Or.inr (e5.mpr c2))] at e
      subst e
      have hf := zk_t rfl hf
      rw [if_pos c2, ← Option.some.inj hf]
    · rw [if_neg (fun z => z.elim c1 (fun y => c2 (e5.mp y)))] at e
      subst e
      have hf := zk_f (by decide) hf
      rw [if_neg c2]
      obtain ⟨r2, u2, h2, hf⟩ := zk_o2 hf
      rw [pe_in] at h2
      have e2 := (congrArg Prod.fst (Option.some.inj h2))
      dsimp only at e2
      by_cases c3 : x2 < 0
      · rw [if_pos (Or.inl c3)] at e2
        subst e2
        have hf := zk_t rfl hf
        rw [if_pos c3, ← Option.some.inj hf]
      · rw [if_neg c3]
        by_cases c4 : (4 : Int32) < x2
        · rw [if_pos (Or.inr c4)] at e2
          subst e2
          have hf := zk_t rfl hf
          rw [if_pos c4, ← Option.some.inj hf]
        · rw [if_neg (fun z => z.elim c3 c4)] at e2
          subst e2
          have hf := zk_f (by decide) hf
          rw [if_neg c4]
          by_cases c5 : x3 ≤ (60 : Int32)
          · have hf := zk_t c5 hf
            rw [if_pos c5]
            by_cases c6 : 0 ≤ x3
            · have hf := zk_t c6 hf
              obtain ⟨v1, _, hf⟩ := zk_lt hf
              obtain ⟨_, hf⟩ := zk_gd hf
              obtain ⟨f1, _, hf⟩ := zk_lt hf
              obtain ⟨_, hf⟩ := zk_gd hf
              obtain ⟨f2, _, hf⟩ := zk_lt hf
              obtain ⟨v2, _, hf⟩ := zk_lt hf
              rw [if_pos c6]
              exact pr12g _ _ _ _ _ _ _ hf
            · have hf := zk_f c6 hf
              rw [if_neg c6, ← Option.some.inj hf]
          · have hf := zk_f c5 hf
            rw [if_neg c5, ← Option.some.inj hf]
