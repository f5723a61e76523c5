
theorem zl_in {x c : Int32} {L : Nat} (h : 0 ≤ x.toInt ∧ x.toInt + 6 ≤ (L : Int)) (hL : L ≤ 3072) (hc : 0 ≤ c.toInt ∧ c.toInt ≤ 5) : vp_in (x + c) L := by
  have e : (x + c).toInt = x.toInt + c.toInt := by rw [Int32.toInt_add]; exact zi_bm2 (by omega) (by omega)
  unfold vp_in
  rintro (h1 | h1)
  · have h2 := Int32.lt_iff_toInt_lt.mp h1
    rw [e, zl_0] at h2
    omega
  · have h2 : (x + c).toNatClampNeg = (x + c).toInt.toNat := rfl
    omega
theorem zl_in0 {x : Int32} {L : Nat} (h : 0 ≤ x.toInt ∧ x.toInt + 6 ≤ (L : Int)) : vp_in x L := by
  unfold vp_in
  rintro (h1 | h1)
  · have h2 := Int32.lt_iff_toInt_lt.mp h1
    rw [zl_0] at h2
    omega
  · have h2 : x.toNatClampNeg = x.toInt.toNat := rfl
    omega
theorem zk_pl (x : Int32) : ∃ j, j < 6 ∧ ((¬ x < 0 ∧ ¬ 6 ≤ x) → x.toNatClampNeg = j) := by
  by_cases h : ¬ x < 0 ∧ ¬ 6 ≤ x
  · refine ⟨x.toNatClampNeg, ?_, fun _ => rfl⟩
    have h1 := h.1
    have h2 := h.2
    rw [Int32.lt_iff_toInt_lt] at h1
    rw [Int32.le_iff_toInt_le] at h2
    have e0 : (0 : Int32).toInt = 0 := by decide
    have e6 : (6 : Int32).toInt = 6 := by decide
    have e : x.toNatClampNeg = x.toInt.toNat := rfl
    omega
  · exact ⟨0, by omega, fun z => absurd z h⟩
theorem zk_lc (x : Int64) : lg_cmp x x = 0 := by
  have : ¬ x < x := Int64.lt_irrefl
  simp [lg_cmp, this]
def RL (z : ZT) (w : MT) : Prop := (z.1 1) = (w.1 2) ∧ (z.2.1 6) = (w.2.1 4) ∧ (z.2.1 7) = (w.2.1 5) ∧ (z.2.1 8) = (w.2.1 6) ∧ (z.2.1 9) = (w.2.1 7) ∧ (z.1 13) = (w.1 12) ∧ (z.2.1 17) = (w.2.1 34) ∧ (z.2.1 18) = (w.2.1 35)
theorem RL_o {z z2 : ZT} {w w2 : MT} (a0 : (z2.1 1) = (z.1 1)) (a1 : (z2.2.1 6) = (z.2.1 6)) (a2 : (z2.2.1 7) = (z.2.1 7)) (a3 : (z2.2.1 8) = (z.2.1 8)) (a4 : (z2.2.1 9) = (z.2.1 9)) (a5 : (z2.1 13) = (z.1 13)) (a6 : (z2.2.1 17) = (z.2.1 17)) (a7 : (z2.2.1 18) = (z.2.1 18)) (b0 : (w2.1 2) = (w.1 2)) (b1 : (w2.2.1 4) = (w.2.1 4)) (b2 : (w2.2.1 5) = (w.2.1 5)) (b3 : (w2.2.1 6) = (w.2.1 6)) (b4 : (w2.2.1 7) = (w.2.1 7)) (b5 : (w2.1 12) = (w.1 12)) (b6 : (w2.2.1 34) = (w.2.1 34)) (b7 : (w2.2.1 35) = (w.2.1 35)) (h : RL z w) : RL z2 w2 := ⟨a0.trans ((h.1).trans b0.symm), a1.trans ((h.2.1).trans b1.symm), a2.trans ((h.2.2.1).trans b2.symm), a3.trans ((h.2.2.2.1).trans b3.symm), a4.trans ((h.2.2.2.2.1).trans b4.symm), a5.trans ((h.2.2.2.2.2.1).trans b5.symm), a6.trans ((h.2.2.2.2.2.2.1).trans b6.symm), a7.trans ((h.2.2.2.2.2.2.2).trans b7.symm)⟩
theorem pe_in (x lo hi : Int32) : f_X12_in x lo hi = some ((if x < lo ∨ hi < x then (0 : Int32) else 1), ()) := by
  unfold f_X12_in B_X12_in_0
  by_cases h1 : x < lo
  · rw [if_pos h1, if_pos (Or.inl h1)]
  · by_cases h2 : hi < x
    · rw [if_neg h1, if_pos h2, if_pos (Or.inr h2)]
    · rw [if_neg h1, if_neg h2, if_neg (fun z => z.elim h1 h2)]
theorem pe_b2 {A B C : Type} (a : A) (b : B) (k : A → B → Option C) : zk_b2 (some (a, b)) k = k a b := rfl
theorem pe_lt {x : Int32} {a b : Int32} (h : b.toInt = a.toInt + 1) : (a < x) ↔ (b ≤ x) := by
  rw [Int32.lt_iff_toInt_lt, Int32.le_iff_toInt_le]
  omega
set_option maxHeartbeats 1000000 in
theorem pe_claim {x1 x2 x3 : Int32} {q_court_shoeCount : Int32} {q_court_claimCount : Int32} {q_court_suitCount : Int32} {q_court_claimWho : Nat → Int32} {q_court_claimAgainst : Nat → Int32} {q_court_claimFact : Nat → Int32} {q_court_claimPlea : Nat → Int32} {q_mod_code : Int32} {q_mod_shoes : Int32} {q_mod_taped : Int32} {q_mod_here : Int32} {q_mod_fault : Int32} {q_mod_suits : Int32} {q_mod_doneMany : Int32} {q_mod_undoneMany : Int32} {q_mod_open : Int32} {q_mod_laid : Int32} {q_mod_isBoth : Int32} {q_mod_wished : Int32} {q_mod_bestMany : Int32} {q_mod_bestRow : Int32} {q_mod_ringDigits : Int32} {q_mod_traces : Int32} (hc : 0 ≤ q_court_claimCount.toInt ∧ q_court_claimCount.toInt ≤ 32) : f_X12_claim x1 x2 x3 q_mod_code q_mod_shoes q_court_claimCount q_mod_taped q_mod_here q_mod_fault q_mod_suits q_mod_doneMany q_mod_undoneMany q_mod_open q_mod_laid q_mod_isBoth q_mod_wished q_mod_bestMany q_mod_bestRow q_mod_ringDigits q_mod_traces q_court_claimWho q_court_claimAgainst q_court_claimFact q_court_claimPlea = f_X11_claim x1 x2 x3 q_court_shoeCount q_court_claimCount q_court_suitCount q_court_claimWho q_court_claimAgainst q_court_claimFact q_court_claimPlea := by
  have e : f_X12_isPair x1 = f_X11_isPair x1 := rfl
  unfold f_X12_claim B_X12_claim_0 f_X11_claim B_X11_claim_0
  rw [e]
  unfold zk_b2
  refine congrArg (Option.bind (f_X11_isPair x1)) (funext fun q => ?_)
  obtain ⟨r, u⟩ := q
  dsimp only
  by_cases c1 : r = 0
  · rw [if_pos c1, if_pos c1]
  rw [if_neg c1, if_neg c1]
  by_cases c2 : x1 / (100 : Int32) = x1 - x1 / (100 : Int32) * (100 : Int32)
  · rw [if_pos c2, if_pos c2]
  rw [if_neg c2, if_neg c2, pe_in, Option.bind_some]
  dsimp only
  have e15 : ((15 : Int32) < x2) ↔ ((16 : Int32) ≤ x2) := pe_lt (by decide)
  have e3 : ¬ ((3 : Int32) < x3) ↔ (x3 < (4 : Int32)) := by
    rw [pe_lt (a := 3) (b := 4) (by decide)]
    exact Int32.not_le
  by_cases c3 : x2 < 0
  · rw [if_pos (Or.inl c3), if_pos rfl, if_pos c3]
  by_cases c4 : (16 : Int32) ≤ x2
  · rw [if_pos (Or.inr (e15.mpr c4)), if_pos rfl, if_neg c3, if_pos c4]
  have hn3 : ¬ (x2 < 0 ∨ (15 : Int32) < x2) := fun z => z.elim c3 (fun y => c4 (e15.mp y))
  have hn1 : ¬ ((1 : Int32) = 0) := by decide
  rw [if_neg hn3, if_neg hn1, if_neg c3, if_neg c4, pe_in, Option.bind_some]
  dsimp only
  by_cases c5 : x3 < 0
  · rw [if_pos (Or.inl c5), if_pos rfl, if_pos c5]
  by_cases c6 : x3 < (4 : Int32)
  · have hn5 : ¬ (x3 < 0 ∨ (3 : Int32) < x3) := fun z => z.elim c5 (fun y => absurd y (e3.mpr c6))
    rw [if_neg hn5, if_neg hn1, if_neg c5, if_pos c6]
    unfold f_X2_addClaim B_X2_addClaim_0
    by_cases c7 : q_court_claimCount = (32 : Int32)
    · rw [if_pos c7, if_neg (by rw [c7]; decide)]
      rfl
    · have c8 : q_court_claimCount < (32 : Int32) := by
        rw [Int32.lt_iff_toInt_lt]
        have e32 : (32 : Int32).toInt = 32 := by decide
        have : q_court_claimCount.toInt ≠ 32 := fun z => c7 (Int32.toInt_inj.mp (z.trans e32.symm))
        omega
      have g : ¬ (q_court_claimCount < 0 ∨ 32 ≤ q_court_claimCount.toNatClampNeg) := by
        rintro (z | z)
        · have := Int32.lt_iff_toInt_lt.mp z
          have e0 : (0 : Int32).toInt = 0 := by decide
          omega
        · have e1 : q_court_claimCount.toNatClampNeg = q_court_claimCount.toInt.toNat := rfl
          have := Int32.lt_iff_toInt_lt.mp c8
          have e32 : (32 : Int32).toInt = 32 := by decide
          omega
      rw [if_neg c7, if_pos c8]
      unfold zk_let
      simp only [if_neg g]
      rfl
  · have c9 : (3 : Int32) < x3 := Decidable.not_not.mp (fun z => c6 (e3.mp z))
    rw [if_pos (Or.inr c9), if_pos rfl, if_neg c5, if_neg c6]
set_option maxHeartbeats 1000000 in
theorem pe_ofClaim {x1 x2 : Int32} {q_court_shoeCount : Int32} {q_court_claimCount : Int32} {q_court_suitCount : Int32} {q_court_claimWho : Nat → Int32} {q_court_claimAgainst : Nat → Int32} {q_court_claimFact : Nat → Int32} {q_court_claimPlea : Nat → Int32} {q_mod_code : Int32} {q_mod_shoes : Int32} {q_mod_taped : Int32} {q_mod_here : Int32} {q_mod_fault : Int32} {q_mod_suits : Int32} {q_mod_doneMany : Int32} {q_mod_undoneMany : Int32} {q_mod_open : Int32} {q_mod_laid : Int32} {q_mod_isBoth : Int32} {q_mod_wished : Int32} {q_mod_bestMany : Int32} {q_mod_bestRow : Int32} {q_mod_ringDigits : Int32} {q_mod_traces : Int32} (hc : 0 ≤ q_court_claimCount.toInt ∧ q_court_claimCount.toInt ≤ 32) : f_X12_ofClaim x1 x2 q_mod_code q_mod_shoes q_court_claimCount q_mod_taped q_mod_here q_mod_fault q_mod_suits q_mod_doneMany q_mod_undoneMany q_mod_open q_mod_laid q_mod_isBoth q_mod_wished q_mod_bestMany q_mod_bestRow q_mod_ringDigits q_mod_traces q_court_claimWho q_court_claimAgainst q_court_claimFact q_court_claimPlea = f_X11_ofClaim x1 x2 q_court_shoeCount q_court_claimCount q_court_suitCount q_court_claimWho q_court_claimAgainst q_court_claimFact q_court_claimPlea := by
  have e0 : (0 : Int32).toInt = 0 := by decide
  have e1 : (1 : Int32).toInt = 1 := by decide
  have hs : (q_court_claimCount - 1).toInt = q_court_claimCount.toInt - 1 := by rw [Int32.toInt_sub, e1]; exact zi_bm2 (by omega) (by omega)
  have e : f_X12_isClaim x1 q_mod_code q_mod_shoes q_court_claimCount q_mod_taped q_mod_here q_mod_fault q_mod_suits q_mod_doneMany q_mod_undoneMany q_mod_open q_mod_laid q_mod_isBoth q_mod_wished q_mod_bestMany q_mod_bestRow q_mod_ringDigits q_mod_traces = f_X11_isClaim x1 q_court_shoeCount q_court_claimCount q_court_suitCount := by
    unfold f_X12_isClaim B_X12_isClaim_0 f_X11_isClaim B_X11_isClaim_0
    rw [pe_in, pe_b2]
    by_cases c1 : x1 < 0
    · have h00 : ¬ ¬ ((0 : Int32) = 0 ∨ (0 : Int32) = 1) := by decide
      rw [if_pos (Or.inl c1), if_neg h00, if_pos c1]
    · by_cases c2 : q_court_claimCount ≤ x1
      · have c3 : q_court_claimCount - 1 < x1 := by
          rw [Int32.lt_iff_toInt_lt, hs]
          have := Int32.le_iff_toInt_le.mp c2
          omega
        have h00 : ¬ ¬ ((0 : Int32) = 0 ∨ (0 : Int32) = 1) := by decide
        rw [if_pos (Or.inr c3), if_neg h00, if_neg c1, if_pos c2]
      · have c3 : ¬ (q_court_claimCount - 1 < x1) := fun z => by
          have h1 := Int32.lt_iff_toInt_lt.mp z
          rw [hs] at h1
          exact c2 (Int32.le_iff_toInt_le.mpr (by omega))
        have hn : ¬ (x1 < 0 ∨ q_court_claimCount - 1 < x1) := fun z => z.elim c1 c3
        have h01 : ¬ ¬ ((1 : Int32) = 0 ∨ (1 : Int32) = 1) := by decide
        rw [if_neg hn, if_neg h01, if_neg c1, if_neg c2]
  unfold f_X12_ofClaim B_X12_ofClaim_0 f_X11_ofClaim B_X11_ofClaim_0
  rw [e]
theorem pe_isClaim {x1 cc s : Int32} {mod_code : Int32} {mod_shoes : Int32} {mod_taped : Int32} {mod_here : Int32} {mod_fault : Int32} {mod_suits : Int32} {mod_doneMany : Int32} {mod_undoneMany : Int32} {mod_open : Int32} {mod_laid : Int32} {mod_isBoth : Int32} {mod_bestMany : Int32} {mod_bestRow : Int32} {mod_ringDigits : Int32} {mod_traces : Int32} {court_shoeCount : Int32} {court_suitCount : Int32} (hc : 0 ≤ cc.toInt ∧ cc.toInt ≤ 32) : f_X12_isClaim x1 mod_code mod_shoes cc mod_taped mod_here mod_fault mod_suits mod_doneMany mod_undoneMany mod_open mod_laid mod_isBoth s mod_bestMany mod_bestRow mod_ringDigits mod_traces = f_X11_isClaim x1 court_shoeCount cc court_suitCount := by
  have e0 : (0 : Int32).toInt = 0 := by decide
  have e1 : (1 : Int32).toInt = 1 := by decide
  have hs : (cc - 1).toInt = cc.toInt - 1 := by rw [Int32.toInt_sub, e1]; exact zi_bm2 (by omega) (by omega)
  unfold f_X12_isClaim B_X12_isClaim_0 f_X11_isClaim B_X11_isClaim_0
  rw [pe_in, pe_b2]
  by_cases c1 : x1 < 0
  · have h00 : ¬ ¬ ((0 : Int32) = 0 ∨ (0 : Int32) = 1) := by decide
    rw [if_pos (Or.inl c1), if_neg h00, if_pos c1]
  · by_cases c2 : cc ≤ x1
    · have c3 : cc - 1 < x1 := by
        rw [Int32.lt_iff_toInt_lt, hs]
        have := Int32.le_iff_toInt_le.mp c2
        omega
      have h00 : ¬ ¬ ((0 : Int32) = 0 ∨ (0 : Int32) = 1) := by decide
      rw [if_pos (Or.inr c3), if_neg h00, if_neg c1, if_pos c2]
    · have c3 : ¬ (cc - 1 < x1) := fun z => by
        have h1 := Int32.lt_iff_toInt_lt.mp z
        rw [hs] at h1
        exact c2 (Int32.le_iff_toInt_le.mpr (by omega))
      have hn : ¬ (x1 < 0 ∨ cc - 1 < x1) := fun z => z.elim c1 c3
      have h01 : ¬ ¬ ((1 : Int32) = 0 ∨ (1 : Int32) = 1) := by decide
      rw [if_neg hn, if_neg h01, if_neg c1, if_neg c2]
def pwR (r s x1 x2 : Int32) (c w : Nat → Int32) (R : Int32 × Int32 × (Nat → Int32) × (Nat → Int32)) : Prop :=
  (¬ r = 0 → R.1 = -1 ∧ R.2.1 = s ∧ R.2.2.1 = c ∧ R.2.2.2 = w) ∧ (r = 0 → s = 5 → R.1 = -3 ∧ R.2.1 = s ∧ R.2.2.1 = c ∧ R.2.2.2 = w) ∧ (r = 0 → ¬ s = 5 → R.1 = s + 1 ∧ R.2.1 = s + 1 ∧ R.2.2.1 = upd c s.toNatClampNeg x1 ∧ R.2.2.2 = upd w s.toNatClampNeg x2)
theorem pwg {mod_code : Int32} {mod_shoes : Int32} {mod_claims : Int32} {mod_taped : Int32} {mod_here : Int32} {mod_fault : Int32} {mod_suits : Int32} {mod_doneMany : Int32} {mod_undoneMany : Int32} {mod_open : Int32} {mod_laid : Int32} {mod_isBoth : Int32} {mod_bestMany : Int32} {mod_bestRow : Int32} {mod_ringDigits : Int32} {mod_traces : Int32} {wishes_best : Int32} {wishes_bestRow : Int32} {x1 x2 s : Int32} {c w : Nat → Int32} : ∀ (n m : Nat) (x3 r : Int32) (u : Unit) (R : Int32 × Int32 × (Nat → Int32) × (Nat → Int32)), G_X12_wish mod_code mod_shoes mod_claims mod_taped mod_here mod_fault mod_suits mod_doneMany mod_undoneMany mod_open mod_laid mod_isBoth mod_bestMany mod_bestRow mod_ringDigits mod_traces n x1 x2 x3 s c w = some R → G_X10_has s wishes_best wishes_bestRow c m x1 x3 = some (r, u) → pwR r s x1 x2 c w R := by
  intro n
  induction n with
  | zero => intro m x3 r u R h; cases h
  | succ n ih =>
    intro m x3 r u R h hm
    cases m with
    | zero => cases hm
    | succ m =>
      have h : B_X12_wish_21 (G_X12_wish mod_code mod_shoes mod_claims mod_taped mod_here mod_fault mod_suits mod_doneMany mod_undoneMany mod_open mod_laid mod_isBoth mod_bestMany mod_bestRow mod_ringDigits mod_traces n) mod_code mod_shoes mod_claims mod_taped mod_here mod_fault mod_suits mod_doneMany mod_undoneMany mod_open mod_laid mod_isBoth mod_bestMany mod_bestRow mod_ringDigits mod_traces x1 x2 x3 s c w = some R := h
      have hm : B_X10_has_2 (G_X10_has s wishes_best wishes_bestRow c m) s wishes_best wishes_bestRow c x1 x3 = some (r, u) := hm
      unfold B_X12_wish_21 at h
      unfold B_X10_has_2 at hm
      by_cases k : s ≤ x3
      · have h := zk_t k h
        have hm := zk_t k hm
        have e : (0 : Int32) = r := congrArg Prod.fst (Option.some.inj hm)
        subst e
        refine ⟨fun z => absurd rfl z, fun _ k2 => ?_, fun _ k2 => ?_⟩
        · have h := zk_t k2 h
          rw [← Option.some.inj h]
          exact ⟨rfl, rfl, rfl, rfl⟩
        · have h := zk_f k2 h
          obtain ⟨_, h⟩ := zk_gd h
          obtain ⟨f1, e1, h⟩ := zk_lt h
          obtain ⟨_, h⟩ := zk_gd h
          obtain ⟨f2, e2, h⟩ := zk_lt h
          obtain ⟨v, e3, h⟩ := zk_lt h
          rw [← Option.some.inj h, e3, e1, e2]
          exact ⟨rfl, rfl, rfl, rfl⟩
      · have h := zk_f k h
        have hm := zk_f k hm
        obtain ⟨_, h⟩ := zk_gd h
        obtain ⟨_, hm⟩ := zk_gd hm
        by_cases k2 : c x3.toNatClampNeg = x1
        · have h := zk_t k2 h
          have hm := zk_t k2 hm
          have e : (1 : Int32) = r := congrArg Prod.fst (Option.some.inj hm)
          subst e
          refine ⟨fun _ => ?_, fun z => absurd z (by decide), fun z => absurd z (by decide)⟩
          rw [← Option.some.inj h]
          exact ⟨rfl, rfl, rfl, rfl⟩
        · have h := zk_f k2 h
          have hm := zk_f k2 hm
          obtain ⟨v, e, h⟩ := zk_lt h
          obtain ⟨v2, e2, hm⟩ := zk_lt hm
          subst e
          subst e2
          exact ih _ _ _ _ _ h hm
theorem pe_wish {x1 x2 cc s : Int32} {c w : Nat → Int32} {court_shoeCount : Int32} {court_suitCount : Int32} {wishes_best : Int32} {wishes_bestRow : Int32} {mod_code : Int32} {mod_shoes : Int32} {mod_taped : Int32} {mod_here : Int32} {mod_fault : Int32} {mod_suits : Int32} {mod_doneMany : Int32} {mod_undoneMany : Int32} {mod_open : Int32} {mod_laid : Int32} {mod_isBoth : Int32} {mod_bestMany : Int32} {mod_bestRow : Int32} {mod_ringDigits : Int32} {mod_traces : Int32} {R1 R2 : Int32 × Int32 × (Nat → Int32) × (Nat → Int32)} (hc : 0 ≤ cc.toInt ∧ cc.toInt ≤ 32) (hs : 0 ≤ s.toInt ∧ s.toInt ≤ 5) (hf1 : f_X11_wish x1 x2 court_shoeCount cc court_suitCount s wishes_best wishes_bestRow c w = some R1) (hf2 : f_X12_wish 100000 x1 x2 mod_code mod_shoes cc mod_taped mod_here mod_fault mod_suits mod_doneMany mod_undoneMany mod_open mod_laid mod_isBoth s mod_bestMany mod_bestRow mod_ringDigits mod_traces c w = some R2) : R1.1 = R2.1 ∧ R1.2.1 = R2.2.1 ∧ R1.2.2.1 = R2.2.2.1 ∧ R1.2.2.2 = R2.2.2.2 := by
  unfold f_X11_wish B_X11_wish_0 at hf1
  unfold f_X12_wish B_X12_wish_0 at hf2
  rw [pe_isClaim (court_shoeCount := court_shoeCount) (court_suitCount := court_suitCount) hc] at hf2
  obtain ⟨r, u, a1, hf1⟩ := zk_o2 hf1
  obtain ⟨r', u', a2, hf2⟩ := zk_o2 hf2
  have e : r = r' := congrArg Prod.fst (Option.some.inj (a1.symm.trans a2))
  subst e
  by_cases c1 : r = 0
  · have hf1 := zk_t c1 hf1
    have hf2 := zk_t c1 hf2
    rw [← Option.some.inj hf1, ← Option.some.inj hf2]
    exact ⟨rfl, rfl, rfl, rfl⟩
  have hf1 := zk_f c1 hf1
  have hf2 := zk_f c1 hf2
  obtain ⟨r2, u2, a3, hf1⟩ := zk_o2 hf1
  obtain ⟨r2', u2', a4, hf2⟩ := zk_o2 hf2
  have e2 : (r2 = 0) ↔ (r2' = 0) := by
    rw [pe_in] at a4
    have e4 := congrArg Prod.fst (Option.some.inj a4)
    dsimp only at e4
    unfold f_X11_isChoice B_X11_isChoice_0 B_X11_isChoice_9 at a3
    have e1 : ((1 : Int32) < x2) ↔ ((2 : Int32) ≤ x2) := pe_lt (by decide)
    by_cases k1 : x2 = 0
    · have a3 := zk_t k1 a3
      have e3 : (1 : Int32) = r2 := congrArg Prod.fst (Option.some.inj a3)
      rw [k1, if_neg (by decide)] at e4
      rw [← e3, ← e4]
    · have a3 := zk_f k1 a3
      by_cases k2 : x2 = (1 : Int32)
      · have a3 := zk_t k2 a3
        have e3 : (1 : Int32) = r2 := congrArg Prod.fst (Option.some.inj a3)
        rw [k2, if_neg (by decide)] at e4
        rw [← e3, ← e4]
      · have a3 := zk_f k2 a3
        have e3 : (0 : Int32) = r2 := congrArg Prod.fst (Option.some.inj a3)
        have k3 : x2 < 0 ∨ (1 : Int32) < x2 := by
          rw [Int32.lt_iff_toInt_lt, Int32.lt_iff_toInt_lt]
          have e0 : (0 : Int32).toInt = 0 := by decide
          have e1 : (1 : Int32).toInt = 1 := by decide
          have n0 : x2.toInt ≠ 0 := fun z => k1 (Int32.toInt_inj.mp (z.trans e0.symm))
          have n1 : x2.toInt ≠ 1 := fun z => k2 (Int32.toInt_inj.mp (z.trans e1.symm))
          omega
        rw [if_pos k3] at e4
        rw [← e3, ← e4]
  by_cases c2 : r2 = 0
  · have hf1 := zk_t c2 hf1
    have hf2 := zk_t (e2.mp c2) hf2
    rw [← Option.some.inj hf1, ← Option.some.inj hf2]
    exact ⟨rfl, rfl, rfl, rfl⟩
  have hf1 := zk_f c2 hf1
  have hf2 := zk_f (fun z => c2 (e2.mpr z)) hf2
  obtain ⟨r3, u3, a5, hf1⟩ := zk_o2 hf1
  unfold f_X10_has B_X10_has_0 at a5
  obtain ⟨w1, w2, w3⟩ := pwg _ _ _ _ _ _ hf2 a5
  have e5 : (5 : Int32).toInt = 5 := by decide
  by_cases c3 : r3 = 0
  · have hf1 := zk_t c3 hf1
    by_cases c4 : s = 5
    · have hf1 := zk_f (by rw [c4]; decide) hf1
      obtain ⟨q1, q2, q3, q4⟩ := w2 c3 c4
      rw [← Option.some.inj hf1]
      exact ⟨q1.symm, q2.symm, q3.symm, q4.symm⟩
    · have n5 : s.toInt ≠ 5 := fun z => c4 (Int32.toInt_inj.mp (z.trans e5.symm))
      have hf1 := zk_t (show s < (5 : Int32) by rw [Int32.lt_iff_toInt_lt]; omega) hf1
      obtain ⟨v1, v2, v3, a6, hf1⟩ := zk_o3 hf1
      unfold f_X10_add B_X10_add_0 at a6
      have a6 := zk_f (show ¬ (5 : Int32) ≤ s by rw [Int32.le_iff_toInt_le]; omega) a6
      obtain ⟨_, a6⟩ := zk_gd a6
      obtain ⟨f1, d1, a6⟩ := zk_lt a6
      obtain ⟨_, a6⟩ := zk_gd a6
      obtain ⟨f2, d2, a6⟩ := zk_lt a6
      obtain ⟨v, d3, a6⟩ := zk_lt a6
      obtain ⟨q1, q2, q3, q4⟩ := w3 c3 c4
      have h6 := Option.some.inj a6
      have g1 : v = v1 := congrArg Prod.fst h6
      have g2 : f1 = v2 := congrArg (fun z => z.2.1) h6
      rw [← Option.some.inj hf1]
      have g3 : f2 = v3 := congrArg (fun z => z.2.2) h6
      refine ⟨?_, ?_, ?_, ?_⟩
      · rw [q1, ← d3]; exact g1.symm
      · rw [q2, ← d3]; exact g1.symm
      · rw [q3, ← d1]; exact g2.symm
      · rw [q4, ← d2]; exact g3.symm
  · have hf1 := zk_f c3 hf1
    obtain ⟨q1, q2, q3, q4⟩ := w1 c3
    rw [← Option.some.inj hf1]
    exact ⟨q1.symm, q2.symm, q3.symm, q4.symm⟩
