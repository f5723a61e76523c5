
theorem zl_in {x c : Int32} {L : Nat} (h : 0 ≤ x.toInt ∧ x.toInt + 6 ≤ (L : Int)) (hL : L ≤ 3072) (hc : 0 ≤ c.toInt ∧ c.toInt ≤ 5) : vp_in (x + c) L := by
  have e : (x + c).toInt = x.toInt + c.toInt := by rw [Int32.toInt_add]; exact zi_bm2 (by omega) (by omega)
  unfold vp_in
  rintro (h1 | h1)
  · have h2 := Int32.lt_iff_toInt_lt.mp h1
    rw [e, zl_0] at h2
    omega
  · have h2 : (x + c).toNatClampNeg = (x + c).toInt.toNat := rfl
    omega
theorem zl_in0 {x : Int32} {L : Nat} (h : 0 ≤ x.toInt ∧ x.toInt + 6 ≤ (L : Int)) : vp_in x L := by
  unfold vp_in
  rintro (h1 | h1)
  · have h2 := Int32.lt_iff_toInt_lt.mp h1
    rw [zl_0] at h2
    omega
  · have h2 : x.toNatClampNeg = x.toInt.toNat := rfl
    omega
theorem zk_pl (x : Int32) : ∃ j, j < 6 ∧ ((¬ x < 0 ∧ ¬ 6 ≤ x) → x.toNatClampNeg = j) := by
  by_cases h : ¬ x < 0 ∧ ¬ 6 ≤ x
  · refine ⟨x.toNatClampNeg, ?_, fun _ => rfl⟩
    have h1 := h.1
    have h2 := h.2
    rw [Int32.lt_iff_toInt_lt] at h1
    rw [Int32.le_iff_toInt_le] at h2
    have e0 : (0 : Int32).toInt = 0 := by decide
    have e6 : (6 : Int32).toInt = 6 := by decide
    have e : x.toNatClampNeg = x.toInt.toNat := rfl
    omega
  · exact ⟨0, by omega, fun z => absurd z h⟩
theorem zk_lc (x : Int64) : lg_cmp x x = 0 := by
  have : ¬ x < x := Int64.lt_irrefl
  simp [lg_cmp, this]
def RL (z : ZT) (w : MT) : Prop := (z.1 1) = (w.1 2) ∧ (z.2.1 6) = (w.2.1 4) ∧ (z.2.1 7) = (w.2.1 5) ∧ (z.2.1 8) = (w.2.1 6) ∧ (z.2.1 9) = (w.2.1 7)
theorem RL_o {z z2 : ZT} {w w2 : MT} (a0 : (z2.1 1) = (z.1 1)) (a1 : (z2.2.1 6) = (z.2.1 6)) (a2 : (z2.2.1 7) = (z.2.1 7)) (a3 : (z2.2.1 8) = (z.2.1 8)) (a4 : (z2.2.1 9) = (z.2.1 9)) (b0 : (w2.1 2) = (w.1 2)) (b1 : (w2.2.1 4) = (w.2.1 4)) (b2 : (w2.2.1 5) = (w.2.1 5)) (b3 : (w2.2.1 6) = (w.2.1 6)) (b4 : (w2.2.1 7) = (w.2.1 7)) (h : RL z w) : RL z2 w2 := ⟨a0.trans ((h.1).trans b0.symm), a1.trans ((h.2.1).trans b1.symm), a2.trans ((h.2.2.1).trans b2.symm), a3.trans ((h.2.2.2.1).trans b3.symm), a4.trans ((h.2.2.2.2).trans b4.symm)⟩
theorem pe_in (x lo hi : Int32) : f_X12_in x lo hi = some ((if x < lo ∨ hi < x then (0 : Int32) else 1), ()) := by
  unfold f_X12_in B_X12_in_0
  by_cases h1 : x < lo
  · rw [if_pos h1, if_pos (Or.inl h1)]
  · by_cases h2 : hi < x
    · rw [if_neg h1, if_pos h2, if_pos (Or.inr h2)]
    · rw [if_neg h1, if_neg h2, if_neg (fun z => z.elim h1 h2)]
theorem pe_b2 {A B C : Type} (a : A) (b : B) (k : A → B → Option C) : zk_b2 (some (a, b)) k = k a b := rfl
theorem pe_lt {x : Int32} {a b : Int32} (h : b.toInt = a.toInt + 1) : (a < x) ↔ (b ≤ x) := by
  rw [Int32.lt_iff_toInt_lt, Int32.le_iff_toInt_le]
  omega
set_option maxHeartbeats 1000000 in
theorem pe_claim {x1 x2 x3 : Int32} {q_court_shoeCount : Int32} {q_court_claimCount : Int32} {q_court_suitCount : Int32} {q_court_claimWho : Nat → Int32} {q_court_claimAgainst : Nat → Int32} {q_court_claimFact : Nat → Int32} {q_court_claimPlea : Nat → Int32} {q_mod_code : Int32} {q_mod_shoes : Int32} {q_mod_taped : Int32} {q_mod_here : Int32} {q_mod_fault : Int32} {q_mod_suits : Int32} {q_mod_doneMany : Int32} {q_mod_undoneMany : Int32} {q_mod_open : Int32} {q_mod_laid : Int32} {q_mod_isBoth : Int32} {q_mod_wished : Int32} {q_mod_bestMany : Int32} {q_mod_bestRow : Int32} {q_mod_ringDigits : Int32} {q_mod_traces : Int32} (hc : 0 ≤ q_court_claimCount.toInt ∧ q_court_claimCount.toInt ≤ 32) : f_X12_claim x1 x2 x3 q_mod_code q_mod_shoes q_court_claimCount q_mod_taped q_mod_here q_mod_fault q_mod_suits q_mod_doneMany q_mod_undoneMany q_mod_open q_mod_laid q_mod_isBoth q_mod_wished q_mod_bestMany q_mod_bestRow q_mod_ringDigits q_mod_traces q_court_claimWho q_court_claimAgainst q_court_claimFact q_court_claimPlea = f_X11_claim x1 x2 x3 q_court_shoeCount q_court_claimCount q_court_suitCount q_court_claimWho q_court_claimAgainst q_court_claimFact q_court_claimPlea := by
  have e : f_X12_isPair x1 = f_X11_isPair x1 := rfl
  unfold f_X12_claim B_X12_claim_0 f_X11_claim B_X11_claim_0
  rw [e]
  unfold zk_b2
  refine congrArg (Option.bind (f_X11_isPair x1)) (funext fun q => ?_)
  obtain ⟨r, u⟩ := q
  dsimp only
  by_cases c1 : r = 0
  · rw [if_pos c1, if_pos c1]
  rw [if_neg c1, if_neg c1]
  by_cases c2 : x1 / (100 : Int32) = x1 - x1 / (100 : Int32) * (100 : Int32)
  · rw [if_pos c2, if_pos c2]
  rw [if_neg c2, if_neg c2, pe_in, Option.bind_some]
  dsimp only
  have e15 : ((15 : Int32) < x2) ↔ ((16 : Int32) ≤ x2) := pe_lt (by decide)
  have e3 : ¬ ((3 : Int32) < x3) ↔ (x3 < (4 : Int32)) := by
    rw [pe_lt (a := 3) (b := 4) (by decide)]
    exact Int32.not_le
  by_cases c3 : x2 < 0
  · rw [if_pos (Or.inl c3), if_pos rfl, if_pos c3]
  by_cases c4 : (16 : Int32) ≤ x2
  · rw [if_pos (Or.inr (e15.mpr c4)), if_pos rfl, if_neg c3, if_pos c4]
  have hn3 : ¬ (x2 < 0 ∨ (15 : Int32) < x2) := fun z => z.elim c3 (fun y => c4 (e15.mp y))
  have hn1 : ¬ ((1 : Int32) = 0) := by decide
  rw [if_neg hn3, if_neg hn1, if_neg c3, if_neg c4, pe_in, Option.bind_some]
  dsimp only
  by_cases c5 : x3 < 0
  · rw [if_pos (Or.inl c5), if_pos rfl, if_pos c5]
  by_cases c6 : x3 < (4 : Int32)
  · have hn5 : ¬ (x3 < 0 ∨ (3 : Int32) < x3) := fun z => z.elim c5 (fun y => absurd y (e3.mpr c6))
    rw [if_neg hn5, if_neg hn1, if_neg c5, if_pos c6]
    unfold f_X2_addClaim B_X2_addClaim_0
    by_cases c7 : q_court_claimCount = (32 : Int32)
    · rw [if_pos c7, if_neg (by rw [c7]; decide)]
      rfl
    · have c8 : q_court_claimCount < (32 : Int32) := by
        rw [Int32.lt_iff_toInt_lt]
        have e32 : (32 : Int32).toInt = 32 := by decide
        have : q_court_claimCount.toInt ≠ 32 := fun z => c7 (Int32.toInt_inj.mp (z.trans e32.symm))
        omega
      have g : ¬ (q_court_claimCount < 0 ∨ 32 ≤ q_court_claimCount.toNatClampNeg) := by
        rintro (z | z)
        · have := Int32.lt_iff_toInt_lt.mp z
          have e0 : (0 : Int32).toInt = 0 := by decide
          omega
        · have e1 : q_court_claimCount.toNatClampNeg = q_court_claimCount.toInt.toNat := rfl
          have := Int32.lt_iff_toInt_lt.mp c8
          have e32 : (32 : Int32).toInt = 32 := by decide
          omega
      rw [if_neg c7, if_pos c8]
      unfold zk_let
      simp only [if_neg g]
      rfl
  · have c9 : (3 : Int32) < x3 := Decidable.not_not.mp (fun z => c6 (e3.mp z))
    rw [if_pos (Or.inr c9), if_pos rfl, if_neg c5, if_neg c6]
set_option maxHeartbeats 1000000 in
theorem pe_ofClaim {x1 x2 : Int32} {q_court_shoeCount : Int32} {q_court_claimCount : Int32} {q_court_suitCount : Int32} {q_court_claimWho : Nat → Int32} {q_court_claimAgainst : Nat → Int32} {q_court_claimFact : Nat → Int32} {q_court_claimPlea : Nat → Int32} {q_mod_code : Int32} {q_mod_shoes : Int32} {q_mod_taped : Int32} {q_mod_here : Int32} {q_mod_fault : Int32} {q_mod_suits : Int32} {q_mod_doneMany : Int32} {q_mod_undoneMany : Int32} {q_mod_open : Int32} {q_mod_laid : Int32} {q_mod_isBoth : Int32} {q_mod_wished : Int32} {q_mod_bestMany : Int32} {q_mod_bestRow : Int32} {q_mod_ringDigits : Int32} {q_mod_traces : Int32} (hc : 0 ≤ q_court_claimCount.toInt ∧ q_court_claimCount.toInt ≤ 32) : f_X12_ofClaim x1 x2 q_mod_code q_mod_shoes q_court_claimCount q_mod_taped q_mod_here q_mod_fault q_mod_suits q_mod_doneMany q_mod_undoneMany q_mod_open q_mod_laid q_mod_isBoth q_mod_wished q_mod_bestMany q_mod_bestRow q_mod_ringDigits q_mod_traces q_court_claimWho q_court_claimAgainst q_court_claimFact q_court_claimPlea = f_X11_ofClaim x1 x2 q_court_shoeCount q_court_claimCount q_court_suitCount q_court_claimWho q_court_claimAgainst q_court_claimFact q_court_claimPlea := by
  have e0 : (0 : Int32).toInt = 0 := by decide
  have e1 : (1 : Int32).toInt = 1 := by decide
  have hs : (q_court_claimCount - 1).toInt = q_court_claimCount.toInt - 1 := by rw [Int32.toInt_sub, e1]; exact zi_bm2 (by omega) (by omega)
  have e : f_X12_isClaim x1 q_mod_code q_mod_shoes q_court_claimCount q_mod_taped q_mod_here q_mod_fault q_mod_suits q_mod_doneMany q_mod_undoneMany q_mod_open q_mod_laid q_mod_isBoth q_mod_wished q_mod_bestMany q_mod_bestRow q_mod_ringDigits q_mod_traces = f_X11_isClaim x1 q_court_shoeCount q_court_claimCount q_court_suitCount := by
    unfold f_X12_isClaim B_X12_isClaim_0 f_X11_isClaim B_X11_isClaim_0
    rw [pe_in, pe_b2]
    by_cases c1 : x1 < 0
    · have h00 : ¬ ¬ ((0 : Int32) = 0 ∨ (0 : Int32) = 1) := by decide
      rw [if_pos (Or.inl c1), if_neg h00, if_pos c1]
    · by_cases c2 : q_court_claimCount ≤ x1
      · have c3 : q_court_claimCount - 1 < x1 := by
          rw [Int32.lt_iff_toInt_lt, hs]
          have := Int32.le_iff_toInt_le.mp c2
          omega
        have h00 : ¬ ¬ ((0 : Int32) = 0 ∨ (0 : Int32) = 1) := by decide
        rw [if_pos (Or.inr c3), if_neg h00, if_neg c1, if_pos c2]
      · have c3 : ¬ (q_court_claimCount - 1 < x1) := fun z => by
          have h1 := Int32.lt_iff_toInt_lt.mp z
          rw [hs] at h1
          exact c2 (Int32.le_iff_toInt_le.mpr (by omega))
        have hn : ¬ (x1 < 0 ∨ q_court_claimCount - 1 < x1) := fun z => z.elim c1 c3
        have h01 : ¬ ¬ ((1 : Int32) = 0 ∨ (1 : Int32) = 1) := by decide
        rw [if_neg hn, if_neg h01, if_neg c1, if_neg c2]
  unfold f_X12_ofClaim B_X12_ofClaim_0 f_X11_ofClaim B_X11_ofClaim_0
  rw [e]
