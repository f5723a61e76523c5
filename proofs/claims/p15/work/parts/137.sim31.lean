
def FR6 (ac wi : Nat → Int32) (l2 : Int32) (ac2 wi2 : Nat → Int32) : Prop := 0 ≤ l2.toInt ∧ ∀ k, k < 4160 → ac2 k = ac k ∧ wi2 k = wi k
theorem F6_rf {l : Int32} {ac wi : Nat → Int32} (h : 0 ≤ l.toInt) : FR6 ac wi l ac wi := ⟨h, fun _ _ => ⟨rfl, rfl⟩⟩
theorem F6_tr {l2 l3 : Int32} {ac wi ac2 wi2 ac3 wi3 : Nat → Int32} (h : FR6 ac wi l2 ac2 wi2) (h2 : FR6 ac2 wi2 l3 ac3 wi3) : FR6 ac wi l3 ac3 wi3 := ⟨h2.1, fun k hk => by rw [(h2.2 k hk).1, (h2.2 k hk).2]; exact h.2 k hk⟩
def FRP (sub : Int32 → Int32 → Int32 → Int32 → (Nat → Int32) → (Nat → Int32) → Option (Int32 × Int32 × Int32 × Int32 × (Nat → Int32) × (Nat → Int32))) : Prop := ∀ he g o l ac wi u1 u2 u3 u4 u5 u6, 0 ≤ l.toInt → sub he g o l ac wi = some (u1, u2, u3, u4, u5, u6) → FR6 ac wi u4 u5 u6
set_option maxHeartbeats 4000000 in
set_option maxRecDepth 20000 in
theorem fr_lay {mod_code : Int32} {court_shoeCount : Int32} {mod_claims : Int32} {ts : Int32} {court_suitCount : Int32} {mod_doneMany : Int32} {mod_undoneMany : Int32} {mod_isBoth : Int32} {mod_wished : Int32} {mod_bestMany : Int32} {mod_bestRow : Int32} {mod_ringDigits : Int32} {mod_traces : Int32} {x1 x2 he g o l a : Int32} {ac wi b c : Nat → Int32} (hl : 0 ≤ l.toInt) (h : f_X12_lay x1 x2 mod_code court_shoeCount mod_claims ts he g court_suitCount mod_doneMany mod_undoneMany o l mod_isBoth mod_wished mod_bestMany mod_bestRow mod_ringDigits mod_traces ac wi = some (a, b, c)) : FR6 ac wi a b c := by
  unfold f_X12_lay B_X12_lay_0 at h
  replace h := zk_lt h
  obtain ⟨v1, e1, h⟩ := h
  replace h := zk_gd h
  obtain ⟨hg, h⟩ := h
  replace h := zk_lt h
  obtain ⟨v2, e2, h⟩ := h
  replace h := zk_gd h
  obtain ⟨_, h⟩ := h
  replace h := zk_lt h
  obtain ⟨v3, e3, h⟩ := h
  replace h := zk_lt h
  obtain ⟨v4, e4, h⟩ := h
  replace h := Option.some.inj h
  have h1 : v4 = a := congrArg Prod.fst h
  have h2 : v2 = b := congrArg (fun z => z.2.1) h
  have h3 : v3 = c := congrArg (fun z => z.2.2) h
  have hi : 0 ≤ ((4160 : Int32) + l).toInt ∧ ((4160 : Int32) + l).toInt < 4290 := by
    have e : ((4160 : Int32) + l).toNatClampNeg = ((4160 : Int32) + l).toInt.toNat := rfl
    rw [e] at hg
    by_cases c0 : ((4160 : Int32) + l) < 0
    · exact absurd (Or.inl c0) hg
    · rw [i32_lt, z32_0] at c0
      by_cases c1 : 4290 ≤ ((4160 : Int32) + l).toInt.toNat
      · exact absurd (Or.inr c1) hg
      · omega
  have hl2 := Int32.toInt_lt l
  have es : ((4160 : Int32) + l).toInt = 4160 + l.toInt := by
    have e0 : (4160 : Int32).toInt = 4160 := by decide
    rw [Int32.toInt_add, e0] at hi ⊢
    by_cases c0 : 4160 + l.toInt < 2147483648
    · exact zi_bm2 (by omega) (by omega)
    · exfalso
      rw [Int.bmod_def] at hi
      split at hi <;> omega
  have en : ((4160 : Int32) + l).toNatClampNeg = 4160 + l.toInt.toNat := by
    show ((4160 : Int32) + l).toInt.toNat = _
    rw [es]
    omega
  refine ⟨?_, fun k hk => ?_⟩
  · rw [← h1, e4, i32_s (by omega)]
    omega
  · rw [← h2, ← h3, e2, e3, en, upd_n (by omega), upd_n (by omega)]
    exact ⟨rfl, rfl⟩
set_option maxHeartbeats 4000000 in
set_option maxRecDepth 20000 in
theorem fr_figL {mod_code : Int32} {court_shoeCount : Int32} {mod_claims : Int32} {ts : Int32} {court_suitCount : Int32} {mod_doneMany : Int32} {mod_undoneMany : Int32} {mod_isBoth : Int32} {mod_wished : Int32} {mod_bestMany : Int32} {mod_bestRow : Int32} {mod_ringDigits : Int32} {mod_traces : Int32} {tm : Nat → Int32} {o : Int32} : ∀ (n : Nat) (x1 x2 he g l : Int32) (ac wi : Nat → Int32) (S : Int32 × Int32 × Int32 × (Nat → Int32) × (Nat → Int32)), 0 ≤ l.toInt → G_X12_figure mod_code court_shoeCount mod_claims ts court_suitCount mod_doneMany mod_undoneMany o mod_isBoth mod_wished mod_bestMany mod_bestRow mod_ringDigits mod_traces tm n x1 x2 he g l ac wi = some S → FR6 ac wi S.2.2.1 S.2.2.2.1 S.2.2.2.2 := by
  intro n
  induction n with
  | zero =>
    intro x1 x2 he g l ac wi S hl h
    cases h
  | succ n ih =>
    intro x1 x2 he g l ac wi S hl h
    replace h : B_X12_figure_4 (G_X12_figure mod_code court_shoeCount mod_claims ts court_suitCount mod_doneMany mod_undoneMany o mod_isBoth mod_wished mod_bestMany mod_bestRow mod_ringDigits mod_traces tm n) mod_code court_shoeCount mod_claims ts court_suitCount mod_doneMany mod_undoneMany o mod_isBoth mod_wished mod_bestMany mod_bestRow mod_ringDigits mod_traces tm x1 x2 he g l ac wi = some S := h
    have fr0 : FR6 ac wi l ac wi := F6_rf hl
    unfold B_X12_figure_4 at h
    by_cases cc1 : (4 : Int32) ≤ x2
    · replace h := zk_t cc1 h
      have cc1n := cc1
      (try simp only [i32_lt, i32_le, i32_e, z32_0, z32_1, z32L_4] at cc1n)
      unfold B_X12_figure_52 at h
      replace h := zk_f (by (try simp only [i32_lt, i32_le, i32_e, z32_0, z32_1]); omega) h
      replace h := zk_o2 h
      obtain ⟨cv2, cv3, ch4, h⟩ := h
      skip
      replace h := zk_o2 h
      obtain ⟨cv5, cv6, ch7, h⟩ := h
      skip
      by_cases cc8 : cv5 = 0
      · replace h := zk_t cc8 h
        have cc8n := cc8
        (try simp only [i32_lt, i32_le, i32_e, z32_0, z32_1] at cc8n)
        unfold B_X12_figure_74 at h
        replace h := zk_o3 h
        obtain ⟨cv9, cv10, cv11, ch12, h⟩ := h
        obtain ck13 := fr_lay fr0.1 ch12
        have ck14 := F6_tr fr0 ck13
        replace h := Option.some.inj h
        subst h
        exact ck14
      · replace h := zk_f cc8 h
        have cc8n := cc8
        (try simp only [i32_lt, i32_le, i32_e, z32_0, z32_1] at cc8n)
        unfold B_X12_figure_70 at h
        replace h := zk_o1 h
        obtain ⟨cv15, ch16, h⟩ := h
        skip
        unfold B_X12_figure_74 at h
        replace h := zk_o3 h
        obtain ⟨cv17, cv18, cv19, ch20, h⟩ := h
        obtain ck21 := fr_lay fr0.1 ch20
        have ck22 := F6_tr fr0 ck21
        replace h := Option.some.inj h
        subst h
        exact ck22
    · replace h := zk_f cc1 h
      have cc1n := cc1
      (try simp only [i32_lt, i32_le, i32_e, z32_0, z32_1, z32L_4] at cc1n)
      replace h := zk_o2 h
      obtain ⟨cv23, cv24, ch25, h⟩ := h
      skip
      replace h := zk_o2 h
      obtain ⟨cv26, cv27, ch28, h⟩ := h
      skip
      by_cases cc29 : cv26 = 0
      · replace h := zk_t cc29 h
        have cc29n := cc29
        (try simp only [i32_lt, i32_le, i32_e, z32_0, z32_1] at cc29n)
        unfold B_X12_figure_52 at h
        by_cases cc30 : x2 = 0
        · replace h := zk_t cc30 h
          have cc30n := cc30
          (try simp only [i32_lt, i32_le, i32_e, z32_0, z32_1] at cc30n)
          unfold B_X12_figure_70 at h
          replace h := zk_o1 h
          obtain ⟨cv31, ch32, h⟩ := h
          skip
          unfold B_X12_figure_74 at h
          replace h := zk_o3 h
          obtain ⟨cv33, cv34, cv35, ch36, h⟩ := h
          obtain ck37 := fr_lay fr0.1 ch36
          have ck38 := F6_tr fr0 ck37
          replace h := Option.some.inj h
          subst h
          exact ck38
        · replace h := zk_f cc30 h
          have cc30n := cc30
          (try simp only [i32_lt, i32_le, i32_e, z32_0, z32_1] at cc30n)
          replace h := zk_o2 h
          obtain ⟨cv39, cv40, ch41, h⟩ := h
          skip
          replace h := zk_o2 h
          obtain ⟨cv42, cv43, ch44, h⟩ := h
          skip
          by_cases cc45 : cv42 = 0
          · replace h := zk_t cc45 h
            have cc45n := cc45
            (try simp only [i32_lt, i32_le, i32_e, z32_0, z32_1] at cc45n)
            unfold B_X12_figure_74 at h
            replace h := zk_o3 h
            obtain ⟨cv46, cv47, cv48, ch49, h⟩ := h
            obtain ck50 := fr_lay fr0.1 ch49
            have ck51 := F6_tr fr0 ck50
            replace h := Option.some.inj h
            subst h
            exact ck51
          · replace h := zk_f cc45 h
            have cc45n := cc45
            (try simp only [i32_lt, i32_le, i32_e, z32_0, z32_1] at cc45n)
            unfold B_X12_figure_70 at h
            replace h := zk_o1 h
            obtain ⟨cv52, ch53, h⟩ := h
            skip
            unfold B_X12_figure_74 at h
            replace h := zk_o3 h
            obtain ⟨cv54, cv55, cv56, ch57, h⟩ := h
            obtain ck58 := fr_lay fr0.1 ch57
            have ck59 := F6_tr fr0 ck58
            replace h := Option.some.inj h
            subst h
            exact ck59
      · replace h := zk_f cc29 h
        have cc29n := cc29
        (try simp only [i32_lt, i32_le, i32_e, z32_0, z32_1] at cc29n)
        replace h := zk_o2 h
        obtain ⟨cv60, cv61, ch62, h⟩ := h
        skip
        replace h := zk_lt h
        obtain ⟨cv63, ce64, h⟩ := h
        subst ce64
        replace h := zk_lt h
        obtain ⟨cv65, ce66, h⟩ := h
        subst ce66
        replace h := zk_lt h
        obtain ⟨cv67, ce68, h⟩ := h
        subst ce68
        exact F6_tr fr0 (ih _ _ _ _ _ _ _ _ fr0.1 h)
set_option maxHeartbeats 4000000 in
set_option maxRecDepth 20000 in
theorem fr_fig {mod_code : Int32} {court_shoeCount : Int32} {mod_claims : Int32} {ts : Int32} {court_suitCount : Int32} {mod_doneMany : Int32} {mod_undoneMany : Int32} {mod_isBoth : Int32} {mod_wished : Int32} {mod_bestMany : Int32} {mod_bestRow : Int32} {mod_ringDigits : Int32} {mod_traces : Int32} {tm : Nat → Int32} {n : Nat} {he g o l u1 u2 u3 : Int32} {ac wi u4 u5 : Nat → Int32} (hl : 0 ≤ l.toInt) (h : f_X12_figure n mod_code court_shoeCount mod_claims ts he g court_suitCount mod_doneMany mod_undoneMany o l mod_isBoth mod_wished mod_bestMany mod_bestRow mod_ringDigits mod_traces tm ac wi = some (u1, u2, u3, u4, u5)) : FR6 ac wi u3 u4 u5 := by
  unfold f_X12_figure B_X12_figure_0 at h
  exact fr_figL _ _ _ _ _ _ _ _ _ hl h
set_option maxHeartbeats 4000000 in
set_option maxRecDepth 20000 in
theorem fr_g_either {mod_code : Int32} {court_shoeCount : Int32} {mod_claims : Int32} {ts : Int32} {court_suitCount : Int32} {mod_doneMany : Int32} {mod_undoneMany : Int32} {mod_isBoth : Int32} {mod_wished : Int32} {mod_bestMany : Int32} {mod_bestRow : Int32} {mod_ringDigits : Int32} {mod_traces : Int32} {tm : Nat → Int32} {r_X12_both : Int32 → Int32 → Int32 → Int32 → Int32 → Int32 → Int32 → Int32 → Int32 → Int32 → Int32 → Int32 → Int32 → Int32 → Int32 → Int32 → Int32 → (Nat → Int32) → (Nat → Int32) → (Nat → Int32) → (Option (Int32 × Int32 × Int32 × Int32 × (Nat → Int32) × (Nat → Int32)))} {r_X12_compared : Int32 → Int32 → Int32 → Int32 → Int32 → Int32 → Int32 → Int32 → Int32 → Int32 → Int32 → Int32 → Int32 → Int32 → Int32 → Int32 → Int32 → (Nat → Int32) → (Nat → Int32) → (Nat → Int32) → (Option (Int32 × Int32 × Int32 × Int32 × (Nat → Int32) × (Nat → Int32)))} {r_X12_either : Int32 → Int32 → Int32 → Int32 → Int32 → Int32 → Int32 → Int32 → Int32 → Int32 → Int32 → Int32 → Int32 → Int32 → Int32 → Int32 → Int32 → (Nat → Int32) → (Nat → Int32) → (Nat → Int32) → (Option (Int32 × Int32 × Int32 × Int32 × (Nat → Int32) × (Nat → Int32)))} {r_X12_operand : Int32 → Int32 → Int32 → Int32 → Int32 → Int32 → Int32 → Int32 → Int32 → Int32 → Int32 → Int32 → Int32 → Int32 → Int32 → Int32 → Int32 → (Nat → Int32) → (Nat → Int32) → (Nat → Int32) → (Option (Int32 × Int32 × Int32 × Int32 × (Nat → Int32) × (Nat → Int32)))} {r_X12_product : Int32 → Int32 → Int32 → Int32 → Int32 → Int32 → Int32 → Int32 → Int32 → Int32 → Int32 → Int32 → Int32 → Int32 → Int32 → Int32 → Int32 → (Nat → Int32) → (Nat → Int32) → (Nat → Int32) → (Option (Int32 × Int32 × Int32 × Int32 × (Nat → Int32) × (Nat → Int32)))} {r_X12_sum : Int32 → Int32 → Int32 → Int32 → Int32 → Int32 → Int32 → Int32 → Int32 → Int32 → Int32 → Int32 → Int32 → Int32 → Int32 → Int32 → Int32 → (Nat → Int32) → (Nat → Int32) → (Nat → Int32) → (Option (Int32 × Int32 × Int32 × Int32 × (Nat → Int32) × (Nat → Int32)))} (hr_X12_both : FRP (fun he g o l ac wi => r_X12_both mod_code court_shoeCount mod_claims ts he g court_suitCount mod_doneMany mod_undoneMany o l mod_isBoth mod_wished mod_bestMany mod_bestRow mod_ringDigits mod_traces tm ac wi)) (hr_X12_compared : FRP (fun he g o l ac wi => r_X12_compared mod_code court_shoeCount mod_claims ts he g court_suitCount mod_doneMany mod_undoneMany o l mod_isBoth mod_wished mod_bestMany mod_bestRow mod_ringDigits mod_traces tm ac wi)) (hr_X12_either : FRP (fun he g o l ac wi => r_X12_either mod_code court_shoeCount mod_claims ts he g court_suitCount mod_doneMany mod_undoneMany o l mod_isBoth mod_wished mod_bestMany mod_bestRow mod_ringDigits mod_traces tm ac wi)) (hr_X12_operand : FRP (fun he g o l ac wi => r_X12_operand mod_code court_shoeCount mod_claims ts he g court_suitCount mod_doneMany mod_undoneMany o l mod_isBoth mod_wished mod_bestMany mod_bestRow mod_ringDigits mod_traces tm ac wi)) (hr_X12_product : FRP (fun he g o l ac wi => r_X12_product mod_code court_shoeCount mod_claims ts he g court_suitCount mod_doneMany mod_undoneMany o l mod_isBoth mod_wished mod_bestMany mod_bestRow mod_ringDigits mod_traces tm ac wi)) (hr_X12_sum : FRP (fun he g o l ac wi => r_X12_sum mod_code court_shoeCount mod_claims ts he g court_suitCount mod_doneMany mod_undoneMany o l mod_isBoth mod_wished mod_bestMany mod_bestRow mod_ringDigits mod_traces tm ac wi)) : ∀ (n : Nat) (he g o l : Int32) (ac wi : Nat → Int32) (S : Int32 × Int32 × Int32 × Int32 × (Nat → Int32) × (Nat → Int32)), 0 ≤ l.toInt → G_X12_either r_X12_both r_X12_compared r_X12_either r_X12_operand r_X12_product r_X12_sum mod_code court_shoeCount mod_claims ts court_suitCount mod_doneMany mod_undoneMany mod_isBoth mod_wished mod_bestMany mod_bestRow mod_ringDigits mod_traces tm n he g o l ac wi = some S → FR6 ac wi S.2.2.2.1 S.2.2.2.2.1 S.2.2.2.2.2 := by
  intro n
  induction n with
  | zero =>
    intro he g o l ac wi S hl h
    cases h
  | succ n ih =>
    intro he g o l ac wi S hl h
    replace h : B_X12_either_4 r_X12_both r_X12_compared r_X12_either r_X12_operand r_X12_product r_X12_sum (G_X12_either r_X12_both r_X12_compared r_X12_either r_X12_operand r_X12_product r_X12_sum mod_code court_shoeCount mod_claims ts court_suitCount mod_doneMany mod_undoneMany mod_isBoth mod_wished mod_bestMany mod_bestRow mod_ringDigits mod_traces tm n) mod_code court_shoeCount mod_claims ts court_suitCount mod_doneMany mod_undoneMany mod_isBoth mod_wished mod_bestMany mod_bestRow mod_ringDigits mod_traces tm he g o l ac wi = some S := h
    have fr0 : FR6 ac wi l ac wi := F6_rf hl
    unfold B_X12_either_4 at h
    by_cases cc1 : 0 ≤ g
    · replace h := zk_t cc1 h
      have cc1n := cc1
      (try simp only [i32_lt, i32_le, i32_e, z32_0, z32_1] at cc1n)
      replace h := Option.some.inj h
      subst h
      exact fr0
    · replace h := zk_f cc1 h
      have cc1n := cc1
      (try simp only [i32_lt, i32_le, i32_e, z32_0, z32_1] at cc1n)
      replace h := zk_o2 h
      obtain ⟨cv2, cv3, ch4, h⟩ := h
      skip
      by_cases cc5 : cv2 = (124 : Int32)
      · replace h := zk_t cc5 h
        have cc5n := cc5
        (try simp only [i32_lt, i32_le, i32_e, z32_0, z32_1, z32L_124] at cc5n)
        replace h := zk_lt h
        obtain ⟨cv6, ce7, h⟩ := h
        subst ce7
        replace h := zk_o6 h
        obtain ⟨cv8, cv9, cv10, cv11, cv12, cv13, ch14, h⟩ := h
        obtain ck15 := hr_X12_both _ _ _ _ _ _ _ _ _ _ _ _ fr0.1 ch14
        have ck16 := F6_tr fr0 ck15
        replace h := zk_o3 h
        obtain ⟨cv17, cv18, cv19, ch20, h⟩ := h
        obtain ck21 := fr_lay ck16.1 ch20
        have ck22 := F6_tr ck16 ck21
        exact F6_tr ck22 (ih _ _ _ _ _ _ _ ck22.1 h)
      · replace h := zk_f cc5 h
        have cc5n := cc5
        (try simp only [i32_lt, i32_le, i32_e, z32_0, z32_1, z32L_124] at cc5n)
        replace h := Option.some.inj h
        subst h
        exact fr0
set_option maxHeartbeats 4000000 in
set_option maxRecDepth 20000 in
theorem fr_either {mod_code : Int32} {court_shoeCount : Int32} {mod_claims : Int32} {ts : Int32} {court_suitCount : Int32} {mod_doneMany : Int32} {mod_undoneMany : Int32} {mod_isBoth : Int32} {mod_wished : Int32} {mod_bestMany : Int32} {mod_bestRow : Int32} {mod_ringDigits : Int32} {mod_traces : Int32} {tm : Nat → Int32} {r_X12_both : Int32 → Int32 → Int32 → Int32 → Int32 → Int32 → Int32 → Int32 → Int32 → Int32 → Int32 → Int32 → Int32 → Int32 → Int32 → Int32 → Int32 → (Nat → Int32) → (Nat → Int32) → (Nat → Int32) → (Option (Int32 × Int32 × Int32 × Int32 × (Nat → Int32) × (Nat → Int32)))} {r_X12_compared : Int32 → Int32 → Int32 → Int32 → Int32 → Int32 → Int32 → Int32 → Int32 → Int32 → Int32 → Int32 → Int32 → Int32 → Int32 → Int32 → Int32 → (Nat → Int32) → (Nat → Int32) → (Nat → Int32) → (Option (Int32 × Int32 × Int32 × Int32 × (Nat → Int32) × (Nat → Int32)))} {r_X12_either : Int32 → Int32 → Int32 → Int32 → Int32 → Int32 → Int32 → Int32 → Int32 → Int32 → Int32 → Int32 → Int32 → Int32 → Int32 → Int32 → Int32 → (Nat → Int32) → (Nat → Int32) → (Nat → Int32) → (Option (Int32 × Int32 × Int32 × Int32 × (Nat → Int32) × (Nat → Int32)))} {r_X12_operand : Int32 → Int32 → Int32 → Int32 → Int32 → Int32 → Int32 → Int32 → Int32 → Int32 → Int32 → Int32 → Int32 → Int32 → Int32 → Int32 → Int32 → (Nat → Int32) → (Nat → Int32) → (Nat → Int32) → (Option (Int32 × Int32 × Int32 × Int32 × (Nat → Int32) × (Nat → Int32)))} {r_X12_product : Int32 → Int32 → Int32 → Int32 → Int32 → Int32 → Int32 → Int32 → Int32 → Int32 → Int32 → Int32 → Int32 → Int32 → Int32 → Int32 → Int32 → (Nat → Int32) → (Nat → Int32) → (Nat → Int32) → (Option (Int32 × Int32 × Int32 × Int32 × (Nat → Int32) × (Nat → Int32)))} {r_X12_sum : Int32 → Int32 → Int32 → Int32 → Int32 → Int32 → Int32 → Int32 → Int32 → Int32 → Int32 → Int32 → Int32 → Int32 → Int32 → Int32 → Int32 → (Nat → Int32) → (Nat → Int32) → (Nat → Int32) → (Option (Int32 × Int32 × Int32 × Int32 × (Nat → Int32) × (Nat → Int32)))} {n : Nat} (hr_X12_both : FRP (fun he g o l ac wi => r_X12_both mod_code court_shoeCount mod_claims ts he g court_suitCount mod_doneMany mod_undoneMany o l mod_isBoth mod_wished mod_bestMany mod_bestRow mod_ringDigits mod_traces tm ac wi)) (hr_X12_compared : FRP (fun he g o l ac wi => r_X12_compared mod_code court_shoeCount mod_claims ts he g court_suitCount mod_doneMany mod_undoneMany o l mod_isBoth mod_wished mod_bestMany mod_bestRow mod_ringDigits mod_traces tm ac wi)) (hr_X12_either : FRP (fun he g o l ac wi => r_X12_either mod_code court_shoeCount mod_claims ts he g court_suitCount mod_doneMany mod_undoneMany o l mod_isBoth mod_wished mod_bestMany mod_bestRow mod_ringDigits mod_traces tm ac wi)) (hr_X12_operand : FRP (fun he g o l ac wi => r_X12_operand mod_code court_shoeCount mod_claims ts he g court_suitCount mod_doneMany mod_undoneMany o l mod_isBoth mod_wished mod_bestMany mod_bestRow mod_ringDigits mod_traces tm ac wi)) (hr_X12_product : FRP (fun he g o l ac wi => r_X12_product mod_code court_shoeCount mod_claims ts he g court_suitCount mod_doneMany mod_undoneMany o l mod_isBoth mod_wished mod_bestMany mod_bestRow mod_ringDigits mod_traces tm ac wi)) (hr_X12_sum : FRP (fun he g o l ac wi => r_X12_sum mod_code court_shoeCount mod_claims ts he g court_suitCount mod_doneMany mod_undoneMany o l mod_isBoth mod_wished mod_bestMany mod_bestRow mod_ringDigits mod_traces tm ac wi)) : FRP (fun he g o l ac wi => f_X12_either r_X12_both r_X12_compared r_X12_either r_X12_operand r_X12_product r_X12_sum n mod_code court_shoeCount mod_claims ts he g court_suitCount mod_doneMany mod_undoneMany o l mod_isBoth mod_wished mod_bestMany mod_bestRow mod_ringDigits mod_traces tm ac wi) := by
  intro he g o l ac wi u1 u2 u3 u4 u5 u6 hl h
  replace h : f_X12_either r_X12_both r_X12_compared r_X12_either r_X12_operand r_X12_product r_X12_sum n mod_code court_shoeCount mod_claims ts he g court_suitCount mod_doneMany mod_undoneMany o l mod_isBoth mod_wished mod_bestMany mod_bestRow mod_ringDigits mod_traces tm ac wi = some (u1, u2, u3, u4, u5, u6) := h
  have fr0 : FR6 ac wi l ac wi := F6_rf hl
  unfold f_X12_either at h
  unfold B_X12_either_0 at h
  replace h := zk_o6 h
  obtain ⟨cv1, cv2, cv3, cv4, cv5, cv6, ch7, h⟩ := h
  obtain ck8 := hr_X12_both _ _ _ _ _ _ _ _ _ _ _ _ fr0.1 ch7
  have ck9 := F6_tr fr0 ck8
  exact F6_tr ck9 (fr_g_either hr_X12_both hr_X12_compared hr_X12_either hr_X12_operand hr_X12_product hr_X12_sum _ _ _ _ _ _ _ _ ck9.1 h)
set_option maxHeartbeats 4000000 in
set_option maxRecDepth 20000 in
theorem fr_g_both {mod_code : Int32} {court_shoeCount : Int32} {mod_claims : Int32} {ts : Int32} {court_suitCount : Int32} {mod_doneMany : Int32} {mod_undoneMany : Int32} {mod_isBoth : Int32} {mod_wished : Int32} {mod_bestMany : Int32} {mod_bestRow : Int32} {mod_ringDigits : Int32} {mod_traces : Int32} {tm : Nat → Int32} {r_X12_both : Int32 → Int32 → Int32 → Int32 → Int32 → Int32 → Int32 → Int32 → Int32 → Int32 → Int32 → Int32 → Int32 → Int32 → Int32 → Int32 → Int32 → (Nat → Int32) → (Nat → Int32) → (Nat → Int32) → (Option (Int32 × Int32 × Int32 × Int32 × (Nat → Int32) × (Nat → Int32)))} {r_X12_compared : Int32 → Int32 → Int32 → Int32 → Int32 → Int32 → Int32 → Int32 → Int32 → Int32 → Int32 → Int32 → Int32 → Int32 → Int32 → Int32 → Int32 → (Nat → Int32) → (Nat → Int32) → (Nat → Int32) → (Option (Int32 × Int32 × Int32 × Int32 × (Nat → Int32) × (Nat → Int32)))} {r_X12_either : Int32 → Int32 → Int32 → Int32 → Int32 → Int32 → Int32 → Int32 → Int32 → Int32 → Int32 → Int32 → Int32 → Int32 → Int32 → Int32 → Int32 → (Nat → Int32) → (Nat → Int32) → (Nat → Int32) → (Option (Int32 × Int32 × Int32 × Int32 × (Nat → Int32) × (Nat → Int32)))} {r_X12_operand : Int32 → Int32 → Int32 → Int32 → Int32 → Int32 → Int32 → Int32 → Int32 → Int32 → Int32 → Int32 → Int32 → Int32 → Int32 → Int32 → Int32 → (Nat → Int32) → (Nat → Int32) → (Nat → Int32) → (Option (Int32 × Int32 × Int32 × Int32 × (Nat → Int32) × (Nat → Int32)))} {r_X12_product : Int32 → Int32 → Int32 → Int32 → Int32 → Int32 → Int32 → Int32 → Int32 → Int32 → Int32 → Int32 → Int32 → Int32 → Int32 → Int32 → Int32 → (Nat → Int32) → (Nat → Int32) → (Nat → Int32) → (Option (Int32 × Int32 × Int32 × Int32 × (Nat → Int32) × (Nat → Int32)))} {r_X12_sum : Int32 → Int32 → Int32 → Int32 → Int32 → Int32 → Int32 → Int32 → Int32 → Int32 → Int32 → Int32 → Int32 → Int32 → Int32 → Int32 → Int32 → (Nat → Int32) → (Nat → Int32) → (Nat → Int32) → (Option (Int32 × Int32 × Int32 × Int32 × (Nat → Int32) × (Nat → Int32)))} (hr_X12_both : FRP (fun he g o l ac wi => r_X12_both mod_code court_shoeCount mod_claims ts he g court_suitCount mod_doneMany mod_undoneMany o l mod_isBoth mod_wished mod_bestMany mod_bestRow mod_ringDigits mod_traces tm ac wi)) (hr_X12_compared : FRP (fun he g o l ac wi => r_X12_compared mod_code court_shoeCount mod_claims ts he g court_suitCount mod_doneMany mod_undoneMany o l mod_isBoth mod_wished mod_bestMany mod_bestRow mod_ringDigits mod_traces tm ac wi)) (hr_X12_either : FRP (fun he g o l ac wi => r_X12_either mod_code court_shoeCount mod_claims ts he g court_suitCount mod_doneMany mod_undoneMany o l mod_isBoth mod_wished mod_bestMany mod_bestRow mod_ringDigits mod_traces tm ac wi)) (hr_X12_operand : FRP (fun he g o l ac wi => r_X12_operand mod_code court_shoeCount mod_claims ts he g court_suitCount mod_doneMany mod_undoneMany o l mod_isBoth mod_wished mod_bestMany mod_bestRow mod_ringDigits mod_traces tm ac wi)) (hr_X12_product : FRP (fun he g o l ac wi => r_X12_product mod_code court_shoeCount mod_claims ts he g court_suitCount mod_doneMany mod_undoneMany o l mod_isBoth mod_wished mod_bestMany mod_bestRow mod_ringDigits mod_traces tm ac wi)) (hr_X12_sum : FRP (fun he g o l ac wi => r_X12_sum mod_code court_shoeCount mod_claims ts he g court_suitCount mod_doneMany mod_undoneMany o l mod_isBoth mod_wished mod_bestMany mod_bestRow mod_ringDigits mod_traces tm ac wi)) : ∀ (n : Nat) (he g o l : Int32) (ac wi : Nat → Int32) (S : Int32 × Int32 × Int32 × Int32 × (Nat → Int32) × (Nat → Int32)), 0 ≤ l.toInt → G_X12_both r_X12_both r_X12_compared r_X12_either r_X12_operand r_X12_product r_X12_sum mod_code court_shoeCount mod_claims ts court_suitCount mod_doneMany mod_undoneMany mod_isBoth mod_wished mod_bestMany mod_bestRow mod_ringDigits mod_traces tm n he g o l ac wi = some S → FR6 ac wi S.2.2.2.1 S.2.2.2.2.1 S.2.2.2.2.2 := by
  intro n
  induction n with
  | zero =>
    intro he g o l ac wi S hl h
    cases h
  | succ n ih =>
    intro he g o l ac wi S hl h
    replace h : B_X12_both_4 r_X12_both r_X12_compared r_X12_either r_X12_operand r_X12_product r_X12_sum (G_X12_both r_X12_both r_X12_compared r_X12_either r_X12_operand r_X12_product r_X12_sum mod_code court_shoeCount mod_claims ts court_suitCount mod_doneMany mod_undoneMany mod_isBoth mod_wished mod_bestMany mod_bestRow mod_ringDigits mod_traces tm n) mod_code court_shoeCount mod_claims ts court_suitCount mod_doneMany mod_undoneMany mod_isBoth mod_wished mod_bestMany mod_bestRow mod_ringDigits mod_traces tm he g o l ac wi = some S := h
    have fr0 : FR6 ac wi l ac wi := F6_rf hl
    unfold B_X12_both_4 at h
    by_cases cc1 : 0 ≤ g
    · replace h := zk_t cc1 h
      have cc1n := cc1
      (try simp only [i32_lt, i32_le, i32_e, z32_0, z32_1] at cc1n)
      replace h := Option.some.inj h
      subst h
      exact fr0
    · replace h := zk_f cc1 h
      have cc1n := cc1
      (try simp only [i32_lt, i32_le, i32_e, z32_0, z32_1] at cc1n)
      replace h := zk_o2 h
      obtain ⟨cv2, cv3, ch4, h⟩ := h
      skip
      by_cases cc5 : cv2 = (38 : Int32)
      · replace h := zk_t cc5 h
        have cc5n := cc5
        (try simp only [i32_lt, i32_le, i32_e, z32_0, z32_1, z32L_38] at cc5n)
        replace h := zk_lt h
        obtain ⟨cv6, ce7, h⟩ := h
        subst ce7
        replace h := zk_o6 h
        obtain ⟨cv8, cv9, cv10, cv11, cv12, cv13, ch14, h⟩ := h
        obtain ck15 := hr_X12_compared _ _ _ _ _ _ _ _ _ _ _ _ fr0.1 ch14
        have ck16 := F6_tr fr0 ck15
        replace h := zk_o3 h
        obtain ⟨cv17, cv18, cv19, ch20, h⟩ := h
        obtain ck21 := fr_lay ck16.1 ch20
        have ck22 := F6_tr ck16 ck21
        exact F6_tr ck22 (ih _ _ _ _ _ _ _ ck22.1 h)
      · replace h := zk_f cc5 h
        have cc5n := cc5
        (try simp only [i32_lt, i32_le, i32_e, z32_0, z32_1, z32L_38] at cc5n)
        replace h := Option.some.inj h
        subst h
        exact fr0
set_option maxHeartbeats 4000000 in
set_option maxRecDepth 20000 in
theorem fr_both {mod_code : Int32} {court_shoeCount : Int32} {mod_claims : Int32} {ts : Int32} {court_suitCount : Int32} {mod_doneMany : Int32} {mod_undoneMany : Int32} {mod_isBoth : Int32} {mod_wished : Int32} {mod_bestMany : Int32} {mod_bestRow : Int32} {mod_ringDigits : Int32} {mod_traces : Int32} {tm : Nat → Int32} {r_X12_both : Int32 → Int32 → Int32 → Int32 → Int32 → Int32 → Int32 → Int32 → Int32 → Int32 → Int32 → Int32 → Int32 → Int32 → Int32 → Int32 → Int32 → (Nat → Int32) → (Nat → Int32) → (Nat → Int32) → (Option (Int32 × Int32 × Int32 × Int32 × (Nat → Int32) × (Nat → Int32)))} {r_X12_compared : Int32 → Int32 → Int32 → Int32 → Int32 → Int32 → Int32 → Int32 → Int32 → Int32 → Int32 → Int32 → Int32 → Int32 → Int32 → Int32 → Int32 → (Nat → Int32) → (Nat → Int32) → (Nat → Int32) → (Option (Int32 × Int32 × Int32 × Int32 × (Nat → Int32) × (Nat → Int32)))} {r_X12_either : Int32 → Int32 → Int32 → Int32 → Int32 → Int32 → Int32 → Int32 → Int32 → Int32 → Int32 → Int32 → Int32 → Int32 → Int32 → Int32 → Int32 → (Nat → Int32) → (Nat → Int32) → (Nat → Int32) → (Option (Int32 × Int32 × Int32 × Int32 × (Nat → Int32) × (Nat → Int32)))} {r_X12_operand : Int32 → Int32 → Int32 → Int32 → Int32 → Int32 → Int32 → Int32 → Int32 → Int32 → Int32 → Int32 → Int32 → Int32 → Int32 → Int32 → Int32 → (Nat → Int32) → (Nat → Int32) → (Nat → Int32) → (Option (Int32 × Int32 × Int32 × Int32 × (Nat → Int32) × (Nat → Int32)))} {r_X12_product : Int32 → Int32 → Int32 → Int32 → Int32 → Int32 → Int32 → Int32 → Int32 → Int32 → Int32 → Int32 → Int32 → Int32 → Int32 → Int32 → Int32 → (Nat → Int32) → (Nat → Int32) → (Nat → Int32) → (Option (Int32 × Int32 × Int32 × Int32 × (Nat → Int32) × (Nat → Int32)))} {r_X12_sum : Int32 → Int32 → Int32 → Int32 → Int32 → Int32 → Int32 → Int32 → Int32 → Int32 → Int32 → Int32 → Int32 → Int32 → Int32 → Int32 → Int32 → (Nat → Int32) → (Nat → Int32) → (Nat → Int32) → (Option (Int32 × Int32 × Int32 × Int32 × (Nat → Int32) × (Nat → Int32)))} {n : Nat} (hr_X12_both : FRP (fun he g o l ac wi => r_X12_both mod_code court_shoeCount mod_claims ts he g court_suitCount mod_doneMany mod_undoneMany o l mod_isBoth mod_wished mod_bestMany mod_bestRow mod_ringDigits mod_traces tm ac wi)) (hr_X12_compared : FRP (fun he g o l ac wi => r_X12_compared mod_code court_shoeCount mod_claims ts he g court_suitCount mod_doneMany mod_undoneMany o l mod_isBoth mod_wished mod_bestMany mod_bestRow mod_ringDigits mod_traces tm ac wi)) (hr_X12_either : FRP (fun he g o l ac wi => r_X12_either mod_code court_shoeCount mod_claims ts he g court_suitCount mod_doneMany mod_undoneMany o l mod_isBoth mod_wished mod_bestMany mod_bestRow mod_ringDigits mod_traces tm ac wi)) (hr_X12_operand : FRP (fun he g o l ac wi => r_X12_operand mod_code court_shoeCount mod_claims ts he g court_suitCount mod_doneMany mod_undoneMany o l mod_isBoth mod_wished mod_bestMany mod_bestRow mod_ringDigits mod_traces tm ac wi)) (hr_X12_product : FRP (fun he g o l ac wi => r_X12_product mod_code court_shoeCount mod_claims ts he g court_suitCount mod_doneMany mod_undoneMany o l mod_isBoth mod_wished mod_bestMany mod_bestRow mod_ringDigits mod_traces tm ac wi)) (hr_X12_sum : FRP (fun he g o l ac wi => r_X12_sum mod_code court_shoeCount mod_claims ts he g court_suitCount mod_doneMany mod_undoneMany o l mod_isBoth mod_wished mod_bestMany mod_bestRow mod_ringDigits mod_traces tm ac wi)) : FRP (fun he g o l ac wi => f_X12_both r_X12_both r_X12_compared r_X12_either r_X12_operand r_X12_product r_X12_sum n mod_code court_shoeCount mod_claims ts he g court_suitCount mod_doneMany mod_undoneMany o l mod_isBoth mod_wished mod_bestMany mod_bestRow mod_ringDigits mod_traces tm ac wi) := by
  intro he g o l ac wi u1 u2 u3 u4 u5 u6 hl h
  replace h : f_X12_both r_X12_both r_X12_compared r_X12_either r_X12_operand r_X12_product r_X12_sum n mod_code court_shoeCount mod_claims ts he g court_suitCount mod_doneMany mod_undoneMany o l mod_isBoth mod_wished mod_bestMany mod_bestRow mod_ringDigits mod_traces tm ac wi = some (u1, u2, u3, u4, u5, u6) := h
  have fr0 : FR6 ac wi l ac wi := F6_rf hl
  unfold f_X12_both at h
  unfold B_X12_both_0 at h
  replace h := zk_o6 h
  obtain ⟨cv1, cv2, cv3, cv4, cv5, cv6, ch7, h⟩ := h
  obtain ck8 := hr_X12_compared _ _ _ _ _ _ _ _ _ _ _ _ fr0.1 ch7
  have ck9 := F6_tr fr0 ck8
  exact F6_tr ck9 (fr_g_both hr_X12_both hr_X12_compared hr_X12_either hr_X12_operand hr_X12_product hr_X12_sum _ _ _ _ _ _ _ _ ck9.1 h)
set_option maxHeartbeats 4000000 in
set_option maxRecDepth 20000 in
theorem fr_g_sum {mod_code : Int32} {court_shoeCount : Int32} {mod_claims : Int32} {ts : Int32} {court_suitCount : Int32} {mod_doneMany : Int32} {mod_undoneMany : Int32} {mod_isBoth : Int32} {mod_wished : Int32} {mod_bestMany : Int32} {mod_bestRow : Int32} {mod_ringDigits : Int32} {mod_traces : Int32} {tm : Nat → Int32} {r_X12_both : Int32 → Int32 → Int32 → Int32 → Int32 → Int32 → Int32 → Int32 → Int32 → Int32 → Int32 → Int32 → Int32 → Int32 → Int32 → Int32 → Int32 → (Nat → Int32) → (Nat → Int32) → (Nat → Int32) → (Option (Int32 × Int32 × Int32 × Int32 × (Nat → Int32) × (Nat → Int32)))} {r_X12_compared : Int32 → Int32 → Int32 → Int32 → Int32 → Int32 → Int32 → Int32 → Int32 → Int32 → Int32 → Int32 → Int32 → Int32 → Int32 → Int32 → Int32 → (Nat → Int32) → (Nat → Int32) → (Nat → Int32) → (Option (Int32 × Int32 × Int32 × Int32 × (Nat → Int32) × (Nat → Int32)))} {r_X12_either : Int32 → Int32 → Int32 → Int32 → Int32 → Int32 → Int32 → Int32 → Int32 → Int32 → Int32 → Int32 → Int32 → Int32 → Int32 → Int32 → Int32 → (Nat → Int32) → (Nat → Int32) → (Nat → Int32) → (Option (Int32 × Int32 × Int32 × Int32 × (Nat → Int32) × (Nat → Int32)))} {r_X12_operand : Int32 → Int32 → Int32 → Int32 → Int32 → Int32 → Int32 → Int32 → Int32 → Int32 → Int32 → Int32 → Int32 → Int32 → Int32 → Int32 → Int32 → (Nat → Int32) → (Nat → Int32) → (Nat → Int32) → (Option (Int32 × Int32 × Int32 × Int32 × (Nat → Int32) × (Nat → Int32)))} {r_X12_product : Int32 → Int32 → Int32 → Int32 → Int32 → Int32 → Int32 → Int32 → Int32 → Int32 → Int32 → Int32 → Int32 → Int32 → Int32 → Int32 → Int32 → (Nat → Int32) → (Nat → Int32) → (Nat → Int32) → (Option (Int32 × Int32 × Int32 × Int32 × (Nat → Int32) × (Nat → Int32)))} {r_X12_sum : Int32 → Int32 → Int32 → Int32 → Int32 → Int32 → Int32 → Int32 → Int32 → Int32 → Int32 → Int32 → Int32 → Int32 → Int32 → Int32 → Int32 → (Nat → Int32) → (Nat → Int32) → (Nat → Int32) → (Option (Int32 × Int32 × Int32 × Int32 × (Nat → Int32) × (Nat → Int32)))} (hr_X12_both : FRP (fun he g o l ac wi => r_X12_both mod_code court_shoeCount mod_claims ts he g court_suitCount mod_doneMany mod_undoneMany o l mod_isBoth mod_wished mod_bestMany mod_bestRow mod_ringDigits mod_traces tm ac wi)) (hr_X12_compared : FRP (fun he g o l ac wi => r_X12_compared mod_code court_shoeCount mod_claims ts he g court_suitCount mod_doneMany mod_undoneMany o l mod_isBoth mod_wished mod_bestMany mod_bestRow mod_ringDigits mod_traces tm ac wi)) (hr_X12_either : FRP (fun he g o l ac wi => r_X12_either mod_code court_shoeCount mod_claims ts he g court_suitCount mod_doneMany mod_undoneMany o l mod_isBoth mod_wished mod_bestMany mod_bestRow mod_ringDigits mod_traces tm ac wi)) (hr_X12_operand : FRP (fun he g o l ac wi => r_X12_operand mod_code court_shoeCount mod_claims ts he g court_suitCount mod_doneMany mod_undoneMany o l mod_isBoth mod_wished mod_bestMany mod_bestRow mod_ringDigits mod_traces tm ac wi)) (hr_X12_product : FRP (fun he g o l ac wi => r_X12_product mod_code court_shoeCount mod_claims ts he g court_suitCount mod_doneMany mod_undoneMany o l mod_isBoth mod_wished mod_bestMany mod_bestRow mod_ringDigits mod_traces tm ac wi)) (hr_X12_sum : FRP (fun he g o l ac wi => r_X12_sum mod_code court_shoeCount mod_claims ts he g court_suitCount mod_doneMany mod_undoneMany o l mod_isBoth mod_wished mod_bestMany mod_bestRow mod_ringDigits mod_traces tm ac wi)) : ∀ (n : Nat) (he g o l : Int32) (ac wi : Nat → Int32) (S : Int32 × Int32 × Int32 × Int32 × (Nat → Int32) × (Nat → Int32)), 0 ≤ l.toInt → G_X12_sum r_X12_both r_X12_compared r_X12_either r_X12_operand r_X12_product r_X12_sum mod_code court_shoeCount mod_claims ts court_suitCount mod_doneMany mod_undoneMany mod_isBoth mod_wished mod_bestMany mod_bestRow mod_ringDigits mod_traces tm n he g o l ac wi = some S → FR6 ac wi S.2.2.2.1 S.2.2.2.2.1 S.2.2.2.2.2 := by
  intro n
  induction n with
  | zero =>
    intro he g o l ac wi S hl h
    cases h
  | succ n ih =>
    intro he g o l ac wi S hl h
    replace h : B_X12_sum_4 r_X12_both r_X12_compared r_X12_either r_X12_operand r_X12_product r_X12_sum (G_X12_sum r_X12_both r_X12_compared r_X12_either r_X12_operand r_X12_product r_X12_sum mod_code court_shoeCount mod_claims ts court_suitCount mod_doneMany mod_undoneMany mod_isBoth mod_wished mod_bestMany mod_bestRow mod_ringDigits mod_traces tm n) mod_code court_shoeCount mod_claims ts court_suitCount mod_doneMany mod_undoneMany mod_isBoth mod_wished mod_bestMany mod_bestRow mod_ringDigits mod_traces tm he g o l ac wi = some S := h
    have fr0 : FR6 ac wi l ac wi := F6_rf hl
    unfold B_X12_sum_4 at h
    by_cases cc1 : 0 ≤ g
    · replace h := zk_t cc1 h
      have cc1n := cc1
      (try simp only [i32_lt, i32_le, i32_e, z32_0, z32_1] at cc1n)
      replace h := Option.some.inj h
      subst h
      exact fr0
    · replace h := zk_f cc1 h
      have cc1n := cc1
      (try simp only [i32_lt, i32_le, i32_e, z32_0, z32_1] at cc1n)
      replace h := zk_o2 h
      obtain ⟨cv2, cv3, ch4, h⟩ := h
      skip
      by_cases cc5 : cv2 = (43 : Int32)
      · replace h := zk_t cc5 h
        have cc5n := cc5
        (try simp only [i32_lt, i32_le, i32_e, z32_0, z32_1, z32L_43] at cc5n)
        unfold B_X12_sum_29 at h
        replace h := zk_o2 h
        obtain ⟨cv6, cv7, ch8, h⟩ := h
        skip
        replace h := zk_lt h
        obtain ⟨cv9, ce10, h⟩ := h
        subst ce10
        replace h := zk_o6 h
        obtain ⟨cv11, cv12, cv13, cv14, cv15, cv16, ch17, h⟩ := h
        obtain ck18 := hr_X12_product _ _ _ _ _ _ _ _ _ _ _ _ fr0.1 ch17
        have ck19 := F6_tr fr0 ck18
        replace h := zk_o3 h
        obtain ⟨cv20, cv21, cv22, ch23, h⟩ := h
        obtain ck24 := fr_lay ck19.1 ch23
        have ck25 := F6_tr ck19 ck24
        exact F6_tr ck25 (ih _ _ _ _ _ _ _ ck25.1 h)
      · replace h := zk_f cc5 h
        have cc5n := cc5
        (try simp only [i32_lt, i32_le, i32_e, z32_0, z32_1, z32L_43] at cc5n)
        replace h := zk_o2 h
        obtain ⟨cv26, cv27, ch28, h⟩ := h
        skip
        by_cases cc29 : cv26 = (45 : Int32)
        · replace h := zk_t cc29 h
          have cc29n := cc29
          (try simp only [i32_lt, i32_le, i32_e, z32_0, z32_1, z32L_45] at cc29n)
          unfold B_X12_sum_29 at h
          replace h := zk_o2 h
          obtain ⟨cv30, cv31, ch32, h⟩ := h
          skip
          replace h := zk_lt h
          obtain ⟨cv33, ce34, h⟩ := h
          subst ce34
          replace h := zk_o6 h
          obtain ⟨cv35, cv36, cv37, cv38, cv39, cv40, ch41, h⟩ := h
          obtain ck42 := hr_X12_product _ _ _ _ _ _ _ _ _ _ _ _ fr0.1 ch41
          have ck43 := F6_tr fr0 ck42
          replace h := zk_o3 h
          obtain ⟨cv44, cv45, cv46, ch47, h⟩ := h
          obtain ck48 := fr_lay ck43.1 ch47
          have ck49 := F6_tr ck43 ck48
          exact F6_tr ck49 (ih _ _ _ _ _ _ _ ck49.1 h)
        · replace h := zk_f cc29 h
          have cc29n := cc29
          (try simp only [i32_lt, i32_le, i32_e, z32_0, z32_1, z32L_45] at cc29n)
          replace h := Option.some.inj h
          subst h
          exact fr0
set_option maxHeartbeats 4000000 in
set_option maxRecDepth 20000 in
theorem fr_sum {mod_code : Int32} {court_shoeCount : Int32} {mod_claims : Int32} {ts : Int32} {court_suitCount : Int32} {mod_doneMany : Int32} {mod_undoneMany : Int32} {mod_isBoth : Int32} {mod_wished : Int32} {mod_bestMany : Int32} {mod_bestRow : Int32} {mod_ringDigits : Int32} {mod_traces : Int32} {tm : Nat → Int32} {r_X12_both : Int32 → Int32 → Int32 → Int32 → Int32 → Int32 → Int32 → Int32 → Int32 → Int32 → Int32 → Int32 → Int32 → Int32 → Int32 → Int32 → Int32 → (Nat → Int32) → (Nat → Int32) → (Nat → Int32) → (Option (Int32 × Int32 × Int32 × Int32 × (Nat → Int32) × (Nat → Int32)))} {r_X12_compared : Int32 → Int32 → Int32 → Int32 → Int32 → Int32 → Int32 → Int32 → Int32 → Int32 → Int32 → Int32 → Int32 → Int32 → Int32 → Int32 → Int32 → (Nat → Int32) → (Nat → Int32) → (Nat → Int32) → (Option (Int32 × Int32 × Int32 × Int32 × (Nat → Int32) × (Nat → Int32)))} {r_X12_either : Int32 → Int32 → Int32 → Int32 → Int32 → Int32 → Int32 → Int32 → Int32 → Int32 → Int32 → Int32 → Int32 → Int32 → Int32 → Int32 → Int32 → (Nat → Int32) → (Nat → Int32) → (Nat → Int32) → (Option (Int32 × Int32 × Int32 × Int32 × (Nat → Int32) × (Nat → Int32)))} {r_X12_operand : Int32 → Int32 → Int32 → Int32 → Int32 → Int32 → Int32 → Int32 → Int32 → Int32 → Int32 → Int32 → Int32 → Int32 → Int32 → Int32 → Int32 → (Nat → Int32) → (Nat → Int32) → (Nat → Int32) → (Option (Int32 × Int32 × Int32 × Int32 × (Nat → Int32) × (Nat → Int32)))} {r_X12_product : Int32 → Int32 → Int32 → Int32 → Int32 → Int32 → Int32 → Int32 → Int32 → Int32 → Int32 → Int32 → Int32 → Int32 → Int32 → Int32 → Int32 → (Nat → Int32) → (Nat → Int32) → (Nat → Int32) → (Option (Int32 × Int32 × Int32 × Int32 × (Nat → Int32) × (Nat → Int32)))} {r_X12_sum : Int32 → Int32 → Int32 → Int32 → Int32 → Int32 → Int32 → Int32 → Int32 → Int32 → Int32 → Int32 → Int32 → Int32 → Int32 → Int32 → Int32 → (Nat → Int32) → (Nat → Int32) → (Nat → Int32) → (Option (Int32 × Int32 × Int32 × Int32 × (Nat → Int32) × (Nat → Int32)))} {n : Nat} (hr_X12_both : FRP (fun he g o l ac wi => r_X12_both mod_code court_shoeCount mod_claims ts he g court_suitCount mod_doneMany mod_undoneMany o l mod_isBoth mod_wished mod_bestMany mod_bestRow mod_ringDigits mod_traces tm ac wi)) (hr_X12_compared : FRP (fun he g o l ac wi => r_X12_compared mod_code court_shoeCount mod_claims ts he g court_suitCount mod_doneMany mod_undoneMany o l mod_isBoth mod_wished mod_bestMany mod_bestRow mod_ringDigits mod_traces tm ac wi)) (hr_X12_either : FRP (fun he g o l ac wi => r_X12_either mod_code court_shoeCount mod_claims ts he g court_suitCount mod_doneMany mod_undoneMany o l mod_isBoth mod_wished mod_bestMany mod_bestRow mod_ringDigits mod_traces tm ac wi)) (hr_X12_operand : FRP (fun he g o l ac wi => r_X12_operand mod_code court_shoeCount mod_claims ts he g court_suitCount mod_doneMany mod_undoneMany o l mod_isBoth mod_wished mod_bestMany mod_bestRow mod_ringDigits mod_traces tm ac wi)) (hr_X12_product : FRP (fun he g o l ac wi => r_X12_product mod_code court_shoeCount mod_claims ts he g court_suitCount mod_doneMany mod_undoneMany o l mod_isBoth mod_wished mod_bestMany mod_bestRow mod_ringDigits mod_traces tm ac wi)) (hr_X12_sum : FRP (fun he g o l ac wi => r_X12_sum mod_code court_shoeCount mod_claims ts he g court_suitCount mod_doneMany mod_undoneMany o l mod_isBoth mod_wished mod_bestMany mod_bestRow mod_ringDigits mod_traces tm ac wi)) : FRP (fun he g o l ac wi => f_X12_sum r_X12_both r_X12_compared r_X12_either r_X12_operand r_X12_product r_X12_sum n mod_code court_shoeCount mod_claims ts he g court_suitCount mod_doneMany mod_undoneMany o l mod_isBoth mod_wished mod_bestMany mod_bestRow mod_ringDigits mod_traces tm ac wi) := by
  intro he g o l ac wi u1 u2 u3 u4 u5 u6 hl h
  replace h : f_X12_sum r_X12_both r_X12_compared r_X12_either r_X12_operand r_X12_product r_X12_sum n mod_code court_shoeCount mod_claims ts he g court_suitCount mod_doneMany mod_undoneMany o l mod_isBoth mod_wished mod_bestMany mod_bestRow mod_ringDigits mod_traces tm ac wi = some (u1, u2, u3, u4, u5, u6) := h
  have fr0 : FR6 ac wi l ac wi := F6_rf hl
  unfold f_X12_sum at h
  unfold B_X12_sum_0 at h
  replace h := zk_o6 h
  obtain ⟨cv1, cv2, cv3, cv4, cv5, cv6, ch7, h⟩ := h
  obtain ck8 := hr_X12_product _ _ _ _ _ _ _ _ _ _ _ _ fr0.1 ch7
  have ck9 := F6_tr fr0 ck8
  exact F6_tr ck9 (fr_g_sum hr_X12_both hr_X12_compared hr_X12_either hr_X12_operand hr_X12_product hr_X12_sum _ _ _ _ _ _ _ _ ck9.1 h)
