
set_option maxHeartbeats 4000000 in
set_option maxRecDepth 20000 in
theorem fr_g_product {mod_code : Int32} {court_shoeCount : Int32} {mod_claims : Int32} {ts : Int32} {court_suitCount : Int32} {mod_doneMany : Int32} {mod_undoneMany : Int32} {mod_isBoth : Int32} {mod_wished : Int32} {mod_bestMany : Int32} {mod_bestRow : Int32} {mod_ringDigits : Int32} {mod_traces : Int32} {tm : Nat → Int32} {r_X12_both : Int32 → Int32 → Int32 → Int32 → Int32 → Int32 → Int32 → Int32 → Int32 → Int32 → Int32 → Int32 → Int32 → Int32 → Int32 → Int32 → Int32 → (Nat → Int32) → (Nat → Int32) → (Nat → Int32) → (Option (Int32 × Int32 × Int32 × Int32 × (Nat → Int32) × (Nat → Int32)))} {r_X12_compared : Int32 → Int32 → Int32 → Int32 → Int32 → Int32 → Int32 → Int32 → Int32 → Int32 → Int32 → Int32 → Int32 → Int32 → Int32 → Int32 → Int32 → (Nat → Int32) → (Nat → Int32) → (Nat → Int32) → (Option (Int32 × Int32 × Int32 × Int32 × (Nat → Int32) × (Nat → Int32)))} {r_X12_either : Int32 → Int32 → Int32 → Int32 → Int32 → Int32 → Int32 → Int32 → Int32 → Int32 → Int32 → Int32 → Int32 → Int32 → Int32 → Int32 → Int32 → (Nat → Int32) → (Nat → Int32) → (Nat → Int32) → (Option (Int32 × Int32 × Int32 × Int32 × (Nat → Int32) × (Nat → Int32)))} {r_X12_operand : Int32 → Int32 → Int32 → Int32 → Int32 → Int32 → Int32 → Int32 → Int32 → Int32 → Int32 → Int32 → Int32 → Int32 → Int32 → Int32 → Int32 → (Nat → Int32) → (Nat → Int32) → (Nat → Int32) → (Option (Int32 × Int32 × Int32 × Int32 × (Nat → Int32) × (Nat → Int32)))} {r_X12_product : Int32 → Int32 → Int32 → Int32 → Int32 → Int32 → Int32 → Int32 → Int32 → Int32 → Int32 → Int32 → Int32 → Int32 → Int32 → Int32 → Int32 → (Nat → Int32) → (Nat → Int32) → (Nat → Int32) → (Option (Int32 × Int32 × Int32 × Int32 × (Nat → Int32) × (Nat → Int32)))} {r_X12_sum : Int32 → Int32 → Int32 → Int32 → Int32 → Int32 → Int32 → Int32 → Int32 → Int32 → Int32 → Int32 → Int32 → Int32 → Int32 → Int32 → Int32 → (Nat → Int32) → (Nat → Int32) → (Nat → Int32) → (Option (Int32 × Int32 × Int32 × Int32 × (Nat → Int32) × (Nat → Int32)))} (hr_X12_both : FRP (fun he g o l ac wi => r_X12_both mod_code court_shoeCount mod_claims ts he g court_suitCount mod_doneMany mod_undoneMany o l mod_isBoth mod_wished mod_bestMany mod_bestRow mod_ringDigits mod_traces tm ac wi)) (hr_X12_compared : FRP (fun he g o l ac wi => r_X12_compared mod_code court_shoeCount mod_claims ts he g court_suitCount mod_doneMany mod_undoneMany o l mod_isBoth mod_wished mod_bestMany mod_bestRow mod_ringDigits mod_traces tm ac wi)) (hr_X12_either : FRP (fun he g o l ac wi => r_X12_either mod_code court_shoeCount mod_claims ts he g court_suitCount mod_doneMany mod_undoneMany o l mod_isBoth mod_wished mod_bestMany mod_bestRow mod_ringDigits mod_traces tm ac wi)) (hr_X12_operand : FRP (fun he g o l ac wi => r_X12_operand mod_code court_shoeCount mod_claims ts he g court_suitCount mod_doneMany mod_undoneMany o l mod_isBoth mod_wished mod_bestMany mod_bestRow mod_ringDigits mod_traces tm ac wi)) (hr_X12_product : FRP (fun he g o l ac wi => r_X12_product mod_code court_shoeCount mod_claims ts he g court_suitCount mod_doneMany mod_undoneMany o l mod_isBoth mod_wished mod_bestMany mod_bestRow mod_ringDigits mod_traces tm ac wi)) (hr_X12_sum : FRP (fun he g o l ac wi => r_X12_sum mod_code court_shoeCount mod_claims ts he g court_suitCount mod_doneMany mod_undoneMany o l mod_isBoth mod_wished mod_bestMany mod_bestRow mod_ringDigits mod_traces tm ac wi)) : ∀ (n : Nat) (he g o l : Int32) (ac wi : Nat → Int32) (S : Int32 × Int32 × Int32 × Int32 × (Nat → Int32) × (Nat → Int32)), 0 ≤ l.toInt → G_X12_product r_X12_both r_X12_compared r_X12_either r_X12_operand r_X12_product r_X12_sum mod_code court_shoeCount mod_claims ts court_suitCount mod_doneMany mod_undoneMany mod_isBoth mod_wished mod_bestMany mod_bestRow mod_ringDigits mod_traces tm n he g o l ac wi = some S → FR6 ac wi S.2.2.2.1 S.2.2.2.2.1 S.2.2.2.2.2 := by
  intro n
  induction n with
  | zero =>
    intro he g o l ac wi S hl h
    cases h
  | succ n ih =>
    intro he g o l ac wi S hl h
    replace h : B_X12_product_4 r_X12_both r_X12_compared r_X12_either r_X12_operand r_X12_product r_X12_sum (G_X12_product r_X12_both r_X12_compared r_X12_either r_X12_operand r_X12_product r_X12_sum mod_code court_shoeCount mod_claims ts court_suitCount mod_doneMany mod_undoneMany mod_isBoth mod_wished mod_bestMany mod_bestRow mod_ringDigits mod_traces tm n) mod_code court_shoeCount mod_claims ts court_suitCount mod_doneMany mod_undoneMany mod_isBoth mod_wished mod_bestMany mod_bestRow mod_ringDigits mod_traces tm he g o l ac wi = some S := h
    have fr0 : FR6 ac wi l ac wi := F6_rf hl
    unfold B_X12_product_4 at h
    by_cases cc1 : 0 ≤ g
    · replace h := zk_t cc1 h
      have cc1n := cc1
      (try simp only [i32_lt, i32_le, i32_e, z32_0, z32_1] at cc1n)
      replace h := Option.some.inj h
      subst h
      exact fr0
    · replace h := zk_f cc1 h
      have cc1n := cc1
      (try simp only [i32_lt, i32_le, i32_e, z32_0, z32_1] at cc1n)
      replace h := zk_o2 h
      obtain ⟨cv2, cv3, ch4, h⟩ := h
      skip
      by_cases cc5 : cv2 = (42 : Int32)
      · replace h := zk_t cc5 h
        have cc5n := cc5
        (try simp only [i32_lt, i32_le, i32_e, z32_0, z32_1, z32L_42] at cc5n)
        unfold B_X12_product_38 at h
        replace h := zk_o2 h
        obtain ⟨cv6, cv7, ch8, h⟩ := h
        skip
        replace h := zk_lt h
        obtain ⟨cv9, ce10, h⟩ := h
        subst ce10
        replace h := zk_o6 h
        obtain ⟨cv11, cv12, cv13, cv14, cv15, cv16, ch17, h⟩ := h
        obtain ck18 := hr_X12_operand _ _ _ _ _ _ _ _ _ _ _ _ fr0.1 ch17
        have ck19 := F6_tr fr0 ck18
        replace h := zk_o3 h
        obtain ⟨cv20, cv21, cv22, ch23, h⟩ := h
        obtain ck24 := fr_lay ck19.1 ch23
        have ck25 := F6_tr ck19 ck24
        exact F6_tr ck25 (ih _ _ _ _ _ _ _ ck25.1 h)
      · replace h := zk_f cc5 h
        have cc5n := cc5
        (try simp only [i32_lt, i32_le, i32_e, z32_0, z32_1, z32L_42] at cc5n)
        replace h := zk_o2 h
        obtain ⟨cv26, cv27, ch28, h⟩ := h
        skip
        by_cases cc29 : cv26 = (47 : Int32)
        · replace h := zk_t cc29 h
          have cc29n := cc29
          (try simp only [i32_lt, i32_le, i32_e, z32_0, z32_1, z32L_47] at cc29n)
          unfold B_X12_product_38 at h
          replace h := zk_o2 h
          obtain ⟨cv30, cv31, ch32, h⟩ := h
          skip
          replace h := zk_lt h
          obtain ⟨cv33, ce34, h⟩ := h
          subst ce34
          replace h := zk_o6 h
          obtain ⟨cv35, cv36, cv37, cv38, cv39, cv40, ch41, h⟩ := h
          obtain ck42 := hr_X12_operand _ _ _ _ _ _ _ _ _ _ _ _ fr0.1 ch41
          have ck43 := F6_tr fr0 ck42
          replace h := zk_o3 h
          obtain ⟨cv44, cv45, cv46, ch47, h⟩ := h
          obtain ck48 := fr_lay ck43.1 ch47
          have ck49 := F6_tr ck43 ck48
          exact F6_tr ck49 (ih _ _ _ _ _ _ _ ck49.1 h)
        · replace h := zk_f cc29 h
          have cc29n := cc29
          (try simp only [i32_lt, i32_le, i32_e, z32_0, z32_1, z32L_47] at cc29n)
          replace h := zk_o2 h
          obtain ⟨cv50, cv51, ch52, h⟩ := h
          skip
          by_cases cc53 : cv50 = (37 : Int32)
          · replace h := zk_t cc53 h
            have cc53n := cc53
            (try simp only [i32_lt, i32_le, i32_e, z32_0, z32_1, z32L_37] at cc53n)
            unfold B_X12_product_38 at h
            replace h := zk_o2 h
            obtain ⟨cv54, cv55, ch56, h⟩ := h
            skip
            replace h := zk_lt h
            obtain ⟨cv57, ce58, h⟩ := h
            subst ce58
            replace h := zk_o6 h
            obtain ⟨cv59, cv60, cv61, cv62, cv63, cv64, ch65, h⟩ := h
            obtain ck66 := hr_X12_operand _ _ _ _ _ _ _ _ _ _ _ _ fr0.1 ch65
            have ck67 := F6_tr fr0 ck66
            replace h := zk_o3 h
            obtain ⟨cv68, cv69, cv70, ch71, h⟩ := h
            obtain ck72 := fr_lay ck67.1 ch71
            have ck73 := F6_tr ck67 ck72
            exact F6_tr ck73 (ih _ _ _ _ _ _ _ ck73.1 h)
          · replace h := zk_f cc53 h
            have cc53n := cc53
            (try simp only [i32_lt, i32_le, i32_e, z32_0, z32_1, z32L_37] at cc53n)
            replace h := Option.some.inj h
            subst h
            exact fr0
set_option maxHeartbeats 4000000 in
set_option maxRecDepth 20000 in
theorem fr_product {mod_code : Int32} {court_shoeCount : Int32} {mod_claims : Int32} {ts : Int32} {court_suitCount : Int32} {mod_doneMany : Int32} {mod_undoneMany : Int32} {mod_isBoth : Int32} {mod_wished : Int32} {mod_bestMany : Int32} {mod_bestRow : Int32} {mod_ringDigits : Int32} {mod_traces : Int32} {tm : Nat → Int32} {r_X12_both : Int32 → Int32 → Int32 → Int32 → Int32 → Int32 → Int32 → Int32 → Int32 → Int32 → Int32 → Int32 → Int32 → Int32 → Int32 → Int32 → Int32 → (Nat → Int32) → (Nat → Int32) → (Nat → Int32) → (Option (Int32 × Int32 × Int32 × Int32 × (Nat → Int32) × (Nat → Int32)))} {r_X12_compared : Int32 → Int32 → Int32 → Int32 → Int32 → Int32 → Int32 → Int32 → Int32 → Int32 → Int32 → Int32 → Int32 → Int32 → Int32 → Int32 → Int32 → (Nat → Int32) → (Nat → Int32) → (Nat → Int32) → (Option (Int32 × Int32 × Int32 × Int32 × (Nat → Int32) × (Nat → Int32)))} {r_X12_either : Int32 → Int32 → Int32 → Int32 → Int32 → Int32 → Int32 → Int32 → Int32 → Int32 → Int32 → Int32 → Int32 → Int32 → Int32 → Int32 → Int32 → (Nat → Int32) → (Nat → Int32) → (Nat → Int32) → (Option (Int32 × Int32 × Int32 × Int32 × (Nat → Int32) × (Nat → Int32)))} {r_X12_operand : Int32 → Int32 → Int32 → Int32 → Int32 → Int32 → Int32 → Int32 → Int32 → Int32 → Int32 → Int32 → Int32 → Int32 → Int32 → Int32 → Int32 → (Nat → Int32) → (Nat → Int32) → (Nat → Int32) → (Option (Int32 × Int32 × Int32 × Int32 × (Nat → Int32) × (Nat → Int32)))} {r_X12_product : Int32 → Int32 → Int32 → Int32 → Int32 → Int32 → Int32 → Int32 → Int32 → Int32 → Int32 → Int32 → Int32 → Int32 → Int32 → Int32 → Int32 → (Nat → Int32) → (Nat → Int32) → (Nat → Int32) → (Option (Int32 × Int32 × Int32 × Int32 × (Nat → Int32) × (Nat → Int32)))} {r_X12_sum : Int32 → Int32 → Int32 → Int32 → Int32 → Int32 → Int32 → Int32 → Int32 → Int32 → Int32 → Int32 → Int32 → Int32 → Int32 → Int32 → Int32 → (Nat → Int32) → (Nat → Int32) → (Nat → Int32) → (Option (Int32 × Int32 × Int32 × Int32 × (Nat → Int32) × (Nat → Int32)))} {n : Nat} (hr_X12_both : FRP (fun he g o l ac wi => r_X12_both mod_code court_shoeCount mod_claims ts he g court_suitCount mod_doneMany mod_undoneMany o l mod_isBoth mod_wished mod_bestMany mod_bestRow mod_ringDigits mod_traces tm ac wi)) (hr_X12_compared : FRP (fun he g o l ac wi => r_X12_compared mod_code court_shoeCount mod_claims ts he g court_suitCount mod_doneMany mod_undoneMany o l mod_isBoth mod_wished mod_bestMany mod_bestRow mod_ringDigits mod_traces tm ac wi)) (hr_X12_either : FRP (fun he g o l ac wi => r_X12_either mod_code court_shoeCount mod_claims ts he g court_suitCount mod_doneMany mod_undoneMany o l mod_isBoth mod_wished mod_bestMany mod_bestRow mod_ringDigits mod_traces tm ac wi)) (hr_X12_operand : FRP (fun he g o l ac wi => r_X12_operand mod_code court_shoeCount mod_claims ts he g court_suitCount mod_doneMany mod_undoneMany o l mod_isBoth mod_wished mod_bestMany mod_bestRow mod_ringDigits mod_traces tm ac wi)) (hr_X12_product : FRP (fun he g o l ac wi => r_X12_product mod_code court_shoeCount mod_claims ts he g court_suitCount mod_doneMany mod_undoneMany o l mod_isBoth mod_wished mod_bestMany mod_bestRow mod_ringDigits mod_traces tm ac wi)) (hr_X12_sum : FRP (fun he g o l ac wi => r_X12_sum mod_code court_shoeCount mod_claims ts he g court_suitCount mod_doneMany mod_undoneMany o l mod_isBoth mod_wished mod_bestMany mod_bestRow mod_ringDigits mod_traces tm ac wi)) : FRP (fun he g o l ac wi => f_X12_product r_X12_both r_X12_compared r_X12_either r_X12_operand r_X12_product r_X12_sum n mod_code court_shoeCount mod_claims ts he g court_suitCount mod_doneMany mod_undoneMany o l mod_isBoth mod_wished mod_bestMany mod_bestRow mod_ringDigits mod_traces tm ac wi) := by
  intro he g o l ac wi u1 u2 u3 u4 u5 u6 hl h
  replace h : f_X12_product r_X12_both r_X12_compared r_X12_either r_X12_operand r_X12_product r_X12_sum n mod_code court_shoeCount mod_claims ts he g court_suitCount mod_doneMany mod_undoneMany o l mod_isBoth mod_wished mod_bestMany mod_bestRow mod_ringDigits mod_traces tm ac wi = some (u1, u2, u3, u4, u5, u6) := h
  have fr0 : FR6 ac wi l ac wi := F6_rf hl
  unfold f_X12_product at h
  unfold B_X12_product_0 at h
  replace h := zk_o6 h
  obtain ⟨cv1, cv2, cv3, cv4, cv5, cv6, ch7, h⟩ := h
  obtain ck8 := hr_X12_operand _ _ _ _ _ _ _ _ _ _ _ _ fr0.1 ch7
  have ck9 := F6_tr fr0 ck8
  exact F6_tr ck9 (fr_g_product hr_X12_both hr_X12_compared hr_X12_either hr_X12_operand hr_X12_product hr_X12_sum _ _ _ _ _ _ _ _ ck9.1 h)
set_option maxHeartbeats 4000000 in
set_option maxRecDepth 20000 in
theorem fr_compared {mod_code : Int32} {court_shoeCount : Int32} {mod_claims : Int32} {ts : Int32} {court_suitCount : Int32} {mod_doneMany : Int32} {mod_undoneMany : Int32} {mod_isBoth : Int32} {mod_wished : Int32} {mod_bestMany : Int32} {mod_bestRow : Int32} {mod_ringDigits : Int32} {mod_traces : Int32} {tm : Nat → Int32} {r_X12_both : Int32 → Int32 → Int32 → Int32 → Int32 → Int32 → Int32 → Int32 → Int32 → Int32 → Int32 → Int32 → Int32 → Int32 → Int32 → Int32 → Int32 → (Nat → Int32) → (Nat → Int32) → (Nat → Int32) → (Option (Int32 × Int32 × Int32 × Int32 × (Nat → Int32) × (Nat → Int32)))} {r_X12_compared : Int32 → Int32 → Int32 → Int32 → Int32 → Int32 → Int32 → Int32 → Int32 → Int32 → Int32 → Int32 → Int32 → Int32 → Int32 → Int32 → Int32 → (Nat → Int32) → (Nat → Int32) → (Nat → Int32) → (Option (Int32 × Int32 × Int32 × Int32 × (Nat → Int32) × (Nat → Int32)))} {r_X12_either : Int32 → Int32 → Int32 → Int32 → Int32 → Int32 → Int32 → Int32 → Int32 → Int32 → Int32 → Int32 → Int32 → Int32 → Int32 → Int32 → Int32 → (Nat → Int32) → (Nat → Int32) → (Nat → Int32) → (Option (Int32 × Int32 × Int32 × Int32 × (Nat → Int32) × (Nat → Int32)))} {r_X12_operand : Int32 → Int32 → Int32 → Int32 → Int32 → Int32 → Int32 → Int32 → Int32 → Int32 → Int32 → Int32 → Int32 → Int32 → Int32 → Int32 → Int32 → (Nat → Int32) → (Nat → Int32) → (Nat → Int32) → (Option (Int32 × Int32 × Int32 × Int32 × (Nat → Int32) × (Nat → Int32)))} {r_X12_product : Int32 → Int32 → Int32 → Int32 → Int32 → Int32 → Int32 → Int32 → Int32 → Int32 → Int32 → Int32 → Int32 → Int32 → Int32 → Int32 → Int32 → (Nat → Int32) → (Nat → Int32) → (Nat → Int32) → (Option (Int32 × Int32 × Int32 × Int32 × (Nat → Int32) × (Nat → Int32)))} {r_X12_sum : Int32 → Int32 → Int32 → Int32 → Int32 → Int32 → Int32 → Int32 → Int32 → Int32 → Int32 → Int32 → Int32 → Int32 → Int32 → Int32 → Int32 → (Nat → Int32) → (Nat → Int32) → (Nat → Int32) → (Option (Int32 × Int32 × Int32 × Int32 × (Nat → Int32) × (Nat → Int32)))} (hr_X12_both : FRP (fun he g o l ac wi => r_X12_both mod_code court_shoeCount mod_claims ts he g court_suitCount mod_doneMany mod_undoneMany o l mod_isBoth mod_wished mod_bestMany mod_bestRow mod_ringDigits mod_traces tm ac wi)) (hr_X12_compared : FRP (fun he g o l ac wi => r_X12_compared mod_code court_shoeCount mod_claims ts he g court_suitCount mod_doneMany mod_undoneMany o l mod_isBoth mod_wished mod_bestMany mod_bestRow mod_ringDigits mod_traces tm ac wi)) (hr_X12_either : FRP (fun he g o l ac wi => r_X12_either mod_code court_shoeCount mod_claims ts he g court_suitCount mod_doneMany mod_undoneMany o l mod_isBoth mod_wished mod_bestMany mod_bestRow mod_ringDigits mod_traces tm ac wi)) (hr_X12_operand : FRP (fun he g o l ac wi => r_X12_operand mod_code court_shoeCount mod_claims ts he g court_suitCount mod_doneMany mod_undoneMany o l mod_isBoth mod_wished mod_bestMany mod_bestRow mod_ringDigits mod_traces tm ac wi)) (hr_X12_product : FRP (fun he g o l ac wi => r_X12_product mod_code court_shoeCount mod_claims ts he g court_suitCount mod_doneMany mod_undoneMany o l mod_isBoth mod_wished mod_bestMany mod_bestRow mod_ringDigits mod_traces tm ac wi)) (hr_X12_sum : FRP (fun he g o l ac wi => r_X12_sum mod_code court_shoeCount mod_claims ts he g court_suitCount mod_doneMany mod_undoneMany o l mod_isBoth mod_wished mod_bestMany mod_bestRow mod_ringDigits mod_traces tm ac wi)) : FRP (fun he g o l ac wi => f_X12_compared r_X12_both r_X12_compared r_X12_either r_X12_operand r_X12_product r_X12_sum mod_code court_shoeCount mod_claims ts he g court_suitCount mod_doneMany mod_undoneMany o l mod_isBoth mod_wished mod_bestMany mod_bestRow mod_ringDigits mod_traces tm ac wi) := by
  intro he g o l ac wi u1 u2 u3 u4 u5 u6 hl h
  replace h : f_X12_compared r_X12_both r_X12_compared r_X12_either r_X12_operand r_X12_product r_X12_sum mod_code court_shoeCount mod_claims ts he g court_suitCount mod_doneMany mod_undoneMany o l mod_isBoth mod_wished mod_bestMany mod_bestRow mod_ringDigits mod_traces tm ac wi = some (u1, u2, u3, u4, u5, u6) := h
  have fr0 : FR6 ac wi l ac wi := F6_rf hl
  unfold f_X12_compared at h
  unfold B_X12_compared_0 at h
  replace h := zk_o6 h
  obtain ⟨cv1, cv2, cv3, cv4, cv5, cv6, ch7, h⟩ := h
  obtain ck8 := hr_X12_sum _ _ _ _ _ _ _ _ _ _ _ _ fr0.1 ch7
  have ck9 := F6_tr fr0 ck8
  replace h := zk_o2 h
  obtain ⟨cv10, cv11, ch12, h⟩ := h
  skip
  by_cases cc13 : 0 ≤ cv2
  · replace h := zk_t cc13 h
    have cc13n := cc13
    (try simp only [i32_lt, i32_le, i32_e, z32_0, z32_1] at cc13n)
    replace h := Option.some.inj h
    simp only [Prod.mk.injEq] at h
    obtain ⟨rfl, rfl, rfl, rfl, rfl, rfl⟩ := h
    exact ck9
  · replace h := zk_f cc13 h
    have cc13n := cc13
    (try simp only [i32_lt, i32_le, i32_e, z32_0, z32_1] at cc13n)
    by_cases cc14 : cv10 = (60 : Int32)
    · replace h := zk_t cc14 h
      have cc14n := cc14
      (try simp only [i32_lt, i32_le, i32_e, z32_0, z32_1, z32L_60] at cc14n)
      unfold B_X12_compared_35 at h
      replace h := zk_lt h
      obtain ⟨cv15, ce16, h⟩ := h
      subst ce16
      replace h := zk_o6 h
      obtain ⟨cv17, cv18, cv19, cv20, cv21, cv22, ch23, h⟩ := h
      obtain ck24 := hr_X12_sum _ _ _ _ _ _ _ _ _ _ _ _ ck9.1 ch23
      have ck25 := F6_tr ck9 ck24
      replace h := zk_o3 h
      obtain ⟨cv26, cv27, cv28, ch29, h⟩ := h
      obtain ck30 := fr_lay ck25.1 ch29
      have ck31 := F6_tr ck25 ck30
      replace h := Option.some.inj h
      simp only [Prod.mk.injEq] at h
      obtain ⟨rfl, rfl, rfl, rfl, rfl, rfl⟩ := h
      exact ck31
    · replace h := zk_f cc14 h
      have cc14n := cc14
      (try simp only [i32_lt, i32_le, i32_e, z32_0, z32_1, z32L_60] at cc14n)
      by_cases cc32 : cv10 = (61 : Int32)
      · replace h := zk_t cc32 h
        have cc32n := cc32
        (try simp only [i32_lt, i32_le, i32_e, z32_0, z32_1, z32L_61] at cc32n)
        unfold B_X12_compared_35 at h
        replace h := zk_lt h
        obtain ⟨cv33, ce34, h⟩ := h
        subst ce34
        replace h := zk_o6 h
        obtain ⟨cv35, cv36, cv37, cv38, cv39, cv40, ch41, h⟩ := h
        obtain ck42 := hr_X12_sum _ _ _ _ _ _ _ _ _ _ _ _ ck9.1 ch41
        have ck43 := F6_tr ck9 ck42
        replace h := zk_o3 h
        obtain ⟨cv44, cv45, cv46, ch47, h⟩ := h
        obtain ck48 := fr_lay ck43.1 ch47
        have ck49 := F6_tr ck43 ck48
        replace h := Option.some.inj h
        simp only [Prod.mk.injEq] at h
        obtain ⟨rfl, rfl, rfl, rfl, rfl, rfl⟩ := h
        exact ck49
      · replace h := zk_f cc32 h
        have cc32n := cc32
        (try simp only [i32_lt, i32_le, i32_e, z32_0, z32_1, z32L_61] at cc32n)
        by_cases cc50 : cv10 = (62 : Int32)
        · replace h := zk_t cc50 h
          have cc50n := cc50
          (try simp only [i32_lt, i32_le, i32_e, z32_0, z32_1, z32L_62] at cc50n)
          unfold B_X12_compared_35 at h
          replace h := zk_lt h
          obtain ⟨cv51, ce52, h⟩ := h
          subst ce52
          replace h := zk_o6 h
          obtain ⟨cv53, cv54, cv55, cv56, cv57, cv58, ch59, h⟩ := h
          obtain ck60 := hr_X12_sum _ _ _ _ _ _ _ _ _ _ _ _ ck9.1 ch59
          have ck61 := F6_tr ck9 ck60
          replace h := zk_o3 h
          obtain ⟨cv62, cv63, cv64, ch65, h⟩ := h
          obtain ck66 := fr_lay ck61.1 ch65
          have ck67 := F6_tr ck61 ck66
          replace h := Option.some.inj h
          simp only [Prod.mk.injEq] at h
          obtain ⟨rfl, rfl, rfl, rfl, rfl, rfl⟩ := h
          exact ck67
        · replace h := zk_f cc50 h
          have cc50n := cc50
          (try simp only [i32_lt, i32_le, i32_e, z32_0, z32_1, z32L_62] at cc50n)
          replace h := Option.some.inj h
          simp only [Prod.mk.injEq] at h
          obtain ⟨rfl, rfl, rfl, rfl, rfl, rfl⟩ := h
          exact ck9
set_option maxHeartbeats 4000000 in
set_option maxRecDepth 20000 in
theorem fr_operand {mod_code : Int32} {court_shoeCount : Int32} {mod_claims : Int32} {ts : Int32} {court_suitCount : Int32} {mod_doneMany : Int32} {mod_undoneMany : Int32} {mod_isBoth : Int32} {mod_wished : Int32} {mod_bestMany : Int32} {mod_bestRow : Int32} {mod_ringDigits : Int32} {mod_traces : Int32} {tm : Nat → Int32} {r_X12_both : Int32 → Int32 → Int32 → Int32 → Int32 → Int32 → Int32 → Int32 → Int32 → Int32 → Int32 → Int32 → Int32 → Int32 → Int32 → Int32 → Int32 → (Nat → Int32) → (Nat → Int32) → (Nat → Int32) → (Option (Int32 × Int32 × Int32 × Int32 × (Nat → Int32) × (Nat → Int32)))} {r_X12_compared : Int32 → Int32 → Int32 → Int32 → Int32 → Int32 → Int32 → Int32 → Int32 → Int32 → Int32 → Int32 → Int32 → Int32 → Int32 → Int32 → Int32 → (Nat → Int32) → (Nat → Int32) → (Nat → Int32) → (Option (Int32 × Int32 × Int32 × Int32 × (Nat → Int32) × (Nat → Int32)))} {r_X12_either : Int32 → Int32 → Int32 → Int32 → Int32 → Int32 → Int32 → Int32 → Int32 → Int32 → Int32 → Int32 → Int32 → Int32 → Int32 → Int32 → Int32 → (Nat → Int32) → (Nat → Int32) → (Nat → Int32) → (Option (Int32 × Int32 × Int32 × Int32 × (Nat → Int32) × (Nat → Int32)))} {r_X12_operand : Int32 → Int32 → Int32 → Int32 → Int32 → Int32 → Int32 → Int32 → Int32 → Int32 → Int32 → Int32 → Int32 → Int32 → Int32 → Int32 → Int32 → (Nat → Int32) → (Nat → Int32) → (Nat → Int32) → (Option (Int32 × Int32 × Int32 × Int32 × (Nat → Int32) × (Nat → Int32)))} {r_X12_product : Int32 → Int32 → Int32 → Int32 → Int32 → Int32 → Int32 → Int32 → Int32 → Int32 → Int32 → Int32 → Int32 → Int32 → Int32 → Int32 → Int32 → (Nat → Int32) → (Nat → Int32) → (Nat → Int32) → (Option (Int32 × Int32 × Int32 × Int32 × (Nat → Int32) × (Nat → Int32)))} {r_X12_sum : Int32 → Int32 → Int32 → Int32 → Int32 → Int32 → Int32 → Int32 → Int32 → Int32 → Int32 → Int32 → Int32 → Int32 → Int32 → Int32 → Int32 → (Nat → Int32) → (Nat → Int32) → (Nat → Int32) → (Option (Int32 × Int32 × Int32 × Int32 × (Nat → Int32) × (Nat → Int32)))} (hr_X12_both : FRP (fun he g o l ac wi => r_X12_both mod_code court_shoeCount mod_claims ts he g court_suitCount mod_doneMany mod_undoneMany o l mod_isBoth mod_wished mod_bestMany mod_bestRow mod_ringDigits mod_traces tm ac wi)) (hr_X12_compared : FRP (fun he g o l ac wi => r_X12_compared mod_code court_shoeCount mod_claims ts he g court_suitCount mod_doneMany mod_undoneMany o l mod_isBoth mod_wished mod_bestMany mod_bestRow mod_ringDigits mod_traces tm ac wi)) (hr_X12_either : FRP (fun he g o l ac wi => r_X12_either mod_code court_shoeCount mod_claims ts he g court_suitCount mod_doneMany mod_undoneMany o l mod_isBoth mod_wished mod_bestMany mod_bestRow mod_ringDigits mod_traces tm ac wi)) (hr_X12_operand : FRP (fun he g o l ac wi => r_X12_operand mod_code court_shoeCount mod_claims ts he g court_suitCount mod_doneMany mod_undoneMany o l mod_isBoth mod_wished mod_bestMany mod_bestRow mod_ringDigits mod_traces tm ac wi)) (hr_X12_product : FRP (fun he g o l ac wi => r_X12_product mod_code court_shoeCount mod_claims ts he g court_suitCount mod_doneMany mod_undoneMany o l mod_isBoth mod_wished mod_bestMany mod_bestRow mod_ringDigits mod_traces tm ac wi)) (hr_X12_sum : FRP (fun he g o l ac wi => r_X12_sum mod_code court_shoeCount mod_claims ts he g court_suitCount mod_doneMany mod_undoneMany o l mod_isBoth mod_wished mod_bestMany mod_bestRow mod_ringDigits mod_traces tm ac wi)) : FRP (fun he g o l ac wi => f_X12_operand r_X12_both r_X12_compared r_X12_either r_X12_operand r_X12_product r_X12_sum mod_code court_shoeCount mod_claims ts he g court_suitCount mod_doneMany mod_undoneMany o l mod_isBoth mod_wished mod_bestMany mod_bestRow mod_ringDigits mod_traces tm ac wi) := by
  intro he g o l ac wi u1 u2 u3 u4 u5 u6 hl h
  replace h : f_X12_operand r_X12_both r_X12_compared r_X12_either r_X12_operand r_X12_product r_X12_sum mod_code court_shoeCount mod_claims ts he g court_suitCount mod_doneMany mod_undoneMany o l mod_isBoth mod_wished mod_bestMany mod_bestRow mod_ringDigits mod_traces tm ac wi = some (u1, u2, u3, u4, u5, u6) := h
  have fr0 : FR6 ac wi l ac wi := F6_rf hl
  unfold f_X12_operand at h
  unfold B_X12_operand_0 at h
  replace h := zk_o2 h
  obtain ⟨cv1, cv2, ch3, h⟩ := h
  skip
  replace h := zk_o2 h
  obtain ⟨cv4, cv5, ch6, h⟩ := h
  skip
  by_cases cc7 : cv4 < 0
  · replace h := zk_t cc7 h
    have cc7n := cc7
    (try simp only [i32_lt, i32_le, i32_e, z32_0, z32_1] at cc7n)
    by_cases cc8 : cv1 = (33 : Int32)
    · replace h := zk_t cc8 h
      have cc8n := cc8
      (try simp only [i32_lt, i32_le, i32_e, z32_0, z32_1, z32L_33] at cc8n)
      unfold B_X12_operand_46 at h
      replace h := zk_o4 h
      obtain ⟨cv9, cv10, cv11, cv12, ch13, h⟩ := h
      skip
      by_cases cc14 : cv9 = 0
      · replace h := zk_t cc14 h
        have cc14n := cc14
        (try simp only [i32_lt, i32_le, i32_e, z32_0, z32_1] at cc14n)
        replace h := Option.some.inj h
        simp only [Prod.mk.injEq] at h
        obtain ⟨rfl, rfl, rfl, rfl, rfl, rfl⟩ := h
        exact fr0
      · replace h := zk_f cc14 h
        have cc14n := cc14
        (try simp only [i32_lt, i32_le, i32_e, z32_0, z32_1] at cc14n)
        replace h := zk_o6 h
        obtain ⟨cv15, cv16, cv17, cv18, cv19, cv20, ch21, h⟩ := h
        obtain ck22 := hr_X12_operand _ _ _ _ _ _ _ _ _ _ _ _ fr0.1 ch21
        have ck23 := F6_tr fr0 ck22
        replace h := zk_lt h
        obtain ⟨cv24, ce25, h⟩ := h
        subst ce25
        replace h := zk_t cc8 h
        unfold B_X12_operand_80 at h
        replace h := zk_o3 h
        obtain ⟨cv26, cv27, cv28, ch29, h⟩ := h
        obtain ck30 := fr_lay ck23.1 ch29
        have ck31 := F6_tr ck23 ck30
        replace h := Option.some.inj h
        simp only [Prod.mk.injEq] at h
        obtain ⟨rfl, rfl, rfl, rfl, rfl, rfl⟩ := h
        exact ck31
    · replace h := zk_f cc8 h
      have cc8n := cc8
      (try simp only [i32_lt, i32_le, i32_e, z32_0, z32_1, z32L_33] at cc8n)
      by_cases cc32 : cv1 = (45 : Int32)
      · replace h := zk_t cc32 h
        have cc32n := cc32
        (try simp only [i32_lt, i32_le, i32_e, z32_0, z32_1, z32L_45] at cc32n)
        unfold B_X12_operand_46 at h
        replace h := zk_o4 h
        obtain ⟨cv33, cv34, cv35, cv36, ch37, h⟩ := h
        skip
        by_cases cc38 : cv33 = 0
        · replace h := zk_t cc38 h
          have cc38n := cc38
          (try simp only [i32_lt, i32_le, i32_e, z32_0, z32_1] at cc38n)
          replace h := Option.some.inj h
          simp only [Prod.mk.injEq] at h
          obtain ⟨rfl, rfl, rfl, rfl, rfl, rfl⟩ := h
          exact fr0
        · replace h := zk_f cc38 h
          have cc38n := cc38
          (try simp only [i32_lt, i32_le, i32_e, z32_0, z32_1] at cc38n)
          replace h := zk_o6 h
          obtain ⟨cv39, cv40, cv41, cv42, cv43, cv44, ch45, h⟩ := h
          obtain ck46 := hr_X12_operand _ _ _ _ _ _ _ _ _ _ _ _ fr0.1 ch45
          have ck47 := F6_tr fr0 ck46
          replace h := zk_lt h
          obtain ⟨cv48, ce49, h⟩ := h
          subst ce49
          replace h := zk_f cc8 h
          unfold B_X12_operand_80 at h
          replace h := zk_o3 h
          obtain ⟨cv50, cv51, cv52, ch53, h⟩ := h
          obtain ck54 := fr_lay ck47.1 ch53
          have ck55 := F6_tr ck47 ck54
          replace h := Option.some.inj h
          simp only [Prod.mk.injEq] at h
          obtain ⟨rfl, rfl, rfl, rfl, rfl, rfl⟩ := h
          exact ck55
      · replace h := zk_f cc32 h
        have cc32n := cc32
        (try simp only [i32_lt, i32_le, i32_e, z32_0, z32_1, z32L_45] at cc32n)
        by_cases cc56 : cv1 = (40 : Int32)
        · replace h := zk_t cc56 h
          have cc56n := cc56
          (try simp only [i32_lt, i32_le, i32_e, z32_0, z32_1, z32L_40] at cc56n)
          replace h := zk_o4 h
          obtain ⟨cv57, cv58, cv59, cv60, ch61, h⟩ := h
          skip
          by_cases cc62 : cv57 = 0
          · replace h := zk_t cc62 h
            have cc62n := cc62
            (try simp only [i32_lt, i32_le, i32_e, z32_0, z32_1] at cc62n)
            replace h := Option.some.inj h
            simp only [Prod.mk.injEq] at h
            obtain ⟨rfl, rfl, rfl, rfl, rfl, rfl⟩ := h
            exact fr0
          · replace h := zk_f cc62 h
            have cc62n := cc62
            (try simp only [i32_lt, i32_le, i32_e, z32_0, z32_1] at cc62n)
            replace h := zk_o6 h
            obtain ⟨cv63, cv64, cv65, cv66, cv67, cv68, ch69, h⟩ := h
            obtain ck70 := hr_X12_either _ _ _ _ _ _ _ _ _ _ _ _ fr0.1 ch69
            have ck71 := F6_tr fr0 ck70
            by_cases cc72 : cv64 < 0
            · replace h := zk_t cc72 h
              have cc72n := cc72
              (try simp only [i32_lt, i32_le, i32_e, z32_0, z32_1] at cc72n)
              replace h := zk_o2 h
              obtain ⟨cv73, cv74, ch75, h⟩ := h
              skip
              by_cases cc76 : cv73 = (41 : Int32)
              · replace h := zk_t cc76 h
                have cc76n := cc76
                (try simp only [i32_lt, i32_le, i32_e, z32_0, z32_1, z32L_41] at cc76n)
                replace h := zk_lt h
                obtain ⟨cv77, ce78, h⟩ := h
                subst ce78
                replace h := zk_lt h
                obtain ⟨cv79, ce80, h⟩ := h
                subst ce80
                replace h := Option.some.inj h
                simp only [Prod.mk.injEq] at h
                obtain ⟨rfl, rfl, rfl, rfl, rfl, rfl⟩ := h
                exact ck71
              · replace h := zk_f cc76 h
                have cc76n := cc76
                (try simp only [i32_lt, i32_le, i32_e, z32_0, z32_1, z32L_41] at cc76n)
                replace h := zk_o1 h
                obtain ⟨cv81, ch82, h⟩ := h
                skip
                replace h := Option.some.inj h
                simp only [Prod.mk.injEq] at h
                obtain ⟨rfl, rfl, rfl, rfl, rfl, rfl⟩ := h
                exact ck71
            · replace h := zk_f cc72 h
              have cc72n := cc72
              (try simp only [i32_lt, i32_le, i32_e, z32_0, z32_1] at cc72n)
              replace h := Option.some.inj h
              simp only [Prod.mk.injEq] at h
              obtain ⟨rfl, rfl, rfl, rfl, rfl, rfl⟩ := h
              exact ck71
        · replace h := zk_f cc56 h
          have cc56n := cc56
          (try simp only [i32_lt, i32_le, i32_e, z32_0, z32_1, z32L_40] at cc56n)
          replace h := zk_o5 h
          obtain ⟨cv83, cv84, cv85, cv86, cv87, ch88, h⟩ := h
          obtain ck89 := fr_fig fr0.1 ch88
          have ck90 := F6_tr fr0 ck89
          replace h := Option.some.inj h
          simp only [Prod.mk.injEq] at h
          obtain ⟨rfl, rfl, rfl, rfl, rfl, rfl⟩ := h
          exact ck90
  · replace h := zk_f cc7 h
    have cc7n := cc7
    (try simp only [i32_lt, i32_le, i32_e, z32_0, z32_1] at cc7n)
    replace h := zk_o2 h
    obtain ⟨cv91, cv92, ch93, h⟩ := h
    skip
    replace h := zk_o3 h
    obtain ⟨cv94, cv95, cv96, ch97, h⟩ := h
    obtain ck98 := fr_lay fr0.1 ch97
    have ck99 := F6_tr fr0 ck98
    replace h := zk_lt h
    obtain ⟨cv100, ce101, h⟩ := h
    subst ce101
    replace h := Option.some.inj h
    simp only [Prod.mk.injEq] at h
    obtain ⟨rfl, rfl, rfl, rfl, rfl, rfl⟩ := h
    exact ck99
set_option maxHeartbeats 4000000 in
set_option maxRecDepth 20000 in
theorem fr_grp {mod_code : Int32} {court_shoeCount : Int32} {mod_claims : Int32} {ts : Int32} {court_suitCount : Int32} {mod_doneMany : Int32} {mod_undoneMany : Int32} {mod_isBoth : Int32} {mod_wished : Int32} {mod_bestMany : Int32} {mod_bestRow : Int32} {mod_ringDigits : Int32} {mod_traces : Int32} {tm : Nat → Int32}  : ∀ n : Nat, FRP (fun he g o l ac wi => (grp_grp43 n).1 mod_code court_shoeCount mod_claims ts he g court_suitCount mod_doneMany mod_undoneMany o l mod_isBoth mod_wished mod_bestMany mod_bestRow mod_ringDigits mod_traces tm ac wi) ∧ FRP (fun he g o l ac wi => (grp_grp43 n).2.1 mod_code court_shoeCount mod_claims ts he g court_suitCount mod_doneMany mod_undoneMany o l mod_isBoth mod_wished mod_bestMany mod_bestRow mod_ringDigits mod_traces tm ac wi) ∧ FRP (fun he g o l ac wi => (grp_grp43 n).2.2.1 mod_code court_shoeCount mod_claims ts he g court_suitCount mod_doneMany mod_undoneMany o l mod_isBoth mod_wished mod_bestMany mod_bestRow mod_ringDigits mod_traces tm ac wi) ∧ FRP (fun he g o l ac wi => (grp_grp43 n).2.2.2.1 mod_code court_shoeCount mod_claims ts he g court_suitCount mod_doneMany mod_undoneMany o l mod_isBoth mod_wished mod_bestMany mod_bestRow mod_ringDigits mod_traces tm ac wi) ∧ FRP (fun he g o l ac wi => (grp_grp43 n).2.2.2.2.1 mod_code court_shoeCount mod_claims ts he g court_suitCount mod_doneMany mod_undoneMany o l mod_isBoth mod_wished mod_bestMany mod_bestRow mod_ringDigits mod_traces tm ac wi) ∧ FRP (fun he g o l ac wi => (grp_grp43 n).2.2.2.2.2 mod_code court_shoeCount mod_claims ts he g court_suitCount mod_doneMany mod_undoneMany o l mod_isBoth mod_wished mod_bestMany mod_bestRow mod_ringDigits mod_traces tm ac wi) := by
  intro n
  induction n with
  | zero =>
    refine ⟨?_, ?_, ?_, ?_, ?_, ?_⟩ <;>
    · intro he g o l ac wi u1 u2 u3 u4 u5 u6 hl h
      cases h
  | succ n ih =>
    obtain ⟨hr_X12_both, hr_X12_compared, hr_X12_either, hr_X12_operand, hr_X12_product, hr_X12_sum⟩ := ih
    exact ⟨fr_both hr_X12_both hr_X12_compared hr_X12_either hr_X12_operand hr_X12_product hr_X12_sum, fr_compared hr_X12_both hr_X12_compared hr_X12_either hr_X12_operand hr_X12_product hr_X12_sum, fr_either hr_X12_both hr_X12_compared hr_X12_either hr_X12_operand hr_X12_product hr_X12_sum, fr_operand hr_X12_both hr_X12_compared hr_X12_either hr_X12_operand hr_X12_product hr_X12_sum, fr_product hr_X12_both hr_X12_compared hr_X12_either hr_X12_operand hr_X12_product hr_X12_sum, fr_sum hr_X12_both hr_X12_compared hr_X12_either hr_X12_operand hr_X12_product hr_X12_sum⟩
def FRB (ac wi lm te le ac2 wi2 lm2 te2 le2 : Nat → Int32) : Prop := (∀ k, k < 4160 → ac2 k = ac k ∧ wi2 k = wi k) ∧ (∀ i, i < 1952 → te2 i = te i ∧ le2 i = le i) ∧ (∀ q, q < 32 → lm2 q = lm q)
theorem FRB_tr {ac wi lm te le ac2 wi2 lm2 te2 le2 ac3 wi3 lm3 te3 le3 : Nat → Int32} (h : FRB ac wi lm te le ac2 wi2 lm2 te2 le2) (h2 : FRB ac2 wi2 lm2 te2 le2 ac3 wi3 lm3 te3 le3) : FRB ac wi lm te le ac3 wi3 lm3 te3 le3 := ⟨fun k hk => by rw [(h2.1 k hk).1, (h2.1 k hk).2]; exact h.1 k hk, fun i hi => by rw [(h2.2.1 i hi).1, (h2.2.1 i hi).2]; exact h.2.1 i hi, fun q hq => by rw [h2.2.2 q hq]; exact h.2.2 q hq⟩
theorem ix1952 {y : Int32} (h : 0 ≤ y.toInt) (hg : ¬ (((1952 : Int32) + y) < 0 ∨ 2013 ≤ ((1952 : Int32) + y).toNatClampNeg)) : ((1952 : Int32) + y).toNatClampNeg = 1952 + y.toInt.toNat ∧ y.toInt < 61 := by
  have hi : 0 ≤ ((1952 : Int32) + y).toInt ∧ ((1952 : Int32) + y).toInt < 2013 := by
    have e : ((1952 : Int32) + y).toNatClampNeg = ((1952 : Int32) + y).toInt.toNat := rfl
    rw [e] at hg
    by_cases c0 : ((1952 : Int32) + y) < 0
    · exact absurd (Or.inl c0) hg
    · rw [i32_lt, z32_0] at c0
      by_cases c1 : 2013 ≤ ((1952 : Int32) + y).toInt.toNat
      · exact absurd (Or.inr c1) hg
      · omega
  have hl2 := Int32.toInt_lt y
  have es : ((1952 : Int32) + y).toInt = 1952 + y.toInt := by
    have e0 : (1952 : Int32).toInt = 1952 := by decide
    rw [Int32.toInt_add, e0] at hi ⊢
    by_cases c0 : 1952 + y.toInt < 2147483648
    · exact zi_bm2 (by omega) (by omega)
    · exfalso
      rw [Int.bmod_def] at hi
      split at hi <;> omega
  refine ⟨?_, by omega⟩
  show ((1952 : Int32) + y).toInt.toNat = _
  rw [es]
  omega
set_option maxHeartbeats 4000000 in
set_option maxRecDepth 20000 in
theorem fr_line {mod_code : Int32} {court_shoeCount : Int32} {mod_claims : Int32} {ts : Int32} {court_suitCount : Int32} {mod_doneMany : Int32} {mod_undoneMany : Int32} {mod_isBoth : Int32} {mod_wished : Int32} {mod_bestMany : Int32} {mod_bestRow : Int32} {mod_ringDigits : Int32} {mod_traces : Int32} {tm : Nat → Int32} {he g o l : Int32} {ac wi lm te le : Nat → Int32} {S : Int32 × Int32 × Int32 × Int32 × (Nat → Int32) × (Nat → Int32) × (Nat → Int32) × (Nat → Int32) × (Nat → Int32)} (hl : 0 ≤ l.toInt) (hm : 0 ≤ (lm 32).toInt) (h : f_X12_line mod_code court_shoeCount mod_claims ts he g court_suitCount mod_doneMany mod_undoneMany o l mod_isBoth mod_wished mod_bestMany mod_bestRow mod_ringDigits mod_traces tm ac wi lm te le = some S) : 0 ≤ S.2.2.2.1.toInt ∧ 0 ≤ (S.2.2.2.2.2.2.1 32).toInt ∧ FRB ac wi lm te le S.2.2.2.2.1 S.2.2.2.2.2.1 S.2.2.2.2.2.2.1 S.2.2.2.2.2.2.2.1 S.2.2.2.2.2.2.2.2 := by
  have e32 : (32 : Int32).toNatClampNeg = 32 := by decide
  have fr := (fr_grp (mod_code := mod_code) (court_shoeCount := court_shoeCount) (mod_claims := mod_claims) (ts := ts) (court_suitCount := court_suitCount) (mod_doneMany := mod_doneMany) (mod_undoneMany := mod_undoneMany) (mod_isBoth := mod_isBoth) (mod_wished := mod_wished) (mod_bestMany := mod_bestMany) (mod_bestRow := mod_bestRow) (mod_ringDigits := mod_ringDigits) (mod_traces := mod_traces) (tm := tm) 60).2.2.1
  unfold f_X12_line B_X12_line_0 at h
  rw [e32] at h
  replace h := zk_lt h
  obtain ⟨v1, rfl, h⟩ := h
  replace h := zk_lt h
  obtain ⟨v2, rfl, h⟩ := h
  replace h := zk_gd h
  obtain ⟨hg, h⟩ := h
  replace h := zk_lt h
  obtain ⟨t4, e4, h⟩ := h
  replace h := zk_o6 h
  obtain ⟨y5, y6, y7, y8, y9, y10, b1, h⟩ := h
  obtain ⟨ei, hm2⟩ := ix1952 hm hg
  have f1 := fr _ _ _ _ _ _ _ _ _ _ _ _ hl b1
  have es := i32_s (a := lm 32) (by omega)
  have fin : ∀ {q1 q2 q3 q4 : Int32} {q5 q6 t : Nat → Int32}, FR6 ac wi q4 q5 q6 → (∀ i, i < 1952 → t i = te i) → S = (q1, q2, q3, q4, q5, q6, upd lm 32 (lm 32 + 1), t, upd le ((1952 : Int32) + lm 32).toNatClampNeg (vp_nar .short q4.toInt16.toInt32)) → 0 ≤ S.2.2.2.1.toInt ∧ 0 ≤ (S.2.2.2.2.2.2.1 32).toInt ∧ FRB ac wi lm te le S.2.2.2.2.1 S.2.2.2.2.2.1 S.2.2.2.2.2.2.1 S.2.2.2.2.2.2.2.1 S.2.2.2.2.2.2.2.2 := by
    intro q1 q2 q3 q4 q5 q6 t hf ht e
    rw [e]
    refine ⟨hf.1, ?_, hf.2, fun i hi => ⟨ht i hi, ?_⟩, fun q hq => ?_⟩
    · show 0 ≤ (upd lm 32 (lm 32 + 1) 32).toInt
      rw [upd_at rfl, es]
      omega
    · show upd le ((1952 : Int32) + lm 32).toNatClampNeg (vp_nar .short q4.toInt16.toInt32) i = le i
      exact upd_n (by omega)
    · show upd lm 32 (lm 32 + 1) q = lm q
      exact upd_n (by omega)
  have t4e : ∀ i, i < 1952 → t4 i = te i := fun i hi => by rw [e4]; exact upd_n (by omega)
  by_cases c0 : 0 ≤ y6
  · exact fin f1 t4e (m5_l68 (zk_t c0 h))
  · replace h := zk_f c0 h
    replace h := zk_o2 h
    obtain ⟨r13, w14, c1, h⟩ := h
    by_cases c2 : r13 = 63
    · replace h := zk_t c2 h
      replace h := zk_lt h
      obtain ⟨v17, rfl, h⟩ := h
      replace h := zk_lt h
      obtain ⟨v18, rfl, h⟩ := h
      replace h := zk_gd h
      obtain ⟨_, h⟩ := h
      replace h := zk_lt h
      obtain ⟨f20, e20, h⟩ := h
      replace h := zk_o6 h
      obtain ⟨z5, z6, z7, z8, z9, z10, b2, h⟩ := h
      have f2 := fr _ _ _ _ _ _ _ _ _ _ _ _ f1.1 b2
      exact fin (F6_tr f1 f2) (fun i hi => by rw [e20, upd_n (by omega)]; exact t4e i hi) (m5_l68 h)
    · exact fin f1 t4e (m5_l68 (zk_f c2 h))
set_option maxHeartbeats 4000000 in
set_option maxRecDepth 20000 in
theorem c1_219 {mod_code : Int32} {court_shoeCount : Int32} {mod_claims : Int32} {court_suitCount : Int32} {mod_doneMany : Int32} {mod_undoneMany : Int32} {mod_isBoth : Int32} {mod_wished : Int32} {mod_bestMany : Int32} {mod_bestRow : Int32} {mod_ringDigits : Int32} {mod_traces : Int32} {tm : Nat → Int32}  : ∀ (n : Nat) (x2 x3 ts he g o l : Int32) (ac wi lm te le : Nat → Int32) (S : Int32 × Int32 × Int32 × Int32 × Int32 × Int32 × (Nat → Int32) × (Nat → Int32) × (Nat → Int32) × (Nat → Int32) × (Nat → Int32)), (G_X12_law mod_code court_shoeCount mod_claims court_suitCount mod_doneMany mod_undoneMany mod_isBoth mod_wished mod_bestMany mod_bestRow mod_ringDigits mod_traces tm n).2.2 x2 x3 ts he g o l ac wi lm te le = some S → S.1 = 1 := by
  intro n
  induction n with
  | zero =>
    intro x2 x3 ts he g o l ac wi lm te le S h
    cases h
  | succ n ih =>
    intro x2 x3 ts he g o l ac wi lm te le S h
    replace h : B_X12_law_219 (G_X12_law mod_code court_shoeCount mod_claims court_suitCount mod_doneMany mod_undoneMany mod_isBoth mod_wished mod_bestMany mod_bestRow mod_ringDigits mod_traces tm n).1 (G_X12_law mod_code court_shoeCount mod_claims court_suitCount mod_doneMany mod_undoneMany mod_isBoth mod_wished mod_bestMany mod_bestRow mod_ringDigits mod_traces tm n).2.1 (G_X12_law mod_code court_shoeCount mod_claims court_suitCount mod_doneMany mod_undoneMany mod_isBoth mod_wished mod_bestMany mod_bestRow mod_ringDigits mod_traces tm n).2.2 mod_code court_shoeCount mod_claims court_suitCount mod_doneMany mod_undoneMany mod_isBoth mod_wished mod_bestMany mod_bestRow mod_ringDigits mod_traces tm x2 x3 ts he g o l ac wi lm te le = some S := h
    unfold B_X12_law_219 at h
    replace h := zk_gd h
    obtain ⟨_, h⟩ := h
    by_cases cc1 : (lm x2.toNatClampNeg) ≤ x3
    · replace h := zk_t cc1 h
      have cc1n := cc1
      (try simp only [i32_lt, i32_le, i32_e, z32_0, z32_1] at cc1n)
      rw [← Option.some.inj h]
    · replace h := zk_f cc1 h
      have cc1n := cc1
      (try simp only [i32_lt, i32_le, i32_e, z32_0, z32_1] at cc1n)
      replace h := zk_gd h
      obtain ⟨_, h⟩ := h
      replace h := zk_lt h
      obtain ⟨cv2, ce3, h⟩ := h
      subst ce3
      replace h := zk_gd h
      obtain ⟨_, h⟩ := h
      replace h := zk_lt h
      obtain ⟨cv4, ce5, h⟩ := h
      subst ce5
      replace h := zk_gd h
      obtain ⟨_, h⟩ := h
      replace h := zk_lt h
      obtain ⟨cv6, ce7, h⟩ := h
      subst ce7
      replace h := zk_gd h
      obtain ⟨_, h⟩ := h
      replace h := zk_lt h
      obtain ⟨cv8, ce9, h⟩ := h
      subst ce9
      replace h := zk_lt h
      obtain ⟨cv10, ce11, h⟩ := h
      subst ce11
      exact ih _ _ _ _ _ _ _ _ _ _ _ _ _ h
