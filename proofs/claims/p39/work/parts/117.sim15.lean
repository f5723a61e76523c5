
set_option maxHeartbeats 4000000 in
set_option maxRecDepth 20000 in
theorem of_f  {r : Int32 → Int32 → Int32 → Int32 → Int32 → Int32 → Int32 → Int32 → Int32 → Int32 → Int32 → Int32 → Int32 → Int32 → Int32 → Int32 → Int32 → Int32 → Int32 → Int32 → Int32 → Int32 → Int32 → (Nat → Int32) → (Nat → Int32) → (Nat → Int32) → (Nat → Int32) → (Nat → Int32) → (Nat → Int32) → (Nat → Int32) → (Nat → Int32) → (Nat → Int32) → (Nat → Int32) → (Nat → Int32) → (Nat → Int32) → (Nat → Int32) → (Nat → Int32) → (Nat → Int32) → (Nat → Int32) → (Nat → Int32) → (Nat → Int32) → (Nat → Int32) → (Nat → Int32) → (Nat → Int32) → (Nat → Int32) → (Nat → Int32) → (Nat → Int32) → (Nat → Int32) → (Nat → Int32) → (Nat → Int32) → (Nat → Int32) → (Nat → Int32) → (Option (Int32 × Int32 × (Nat → Int32) × (Nat → Int32) × (Nat → Int32) × (Nat → Int32) × (Nat → Int32) × (Nat → Int32) × (Nat → Int32) × (Nat → Int32) × (Nat → Int32) × (Nat → Int32) × (Nat → Int32) × (Nat → Int32) × (Nat → Int32) × (Nat → Int32)))} {N : Nat} (hr : ∀ (x1 : Int32) (x2 : Int32) (x3 : Int32) (x4 : Int32) (x5 : Int32) (x6 : Int32) (mod_code : Int32) (court_shoeCount : Int32) (mod_claims : Int32) (ts : Int32) (at_ : Int32) (f : Int32) (court_suitCount : Int32) (mod_doneMany : Int32) (mod_undoneMany : Int32) (mod_open : Int32) (mod_laid : Int32) (mod_isBoth : Int32) (mod_wished : Int32) (mod_bestMany : Int32) (mod_bestRow : Int32) (mod_ringDigits : Int32) (mod_traces : Int32) (mod_wearer : Nat → Int32) (mod_wornFor : Nat → Int32) (mod_shoeSort : Nat → Int32) (mod_shoeDay : Nat → Int32) (mod_claimBy : Nat → Int32) (mod_claimOn : Nat → Int32) (mod_factOf : Nat → Int32) (mod_pleaOf : Nat → Int32) (mod_suedBy : Nat → Int32) (mod_suedOn : Nat → Int32) (mod_endKind : Nat → Int32) (mod_isWon : Nat → Int32) (mod_suitDay : Nat → Int32) (mod_suitLand : Nat → Int32) (mod_undoneFrom : Nat → Int32) (mod_askedMany : Nat → Int32) (mod_firstMany : Nat → Int32) (mod_asked : Nat → Int32) (mod_act : Nat → Int32) (mod_with : Nat → Int32) (mod_lineMany : Nat → Int32) (mod_testEnd : Nat → Int32) (mod_lineEnd : Nat → Int32) (mod_facts : Nat → Int32) (mod_pile : Nat → Int32) (mod_doesBind : Nat → Int32) (mod_boundAs : Nat → Int32) (mod_wishClaim : Nat → Int32) (mod_wishWon : Nat → Int32) (R : Int32 × Int32 × (Nat → Int32) × (Nat → Int32) × (Nat → Int32) × (Nat → Int32) × (Nat → Int32) × (Nat → Int32) × (Nat → Int32) × (Nat → Int32) × (Nat → Int32) × (Nat → Int32) × (Nat → Int32) × (Nat → Int32) × (Nat → Int32) × (Nat → Int32)), 0 ≤ x4.toInt → x4.toInt ≤ 100 → r x1 x2 x3 x4 x5 x6 mod_code court_shoeCount mod_claims ts at_ f court_suitCount mod_doneMany mod_undoneMany mod_open mod_laid mod_isBoth mod_wished mod_bestMany mod_bestRow mod_ringDigits mod_traces mod_wearer mod_wornFor mod_shoeSort mod_shoeDay mod_claimBy mod_claimOn mod_factOf mod_pleaOf mod_suedBy mod_suedOn mod_endKind mod_isWon mod_suitDay mod_suitLand mod_undoneFrom mod_askedMany mod_firstMany mod_asked mod_act mod_with mod_lineMany mod_testEnd mod_lineEnd mod_facts mod_pile mod_doesBind mod_boundAs mod_wishClaim mod_wishWon = some R → OF mod_suedBy mod_suedOn mod_endKind mod_isWon mod_suitDay mod_suitLand mod_undoneFrom mod_askedMany mod_firstMany mod_asked R.2.2.1 R.2.2.2.1 R.2.2.2.2.1 R.2.2.2.2.2.1 R.2.2.2.2.2.2.1 R.2.2.2.2.2.2.2.1 R.2.2.2.2.2.2.2.2.1 R.2.2.2.2.2.2.2.2.2.1 R.2.2.2.2.2.2.2.2.2.2.1 R.2.2.2.2.2.2.2.2.2.2.2.1) : ∀ (x1 : Int32) (x2 : Int32) (x3 : Int32) (x4 : Int32) (x5 : Int32) (x6 : Int32) (mod_code : Int32) (court_shoeCount : Int32) (mod_claims : Int32) (ts : Int32) (at_ : Int32) (f : Int32) (court_suitCount : Int32) (mod_doneMany : Int32) (mod_undoneMany : Int32) (mod_open : Int32) (mod_laid : Int32) (mod_isBoth : Int32) (mod_wished : Int32) (mod_bestMany : Int32) (mod_bestRow : Int32) (mod_ringDigits : Int32) (mod_traces : Int32) (mod_wearer : Nat → Int32) (mod_wornFor : Nat → Int32) (mod_shoeSort : Nat → Int32) (mod_shoeDay : Nat → Int32) (mod_claimBy : Nat → Int32) (mod_claimOn : Nat → Int32) (mod_factOf : Nat → Int32) (mod_pleaOf : Nat → Int32) (mod_suedBy : Nat → Int32) (mod_suedOn : Nat → Int32) (mod_endKind : Nat → Int32) (mod_isWon : Nat → Int32) (mod_suitDay : Nat → Int32) (mod_suitLand : Nat → Int32) (mod_undoneFrom : Nat → Int32) (mod_askedMany : Nat → Int32) (mod_firstMany : Nat → Int32) (mod_asked : Nat → Int32) (mod_act : Nat → Int32) (mod_with : Nat → Int32) (mod_lineMany : Nat → Int32) (mod_testEnd : Nat → Int32) (mod_lineEnd : Nat → Int32) (mod_facts : Nat → Int32) (mod_pile : Nat → Int32) (mod_doesBind : Nat → Int32) (mod_boundAs : Nat → Int32) (mod_wishClaim : Nat → Int32) (mod_wishWon : Nat → Int32) (R : Int32 × Int32 × (Nat → Int32) × (Nat → Int32) × (Nat → Int32) × (Nat → Int32) × (Nat → Int32) × (Nat → Int32) × (Nat → Int32) × (Nat → Int32) × (Nat → Int32) × (Nat → Int32) × (Nat → Int32) × (Nat → Int32) × (Nat → Int32) × (Nat → Int32)), 0 ≤ x4.toInt → x4.toInt ≤ 100 → f_X12_orders r N x1 x2 x3 x4 x5 x6 mod_code court_shoeCount mod_claims ts at_ f court_suitCount mod_doneMany mod_undoneMany mod_open mod_laid mod_isBoth mod_wished mod_bestMany mod_bestRow mod_ringDigits mod_traces mod_wearer mod_wornFor mod_shoeSort mod_shoeDay mod_claimBy mod_claimOn mod_factOf mod_pleaOf mod_suedBy mod_suedOn mod_endKind mod_isWon mod_suitDay mod_suitLand mod_undoneFrom mod_askedMany mod_firstMany mod_asked mod_act mod_with mod_lineMany mod_testEnd mod_lineEnd mod_facts mod_pile mod_doesBind mod_boundAs mod_wishClaim mod_wishWon = some R → OF mod_suedBy mod_suedOn mod_endKind mod_isWon mod_suitDay mod_suitLand mod_undoneFrom mod_askedMany mod_firstMany mod_asked R.2.2.1 R.2.2.2.1 R.2.2.2.2.1 R.2.2.2.2.2.1 R.2.2.2.2.2.2.1 R.2.2.2.2.2.2.2.1 R.2.2.2.2.2.2.2.2.1 R.2.2.2.2.2.2.2.2.2.1 R.2.2.2.2.2.2.2.2.2.2.1 R.2.2.2.2.2.2.2.2.2.2.2.1 := by
  intro x1 x2 x3 x4 x5 x6 mod_code court_shoeCount mod_claims ts at_ f court_suitCount mod_doneMany mod_undoneMany mod_open mod_laid mod_isBoth mod_wished mod_bestMany mod_bestRow mod_ringDigits mod_traces mod_wearer mod_wornFor mod_shoeSort mod_shoeDay mod_claimBy mod_claimOn mod_factOf mod_pleaOf mod_suedBy mod_suedOn mod_endKind mod_isWon mod_suitDay mod_suitLand mod_undoneFrom mod_askedMany mod_firstMany mod_asked mod_act mod_with mod_lineMany mod_testEnd mod_lineEnd mod_facts mod_pile mod_doesBind mod_boundAs mod_wishClaim mod_wishWon R h0 h1 h
  unfold f_X12_orders at h
  unfold B_X12_orders_0 at h
  by_cases cc1 : x1 = mod_wished
  · replace h := zk_t cc1 h
    have cc1n := cc1
    (try simp only [i32_lt, i32_le, i32_e, z32_0, z32_1] at cc1n)
    by_cases cc2 : mod_bestMany < x4
    · replace h := zk_t cc2 h
      have cc2n := cc2
      (try simp only [i32_lt, i32_le, i32_e, z32_0, z32_1] at cc2n)
      unfold B_X12_orders_25 at h
      replace h := Option.some.inj h
      subst h
      exact OF_rf
    · replace h := zk_f cc2 h
      have cc2n := cc2
      (try simp only [i32_lt, i32_le, i32_e, z32_0, z32_1] at cc2n)
      by_cases cc3 : mod_bestRow ≤ 0
      · replace h := zk_t cc3 h
        have cc3n := cc3
        (try simp only [i32_lt, i32_le, i32_e, z32_0, z32_1] at cc3n)
        unfold B_X12_orders_25 at h
        replace h := Option.some.inj h
        subst h
        exact OF_rf
      · replace h := zk_f cc3 h
        have cc3n := cc3
        (try simp only [i32_lt, i32_le, i32_e, z32_0, z32_1] at cc3n)
        replace h := Option.some.inj h
        subst h
        exact OF_rf
  · replace h := zk_f cc1 h
    have cc1n := cc1
    (try simp only [i32_lt, i32_le, i32_e, z32_0, z32_1] at cc1n)
    exact of_loop hr _ _ _ _ _ _ _ _ _ _ _ _ _ _ _ _ _ _ _ _ _ _ _ _ R h0 h1 h
set_option maxHeartbeats 4000000 in
set_option maxRecDepth 20000 in
theorem of_grp   : ∀ n : Nat, ∀ (x1 : Int32) (x2 : Int32) (x3 : Int32) (x4 : Int32) (x5 : Int32) (x6 : Int32) (mod_code : Int32) (court_shoeCount : Int32) (mod_claims : Int32) (ts : Int32) (at_ : Int32) (f : Int32) (court_suitCount : Int32) (mod_doneMany : Int32) (mod_undoneMany : Int32) (mod_open : Int32) (mod_laid : Int32) (mod_isBoth : Int32) (mod_wished : Int32) (mod_bestMany : Int32) (mod_bestRow : Int32) (mod_ringDigits : Int32) (mod_traces : Int32) (mod_wearer : Nat → Int32) (mod_wornFor : Nat → Int32) (mod_shoeSort : Nat → Int32) (mod_shoeDay : Nat → Int32) (mod_claimBy : Nat → Int32) (mod_claimOn : Nat → Int32) (mod_factOf : Nat → Int32) (mod_pleaOf : Nat → Int32) (mod_suedBy : Nat → Int32) (mod_suedOn : Nat → Int32) (mod_endKind : Nat → Int32) (mod_isWon : Nat → Int32) (mod_suitDay : Nat → Int32) (mod_suitLand : Nat → Int32) (mod_undoneFrom : Nat → Int32) (mod_askedMany : Nat → Int32) (mod_firstMany : Nat → Int32) (mod_asked : Nat → Int32) (mod_act : Nat → Int32) (mod_with : Nat → Int32) (mod_lineMany : Nat → Int32) (mod_testEnd : Nat → Int32) (mod_lineEnd : Nat → Int32) (mod_facts : Nat → Int32) (mod_pile : Nat → Int32) (mod_doesBind : Nat → Int32) (mod_boundAs : Nat → Int32) (mod_wishClaim : Nat → Int32) (mod_wishWon : Nat → Int32) (R : Int32 × Int32 × (Nat → Int32) × (Nat → Int32) × (Nat → Int32) × (Nat → Int32) × (Nat → Int32) × (Nat → Int32) × (Nat → Int32) × (Nat → Int32) × (Nat → Int32) × (Nat → Int32) × (Nat → Int32) × (Nat → Int32) × (Nat → Int32) × (Nat → Int32)), 0 ≤ x4.toInt → x4.toInt ≤ 100 → (grp_grp78 n) x1 x2 x3 x4 x5 x6 mod_code court_shoeCount mod_claims ts at_ f court_suitCount mod_doneMany mod_undoneMany mod_open mod_laid mod_isBoth mod_wished mod_bestMany mod_bestRow mod_ringDigits mod_traces mod_wearer mod_wornFor mod_shoeSort mod_shoeDay mod_claimBy mod_claimOn mod_factOf mod_pleaOf mod_suedBy mod_suedOn mod_endKind mod_isWon mod_suitDay mod_suitLand mod_undoneFrom mod_askedMany mod_firstMany mod_asked mod_act mod_with mod_lineMany mod_testEnd mod_lineEnd mod_facts mod_pile mod_doesBind mod_boundAs mod_wishClaim mod_wishWon = some R → OF mod_suedBy mod_suedOn mod_endKind mod_isWon mod_suitDay mod_suitLand mod_undoneFrom mod_askedMany mod_firstMany mod_asked R.2.2.1 R.2.2.2.1 R.2.2.2.2.1 R.2.2.2.2.2.1 R.2.2.2.2.2.2.1 R.2.2.2.2.2.2.2.1 R.2.2.2.2.2.2.2.2.1 R.2.2.2.2.2.2.2.2.2.1 R.2.2.2.2.2.2.2.2.2.2.1 R.2.2.2.2.2.2.2.2.2.2.2.1 := by
  intro n
  induction n with
  | zero =>
    intro x1 x2 x3 x4 x5 x6 mod_code court_shoeCount mod_claims ts at_ f court_suitCount mod_doneMany mod_undoneMany mod_open mod_laid mod_isBoth mod_wished mod_bestMany mod_bestRow mod_ringDigits mod_traces mod_wearer mod_wornFor mod_shoeSort mod_shoeDay mod_claimBy mod_claimOn mod_factOf mod_pleaOf mod_suedBy mod_suedOn mod_endKind mod_isWon mod_suitDay mod_suitLand mod_undoneFrom mod_askedMany mod_firstMany mod_asked mod_act mod_with mod_lineMany mod_testEnd mod_lineEnd mod_facts mod_pile mod_doesBind mod_boundAs mod_wishClaim mod_wishWon R h0 h1 h
    cases h
  | succ n ih =>
    intro x1 x2 x3 x4 x5 x6 mod_code court_shoeCount mod_claims ts at_ f court_suitCount mod_doneMany mod_undoneMany mod_open mod_laid mod_isBoth mod_wished mod_bestMany mod_bestRow mod_ringDigits mod_traces mod_wearer mod_wornFor mod_shoeSort mod_shoeDay mod_claimBy mod_claimOn mod_factOf mod_pleaOf mod_suedBy mod_suedOn mod_endKind mod_isWon mod_suitDay mod_suitLand mod_undoneFrom mod_askedMany mod_firstMany mod_asked mod_act mod_with mod_lineMany mod_testEnd mod_lineEnd mod_facts mod_pile mod_doesBind mod_boundAs mod_wishClaim mod_wishWon R h0 h1 h
    replace h : f_X12_orders (grp_grp78 n) 100000 x1 x2 x3 x4 x5 x6 mod_code court_shoeCount mod_claims ts at_ f court_suitCount mod_doneMany mod_undoneMany mod_open mod_laid mod_isBoth mod_wished mod_bestMany mod_bestRow mod_ringDigits mod_traces mod_wearer mod_wornFor mod_shoeSort mod_shoeDay mod_claimBy mod_claimOn mod_factOf mod_pleaOf mod_suedBy mod_suedOn mod_endKind mod_isWon mod_suitDay mod_suitLand mod_undoneFrom mod_askedMany mod_firstMany mod_asked mod_act mod_with mod_lineMany mod_testEnd mod_lineEnd mod_facts mod_pile mod_doesBind mod_boundAs mod_wishClaim mod_wishWon = some R := h
    exact of_f ih _ _ _ _ _ _ _ _ _ _ _ _ _ _ _ _ _ _ _ _ _ _ _ _ _ _ _ _ _ _ _ _ _ _ _ _ _ _ _ _ _ _ _ _ _ _ _ _ _ _ _ _ R h0 h1 h
set_option maxHeartbeats 4000000 in
set_option maxRecDepth 20000 in
theorem of_order {mod_code : Int32} {court_shoeCount : Int32} {mod_claims : Int32} {ts : Int32} {at_ : Int32} {f : Int32} {court_suitCount : Int32} {mod_doneMany : Int32} {mod_undoneMany : Int32} {mod_open : Int32} {mod_laid : Int32} {mod_isBoth : Int32} {mod_wished : Int32} {mod_bestMany : Int32} {mod_bestRow : Int32} {mod_ringDigits : Int32} {mod_traces : Int32} {mod_wearer : Nat → Int32} {mod_wornFor : Nat → Int32} {mod_shoeSort : Nat → Int32} {mod_shoeDay : Nat → Int32} {mod_claimBy : Nat → Int32} {mod_claimOn : Nat → Int32} {mod_factOf : Nat → Int32} {mod_pleaOf : Nat → Int32} {mod_askedMany : Nat → Int32} {mod_asked : Nat → Int32} {mod_endKind : Nat → Int32} {mod_isWon : Nat → Int32} {mod_firstMany : Nat → Int32} {mod_suedBy : Nat → Int32} {mod_suedOn : Nat → Int32} {mod_suitDay : Nat → Int32} {mod_suitLand : Nat → Int32} {mod_undoneFrom : Nat → Int32} {mod_act : Nat → Int32} {mod_with : Nat → Int32} {mod_lineMany : Nat → Int32} {mod_testEnd : Nat → Int32} {mod_lineEnd : Nat → Int32} {mod_facts : Nat → Int32} {mod_pile : Nat → Int32} {mod_doesBind : Nat → Int32} {mod_boundAs : Nat → Int32} {mod_wishClaim : Nat → Int32} {mod_wishWon : Nat → Int32} {x1 x2 : Int32} {R : Int32 × Int32 × Int32 × (Nat → Int32) × (Nat → Int32) × (Nat → Int32) × (Nat → Int32) × (Nat → Int32) × (Nat → Int32) × (Nat → Int32) × (Nat → Int32) × (Nat → Int32) × (Nat → Int32) × (Nat → Int32) × (Nat → Int32) × (Nat → Int32) × (Nat → Int32)} (h : f_X12_order x1 x2 mod_code court_shoeCount mod_claims ts at_ f court_suitCount mod_doneMany mod_undoneMany mod_open mod_laid mod_isBoth mod_wished mod_bestMany mod_bestRow mod_ringDigits mod_traces mod_wearer mod_wornFor mod_shoeSort mod_shoeDay mod_claimBy mod_claimOn mod_factOf mod_pleaOf mod_suedBy mod_suedOn mod_endKind mod_isWon mod_suitDay mod_suitLand mod_undoneFrom mod_askedMany mod_firstMany mod_asked mod_act mod_with mod_lineMany mod_testEnd mod_lineEnd mod_facts mod_pile mod_doesBind mod_boundAs mod_wishClaim mod_wishWon = some R) : OF mod_suedBy mod_suedOn mod_endKind mod_isWon mod_suitDay mod_suitLand mod_undoneFrom mod_askedMany mod_firstMany mod_asked R.2.2.2.1 R.2.2.2.2.1 R.2.2.2.2.2.1 R.2.2.2.2.2.2.1 R.2.2.2.2.2.2.2.1 R.2.2.2.2.2.2.2.2.1 R.2.2.2.2.2.2.2.2.2.1 R.2.2.2.2.2.2.2.2.2.2.1 R.2.2.2.2.2.2.2.2.2.2.2.1 R.2.2.2.2.2.2.2.2.2.2.2.2.1 := by
  unfold f_X12_order at h
  unfold B_X12_order_0 at h
  replace h := zk_o2 h
  obtain ⟨cv1, cv2, ch3, h⟩ := h
  unfold f_X12_isWhen at ch3
  unfold B_X12_isWhen_0 at ch3
  by_cases cc4 : x1 < 0
  · have ch3 := zk_t cc4 ch3
    have cc4n := cc4
    (try simp only [i32_lt, i32_le, i32_e, z32_0, z32_1] at cc4n)
    simp only [Option.some.injEq, Prod.mk.injEq] at ch3
    obtain ⟨rfl, _⟩ := ch3
    replace h := zk_t rfl h
    replace h := Option.some.inj h
    subst h
    exact OF_rf
  · have ch3 := zk_f cc4 ch3
    have cc4n := cc4
    (try simp only [i32_lt, i32_le, i32_e, z32_0, z32_1] at cc4n)
    obtain ⟨cv5, cv6, ch7, ch3⟩ := zk_o2 ch3
    unfold f_X12_isDay at ch7
    unfold B_X12_isDay_0 at ch7
    obtain ⟨cv8, cv9, ch10, ch7⟩ := zk_o2 ch7
    unfold f_X12_in at ch10
    unfold B_X12_in_0 at ch10
    by_cases cc11 : (x1 / (10 : Int32)) < (0 : Int32)
    · have ch10 := zk_t cc11 ch10
      have cc11n := cc11
      (try simp only [i32_lt, i32_le, i32_e, z32_0, z32_1, z32L_10] at cc11n)
      simp only [Option.some.injEq, Prod.mk.injEq] at ch10
      obtain ⟨rfl, _⟩ := ch10
      obtain ⟨_, ch7⟩ := zk_gd ch7
      simp only [Option.some.injEq, Prod.mk.injEq] at ch7
      obtain ⟨rfl, _⟩ := ch7
      have ch3 := zk_t rfl ch3
      simp only [Option.some.injEq, Prod.mk.injEq] at ch3
      obtain ⟨rfl, _⟩ := ch3
      replace h := zk_t rfl h
      replace h := Option.some.inj h
      subst h
      exact OF_rf
    · have ch10 := zk_f cc11 ch10
      have cc11n := cc11
      (try simp only [i32_lt, i32_le, i32_e, z32_0, z32_1, z32L_10] at cc11n)
      by_cases cc12 : (9999 : Int32) < (x1 / (10 : Int32))
      · have ch10 := zk_t cc12 ch10
        have cc12n := cc12
        (try simp only [i32_lt, i32_le, i32_e, z32_0, z32_1, z32L_10, z32L_9999] at cc12n)
        simp only [Option.some.injEq, Prod.mk.injEq] at ch10
        obtain ⟨rfl, _⟩ := ch10
        obtain ⟨_, ch7⟩ := zk_gd ch7
        simp only [Option.some.injEq, Prod.mk.injEq] at ch7
        obtain ⟨rfl, _⟩ := ch7
        have ch3 := zk_t rfl ch3
        simp only [Option.some.injEq, Prod.mk.injEq] at ch3
        obtain ⟨rfl, _⟩ := ch3
        replace h := zk_t rfl h
        replace h := Option.some.inj h
        subst h
        exact OF_rf
      · have ch10 := zk_f cc12 ch10
        have cc12n := cc12
        (try simp only [i32_lt, i32_le, i32_e, z32_0, z32_1, z32L_10, z32L_9999] at cc12n)
        simp only [Option.some.injEq, Prod.mk.injEq] at ch10
        obtain ⟨rfl, _⟩ := ch10
        obtain ⟨_, ch7⟩ := zk_gd ch7
        simp only [Option.some.injEq, Prod.mk.injEq] at ch7
        obtain ⟨rfl, _⟩ := ch7
        have ch3 := zk_f (by decide) ch3
        obtain ⟨cv13, cv14, ch15, ch3⟩ := zk_o2 ch3
        unfold f_X12_isLand at ch15
        unfold B_X12_isLand_0 at ch15
        obtain ⟨cv16, cv17, ch18, ch15⟩ := zk_o2 ch15
        unfold f_X12_in at ch18
        unfold B_X12_in_0 at ch18
        by_cases cc19 : (x1 - x1 / (10 : Int32) * (10 : Int32)) < (0 : Int32)
        · have ch18 := zk_t cc19 ch18
          have cc19n := cc19
          (try simp only [i32_lt, i32_le, i32_e, z32_0, z32_1, z32L_10] at cc19n)
          simp only [Option.some.injEq, Prod.mk.injEq] at ch18
          obtain ⟨rfl, _⟩ := ch18
          obtain ⟨_, ch15⟩ := zk_gd ch15
          simp only [Option.some.injEq, Prod.mk.injEq] at ch15
          obtain ⟨rfl, _⟩ := ch15
          have ch3 := zk_t rfl ch3
          simp only [Option.some.injEq, Prod.mk.injEq] at ch3
          obtain ⟨rfl, _⟩ := ch3
          replace h := zk_t rfl h
          replace h := Option.some.inj h
          subst h
          exact OF_rf
        · have ch18 := zk_f cc19 ch18
          have cc19n := cc19
          (try simp only [i32_lt, i32_le, i32_e, z32_0, z32_1, z32L_10] at cc19n)
          by_cases cc20 : (7 : Int32) < (x1 - x1 / (10 : Int32) * (10 : Int32))
          · have ch18 := zk_t cc20 ch18
            have cc20n := cc20
            (try simp only [i32_lt, i32_le, i32_e, z32_0, z32_1, z32L_7, z32L_10] at cc20n)
            simp only [Option.some.injEq, Prod.mk.injEq] at ch18
            obtain ⟨rfl, _⟩ := ch18
            obtain ⟨_, ch15⟩ := zk_gd ch15
            simp only [Option.some.injEq, Prod.mk.injEq] at ch15
            obtain ⟨rfl, _⟩ := ch15
            have ch3 := zk_t rfl ch3
            simp only [Option.some.injEq, Prod.mk.injEq] at ch3
            obtain ⟨rfl, _⟩ := ch3
            replace h := zk_t rfl h
            replace h := Option.some.inj h
            subst h
            exact OF_rf
          · have ch18 := zk_f cc20 ch18
            have cc20n := cc20
            (try simp only [i32_lt, i32_le, i32_e, z32_0, z32_1, z32L_7, z32L_10] at cc20n)
            simp only [Option.some.injEq, Prod.mk.injEq] at ch18
            obtain ⟨rfl, _⟩ := ch18
            obtain ⟨_, ch15⟩ := zk_gd ch15
            simp only [Option.some.injEq, Prod.mk.injEq] at ch15
            obtain ⟨rfl, _⟩ := ch15
            have ch3 := zk_f (by decide) ch3
            simp only [Option.some.injEq, Prod.mk.injEq] at ch3
            obtain ⟨rfl, _⟩ := ch3
            replace h := zk_f (by decide) h
            replace h := zk_o2 h
            obtain ⟨cv21, cv22, ch23, h⟩ := h
            unfold f_X12_in at ch23
            unfold B_X12_in_0 at ch23
            by_cases cc24 : x2 < (0 : Int32)
            · have ch23 := zk_t cc24 ch23
              have cc24n := cc24
              (try simp only [i32_lt, i32_le, i32_e, z32_0, z32_1] at cc24n)
              simp only [Option.some.injEq, Prod.mk.injEq] at ch23
              obtain ⟨rfl, _⟩ := ch23
              replace h := zk_t rfl h
              replace h := Option.some.inj h
              subst h
              exact OF_rf
            · have ch23 := zk_f cc24 ch23
              have cc24n := cc24
              (try simp only [i32_lt, i32_le, i32_e, z32_0, z32_1] at cc24n)
              by_cases cc25 : (1 : Int32) < x2
              · have ch23 := zk_t cc25 ch23
                have cc25n := cc25
                (try simp only [i32_lt, i32_le, i32_e, z32_0, z32_1] at cc25n)
                simp only [Option.some.injEq, Prod.mk.injEq] at ch23
                obtain ⟨rfl, _⟩ := ch23
                replace h := zk_t rfl h
                replace h := Option.some.inj h
                subst h
                exact OF_rf
              · have ch23 := zk_f cc25 ch23
                have cc25n := cc25
                (try simp only [i32_lt, i32_le, i32_e, z32_0, z32_1] at cc25n)
                simp only [Option.some.injEq, Prod.mk.injEq] at ch23
                obtain ⟨rfl, _⟩ := ch23
                replace h := zk_f (by decide) h
                by_cases cc26 : mod_wished = 0
                · replace h := zk_t cc26 h
                  have cc26n := cc26
                  (try simp only [i32_lt, i32_le, i32_e, z32_0, z32_1] at cc26n)
                  replace h := Option.some.inj h
                  subst h
                  exact OF_rf
                · replace h := zk_f cc26 h
                  have cc26n := cc26
                  (try simp only [i32_lt, i32_le, i32_e, z32_0, z32_1] at cc26n)
                  replace h := zk_o16 h
                  obtain ⟨cv27, cv28, cv29, cv30, cv31, cv32, cv33, cv34, cv35, cv36, cv37, cv38, cv39, cv40, cv41, cv42, ch43, h⟩ := h
                  obtain ck44 := of_grp _ _ _ _ _ _ _ _ _ _ _ _ _ _ _ _ _ _ _ _ _ _ _ _ _ _ _ _ _ _ _ _ _ _ _ _ _ _ _ _ _ _ _ _ _ _ _ _ _ _ _ _ _ _ (by decide) (by decide) ch43
                  by_cases cc45 : x2 = 0
                  · replace h := zk_t cc45 h
                    have cc45n := cc45
                    (try simp only [i32_lt, i32_le, i32_e, z32_0, z32_1] at cc45n)
                    replace h := Option.some.inj h
                    subst h
                    exact ck44
                  · replace h := zk_f cc45 h
                    have cc45n := cc45
                    (try simp only [i32_lt, i32_le, i32_e, z32_0, z32_1] at cc45n)
                    replace h := Option.some.inj h
                    subst h
                    exact ck44
set_option maxHeartbeats 4000000 in
set_option maxRecDepth 20000 in
theorem pw_ofShoe {mod_code : Int32} {court_shoeCount : Int32} {mod_claims : Int32} {ts : Int32} {at_ : Int32} {f : Int32} {court_suitCount : Int32} {mod_doneMany : Int32} {mod_undoneMany : Int32} {mod_open : Int32} {mod_laid : Int32} {mod_isBoth : Int32} {mod_wished : Int32} {mod_bestMany : Int32} {mod_bestRow : Int32} {mod_ringDigits : Int32} {mod_traces : Int32} {court_claimCount : Int32} {court_shoePerson : Nat → Int32} {court_shoeOther : Nat → Int32} {court_shoeSort : Nat → Int32} {court_shoeDay : Nat → Int32} {x1 x2 : Int32} (hc : 0 ≤ court_shoeCount.toInt ∧ court_shoeCount.toInt ≤ 40) {R : Int32 × Unit} {Q : Int32 × Unit} (h : f_X11_ofShoe x1 x2 court_shoeCount court_claimCount court_suitCount court_shoePerson court_shoeOther court_shoeSort court_shoeDay = some R) (k : f_X12_ofShoe x1 x2 mod_code court_shoeCount mod_claims ts at_ f court_suitCount mod_doneMany mod_undoneMany mod_open mod_laid mod_isBoth mod_wished mod_bestMany mod_bestRow mod_ringDigits mod_traces court_shoePerson court_shoeOther court_shoeSort court_shoeDay = some Q) : R.1 = Q.1 := by
  have hc1 := i32_m1 (a := court_shoeCount) (by omega)
  unfold f_X11_ofShoe at h
  unfold f_X12_ofShoe at k
  unfold B_X11_ofShoe_0 at h
  replace h := zk_o2 h
  obtain ⟨cv1, cv2, ch3, h⟩ := h
  unfold f_X11_isShoeNumber at ch3
  unfold B_X11_isShoeNumber_0 at ch3
  by_cases cc4 : x1 < 0
  · have ch3 := zk_t cc4 ch3
    have cc4n := cc4
    (try simp only [i32_lt, i32_le, i32_e, z32_0, z32_1] at cc4n)
    first
    | (exfalso; omega)
    | simp only [Option.some.injEq, Prod.mk.injEq] at ch3
      obtain ⟨rfl, _⟩ := ch3
      replace h := zk_t rfl h
      unfold B_X12_ofShoe_0 at k
      replace k := zk_o2 k
      obtain ⟨mv1, mv2, mh3, k⟩ := k
      unfold f_X12_isShoe at mh3
      unfold B_X12_isShoe_0 at mh3
      obtain ⟨mv4, mv5, mh6, mh3⟩ := zk_o2 mh3
      unfold f_X12_in at mh6
      unfold B_X12_in_0 at mh6
      have mh6 := zk_t cc4 mh6
      simp only [Option.some.injEq, Prod.mk.injEq] at mh6
      obtain ⟨rfl, _⟩ := mh6
      obtain ⟨_, mh3⟩ := zk_gd mh3
      simp only [Option.some.injEq, Prod.mk.injEq] at mh3
      obtain ⟨rfl, _⟩ := mh3
      replace k := zk_t rfl k
      replace h := Option.some.inj h
      replace k := Option.some.inj k
      subst h
      subst k
      try dsimp only
      all_goals first
      | (exfalso; omega)
      | rfl
  · have ch3 := zk_f cc4 ch3
    have cc4n := cc4
    (try simp only [i32_lt, i32_le, i32_e, z32_0, z32_1] at cc4n)
    first
    | (exfalso; omega)
    | by_cases cc5 : court_shoeCount ≤ x1
      · have ch3 := zk_t cc5 ch3
        have cc5n := cc5
        (try simp only [i32_lt, i32_le, i32_e, z32_0, z32_1] at cc5n)
        first
        | (exfalso; omega)
        | simp only [Option.some.injEq, Prod.mk.injEq] at ch3
          obtain ⟨rfl, _⟩ := ch3
          replace h := zk_t rfl h
          unfold B_X12_ofShoe_0 at k
          replace k := zk_o2 k
          obtain ⟨mv7, mv8, mh9, k⟩ := k
          unfold f_X12_isShoe at mh9
          unfold B_X12_isShoe_0 at mh9
          obtain ⟨mv10, mv11, mh12, mh9⟩ := zk_o2 mh9
          unfold f_X12_in at mh12
          unfold B_X12_in_0 at mh12
          have mh12 := zk_f cc4 mh12
          have mh12 := zk_t (by (try simp only [i32_lt, i32_le, i32_e, z32_0, z32_1]); omega) mh12
          simp only [Option.some.injEq, Prod.mk.injEq] at mh12
          obtain ⟨rfl, _⟩ := mh12
          obtain ⟨_, mh9⟩ := zk_gd mh9
          simp only [Option.some.injEq, Prod.mk.injEq] at mh9
          obtain ⟨rfl, _⟩ := mh9
          replace k := zk_t rfl k
          replace h := Option.some.inj h
          replace k := Option.some.inj k
          subst h
          subst k
          try dsimp only
          all_goals first
          | (exfalso; omega)
          | rfl
      · have ch3 := zk_f cc5 ch3
        have cc5n := cc5
        (try simp only [i32_lt, i32_le, i32_e, z32_0, z32_1] at cc5n)
        first
        | (exfalso; omega)
        | simp only [Option.some.injEq, Prod.mk.injEq] at ch3
          obtain ⟨rfl, _⟩ := ch3
          replace h := zk_f (by decide) h
          by_cases cc6 : x2 = (0 : Int32)
          · replace h := zk_t cc6 h
            have cc6n := cc6
            (try simp only [i32_lt, i32_le, i32_e, z32_0, z32_1] at cc6n)
            first
            | (exfalso; omega)
            | obtain ⟨_, h⟩ := zk_gd h
              unfold B_X12_ofShoe_0 at k
              replace k := zk_o2 k
              obtain ⟨mv13, mv14, mh15, k⟩ := k
              unfold f_X12_isShoe at mh15
              unfold B_X12_isShoe_0 at mh15
              obtain ⟨mv16, mv17, mh18, mh15⟩ := zk_o2 mh15
              unfold f_X12_in at mh18
              unfold B_X12_in_0 at mh18
              have mh18 := zk_f cc4 mh18
              have mh18 := zk_f (by (try simp only [i32_lt, i32_le, i32_e, z32_0, z32_1]); omega) mh18
              simp only [Option.some.injEq, Prod.mk.injEq] at mh18
              obtain ⟨rfl, _⟩ := mh18
              obtain ⟨_, mh15⟩ := zk_gd mh15
              simp only [Option.some.injEq, Prod.mk.injEq] at mh15
              obtain ⟨rfl, _⟩ := mh15
              replace k := zk_f (by decide) k
              replace k := zk_t cc6 k
              replace k := zk_gd k
              obtain ⟨_, k⟩ := k
              replace h := Option.some.inj h
              replace k := Option.some.inj k
              subst h
              subst k
              try dsimp only
              all_goals first
              | (exfalso; omega)
              | rfl
          · replace h := zk_f cc6 h
            have cc6n := cc6
            (try simp only [i32_lt, i32_le, i32_e, z32_0, z32_1] at cc6n)
            first
            | (exfalso; omega)
            | by_cases cc7 : x2 = (1 : Int32)
              · replace h := zk_t cc7 h
                have cc7n := cc7
                (try simp only [i32_lt, i32_le, i32_e, z32_0, z32_1] at cc7n)
                first
                | (exfalso; omega)
                | obtain ⟨_, h⟩ := zk_gd h
                  unfold B_X12_ofShoe_0 at k
                  replace k := zk_o2 k
                  obtain ⟨mv19, mv20, mh21, k⟩ := k
                  unfold f_X12_isShoe at mh21
                  unfold B_X12_isShoe_0 at mh21
                  obtain ⟨mv22, mv23, mh24, mh21⟩ := zk_o2 mh21
                  unfold f_X12_in at mh24
                  unfold B_X12_in_0 at mh24
                  have mh24 := zk_f cc4 mh24
                  have mh24 := zk_f (by (try simp only [i32_lt, i32_le, i32_e, z32_0, z32_1]); omega) mh24
                  simp only [Option.some.injEq, Prod.mk.injEq] at mh24
                  obtain ⟨rfl, _⟩ := mh24
                  obtain ⟨_, mh21⟩ := zk_gd mh21
                  simp only [Option.some.injEq, Prod.mk.injEq] at mh21
                  obtain ⟨rfl, _⟩ := mh21
                  replace k := zk_f (by decide) k
                  replace k := zk_f cc6 k
                  replace k := zk_t cc7 k
                  replace k := zk_gd k
                  obtain ⟨_, k⟩ := k
                  replace h := Option.some.inj h
                  replace k := Option.some.inj k
                  subst h
                  subst k
                  try dsimp only
                  all_goals first
                  | (exfalso; omega)
                  | rfl
              · replace h := zk_f cc7 h
                have cc7n := cc7
                (try simp only [i32_lt, i32_le, i32_e, z32_0, z32_1] at cc7n)
                first
                | (exfalso; omega)
                | by_cases cc8 : x2 = (2 : Int32)
                  · replace h := zk_t cc8 h
                    have cc8n := cc8
                    (try simp only [i32_lt, i32_le, i32_e, z32_0, z32_1, z32L_2] at cc8n)
                    first
                    | (exfalso; omega)
                    | obtain ⟨_, h⟩ := zk_gd h
                      unfold B_X12_ofShoe_0 at k
                      replace k := zk_o2 k
                      obtain ⟨mv25, mv26, mh27, k⟩ := k
                      unfold f_X12_isShoe at mh27
                      unfold B_X12_isShoe_0 at mh27
                      obtain ⟨mv28, mv29, mh30, mh27⟩ := zk_o2 mh27
                      unfold f_X12_in at mh30
                      unfold B_X12_in_0 at mh30
                      have mh30 := zk_f cc4 mh30
                      have mh30 := zk_f (by (try simp only [i32_lt, i32_le, i32_e, z32_0, z32_1]); omega) mh30
                      simp only [Option.some.injEq, Prod.mk.injEq] at mh30
                      obtain ⟨rfl, _⟩ := mh30
                      obtain ⟨_, mh27⟩ := zk_gd mh27
                      simp only [Option.some.injEq, Prod.mk.injEq] at mh27
                      obtain ⟨rfl, _⟩ := mh27
                      replace k := zk_f (by decide) k
                      replace k := zk_f cc6 k
                      replace k := zk_f cc7 k
                      replace k := zk_t cc8 k
                      replace k := zk_gd k
                      obtain ⟨_, k⟩ := k
                      replace h := Option.some.inj h
                      replace k := Option.some.inj k
                      subst h
                      subst k
                      try dsimp only
                      all_goals first
                      | (exfalso; omega)
                      | rfl
                  · replace h := zk_f cc8 h
                    have cc8n := cc8
                    (try simp only [i32_lt, i32_le, i32_e, z32_0, z32_1, z32L_2] at cc8n)
                    first
                    | (exfalso; omega)
                    | by_cases cc9 : x2 = (3 : Int32)
                      · replace h := zk_t cc9 h
                        have cc9n := cc9
                        (try simp only [i32_lt, i32_le, i32_e, z32_0, z32_1, z32L_3] at cc9n)
                        first
                        | (exfalso; omega)
                        | obtain ⟨_, h⟩ := zk_gd h
                          unfold B_X12_ofShoe_0 at k
                          replace k := zk_o2 k
                          obtain ⟨mv31, mv32, mh33, k⟩ := k
                          unfold f_X12_isShoe at mh33
                          unfold B_X12_isShoe_0 at mh33
                          obtain ⟨mv34, mv35, mh36, mh33⟩ := zk_o2 mh33
                          unfold f_X12_in at mh36
                          unfold B_X12_in_0 at mh36
                          have mh36 := zk_f cc4 mh36
                          have mh36 := zk_f (by (try simp only [i32_lt, i32_le, i32_e, z32_0, z32_1]); omega) mh36
                          simp only [Option.some.injEq, Prod.mk.injEq] at mh36
                          obtain ⟨rfl, _⟩ := mh36
                          obtain ⟨_, mh33⟩ := zk_gd mh33
                          simp only [Option.some.injEq, Prod.mk.injEq] at mh33
                          obtain ⟨rfl, _⟩ := mh33
                          replace k := zk_f (by decide) k
                          replace k := zk_f cc6 k
                          replace k := zk_f cc7 k
                          replace k := zk_f cc8 k
                          replace k := zk_t cc9 k
                          replace k := zk_gd k
                          obtain ⟨_, k⟩ := k
                          replace h := Option.some.inj h
                          replace k := Option.some.inj k
                          subst h
                          subst k
                          try dsimp only
                          all_goals first
                          | (exfalso; omega)
                          | rfl
                      · replace h := zk_f cc9 h
                        have cc9n := cc9
                        (try simp only [i32_lt, i32_le, i32_e, z32_0, z32_1, z32L_3] at cc9n)
                        first
                        | (exfalso; omega)
                        | unfold B_X12_ofShoe_0 at k
                          replace k := zk_o2 k
                          obtain ⟨mv37, mv38, mh39, k⟩ := k
                          unfold f_X12_isShoe at mh39
                          unfold B_X12_isShoe_0 at mh39
                          obtain ⟨mv40, mv41, mh42, mh39⟩ := zk_o2 mh39
                          unfold f_X12_in at mh42
                          unfold B_X12_in_0 at mh42
                          have mh42 := zk_f cc4 mh42
                          have mh42 := zk_f (by (try simp only [i32_lt, i32_le, i32_e, z32_0, z32_1]); omega) mh42
                          simp only [Option.some.injEq, Prod.mk.injEq] at mh42
                          obtain ⟨rfl, _⟩ := mh42
                          obtain ⟨_, mh39⟩ := zk_gd mh39
                          simp only [Option.some.injEq, Prod.mk.injEq] at mh39
                          obtain ⟨rfl, _⟩ := mh39
                          replace k := zk_f (by decide) k
                          replace k := zk_f cc6 k
                          replace k := zk_f cc7 k
                          replace k := zk_f cc8 k
                          replace k := zk_f cc9 k
                          replace h := Option.some.inj h
                          replace k := Option.some.inj k
                          subst h
                          subst k
                          try dsimp only
                          all_goals first
                          | (exfalso; omega)
                          | rfl
set_option maxHeartbeats 4000000 in
set_option maxRecDepth 20000 in
theorem pw_trace {mod_code : Int32} {court_shoeCount : Int32} {mod_claims : Int32} {ts : Int32} {at_ : Int32} {f : Int32} {court_suitCount : Int32} {mod_doneMany : Int32} {mod_undoneMany : Int32} {mod_open : Int32} {mod_laid : Int32} {mod_isBoth : Int32} {mod_wished : Int32} {mod_bestMany : Int32} {mod_bestRow : Int32} {mod_ringDigits : Int32} {acts_ran : Int32} {acts_kind : Int32} {acts_number : Int32} {acts_claims : Int32} {acts_bodies : Nat → Int32} {x1 : Int32} {R : Int32 × Unit} {Q : Int32 × Unit} (h : f_X11_trace x1 acts_ran acts_kind acts_number acts_claims acts_bodies = some R) (k : f_X12_trace x1 mod_code court_shoeCount mod_claims ts at_ f court_suitCount mod_doneMany mod_undoneMany mod_open mod_laid mod_isBoth mod_wished mod_bestMany mod_bestRow mod_ringDigits acts_ran acts_bodies = some Q) : R.1 = Q.1 := by
  unfold f_X11_trace at h
  unfold f_X12_trace at k
  unfold B_X11_trace_0 at h
  by_cases cc1 : x1 < 0
  · replace h := zk_t cc1 h
    have cc1n := cc1
    (try simp only [i32_lt, i32_le, i32_e, z32_0, z32_1] at cc1n)
    first
    | (exfalso; omega)
    | unfold B_X12_trace_0 at k
      replace k := zk_t cc1 k
      replace h := Option.some.inj h
      replace k := Option.some.inj k
      subst h
      subst k
      try dsimp only
      all_goals first
      | (exfalso; omega)
      | rfl
  · replace h := zk_f cc1 h
    have cc1n := cc1
    (try simp only [i32_lt, i32_le, i32_e, z32_0, z32_1] at cc1n)
    first
    | (exfalso; omega)
    | by_cases cc2 : acts_ran ≤ x1
      · replace h := zk_t cc2 h
        have cc2n := cc2
        (try simp only [i32_lt, i32_le, i32_e, z32_0, z32_1] at cc2n)
        first
        | (exfalso; omega)
        | unfold B_X12_trace_0 at k
          replace k := zk_f cc1 k
          replace k := zk_t cc2 k
          replace h := Option.some.inj h
          replace k := Option.some.inj k
          subst h
          subst k
          try dsimp only
          all_goals first
          | (exfalso; omega)
          | rfl
      · replace h := zk_f cc2 h
        have cc2n := cc2
        (try simp only [i32_lt, i32_le, i32_e, z32_0, z32_1] at cc2n)
        first
        | (exfalso; omega)
        | by_cases cc3 : (24 : Int32) ≤ x1
          · replace h := zk_t cc3 h
            have cc3n := cc3
            (try simp only [i32_lt, i32_le, i32_e, z32_0, z32_1, z32L_24] at cc3n)
            first
            | (exfalso; omega)
            | unfold B_X12_trace_0 at k
              replace k := zk_f cc1 k
              replace k := zk_f cc2 k
              replace k := zk_t cc3 k
              replace h := Option.some.inj h
              replace k := Option.some.inj k
              subst h
              subst k
              try dsimp only
              all_goals first
              | (exfalso; omega)
              | rfl
          · replace h := zk_f cc3 h
            have cc3n := cc3
            (try simp only [i32_lt, i32_le, i32_e, z32_0, z32_1, z32L_24] at cc3n)
            first
            | (exfalso; omega)
            | obtain ⟨_, h⟩ := zk_gd h
              unfold B_X12_trace_0 at k
              replace k := zk_f cc1 k
              replace k := zk_f cc2 k
              replace k := zk_f cc3 k
              replace k := zk_gd k
              obtain ⟨_, k⟩ := k
              replace h := Option.some.inj h
              replace k := Option.some.inj k
              subst h
              subst k
              try dsimp only
              all_goals first
              | (exfalso; omega)
              | rfl
set_option maxHeartbeats 4000000 in
set_option maxRecDepth 20000 in
theorem pw_count {mod_code : Int32} {court_shoeCount : Int32} {ts : Int32} {at_ : Int32} {f : Int32} {court_suitCount : Int32} {mod_undoneMany : Int32} {mod_open : Int32} {mod_laid : Int32} {mod_isBoth : Int32} {mod_bestMany : Int32} {mod_bestRow : Int32} {mod_ringDigits : Int32} {court_claimCount : Int32} {acts_ran : Int32} {acts_kind : Int32} {acts_number : Int32} {acts_claims : Int32} {chg_done : Int32} {chg_size : Int32} {wishes_size : Int32} {wishes_best : Int32} {wishes_bestRow : Int32} {x1 : Int32} {R : Int32 × Unit} {Q : Int32 × Unit} (h : f_X11_count x1 court_shoeCount court_claimCount court_suitCount ts wishes_size wishes_best wishes_bestRow chg_done chg_size acts_ran acts_kind acts_number acts_claims = some R) (k : f_X12_count x1 mod_code court_shoeCount court_claimCount ts at_ f court_suitCount chg_done mod_undoneMany mod_open mod_laid mod_isBoth wishes_size mod_bestMany mod_bestRow mod_ringDigits acts_ran = some Q) : R.1 = Q.1 := by
  unfold f_X11_count at h
  unfold f_X12_count at k
  unfold B_X11_count_0 at h
  by_cases cc1 : x1 = (0 : Int32)
  · replace h := zk_t cc1 h
    have cc1n := cc1
    (try simp only [i32_lt, i32_le, i32_e, z32_0, z32_1] at cc1n)
    first
    | (exfalso; omega)
    | unfold B_X12_count_0 at k
      replace k := zk_t cc1 k
      replace h := Option.some.inj h
      replace k := Option.some.inj k
      subst h
      subst k
      try dsimp only
      all_goals first
      | (exfalso; omega)
      | rfl
  · replace h := zk_f cc1 h
    have cc1n := cc1
    (try simp only [i32_lt, i32_le, i32_e, z32_0, z32_1] at cc1n)
    first
    | (exfalso; omega)
    | by_cases cc2 : x1 = (1 : Int32)
      · replace h := zk_t cc2 h
        have cc2n := cc2
        (try simp only [i32_lt, i32_le, i32_e, z32_0, z32_1] at cc2n)
        first
        | (exfalso; omega)
        | unfold B_X12_count_0 at k
          replace k := zk_f cc1 k
          replace k := zk_t cc2 k
          replace h := Option.some.inj h
          replace k := Option.some.inj k
          subst h
          subst k
          try dsimp only
          all_goals first
          | (exfalso; omega)
          | rfl
      · replace h := zk_f cc2 h
        have cc2n := cc2
        (try simp only [i32_lt, i32_le, i32_e, z32_0, z32_1] at cc2n)
        first
        | (exfalso; omega)
        | by_cases cc3 : x1 = (2 : Int32)
          · replace h := zk_t cc3 h
            have cc3n := cc3
            (try simp only [i32_lt, i32_le, i32_e, z32_0, z32_1, z32L_2] at cc3n)
            first
            | (exfalso; omega)
            | unfold B_X12_count_0 at k
              replace k := zk_f cc1 k
              replace k := zk_f cc2 k
              replace k := zk_t cc3 k
              replace h := Option.some.inj h
              replace k := Option.some.inj k
              subst h
              subst k
              try dsimp only
              all_goals first
              | (exfalso; omega)
              | rfl
          · replace h := zk_f cc3 h
            have cc3n := cc3
            (try simp only [i32_lt, i32_le, i32_e, z32_0, z32_1, z32L_2] at cc3n)
            first
            | (exfalso; omega)
            | by_cases cc4 : x1 = (3 : Int32)
              · replace h := zk_t cc4 h
                have cc4n := cc4
                (try simp only [i32_lt, i32_le, i32_e, z32_0, z32_1, z32L_3] at cc4n)
                first
                | (exfalso; omega)
                | unfold B_X12_count_0 at k
                  replace k := zk_f cc1 k
                  replace k := zk_f cc2 k
                  replace k := zk_f cc3 k
                  replace k := zk_t cc4 k
                  replace h := Option.some.inj h
                  replace k := Option.some.inj k
                  subst h
                  subst k
                  try dsimp only
                  all_goals first
                  | (exfalso; omega)
                  | rfl
              · replace h := zk_f cc4 h
                have cc4n := cc4
                (try simp only [i32_lt, i32_le, i32_e, z32_0, z32_1, z32L_3] at cc4n)
                first
                | (exfalso; omega)
                | by_cases cc5 : x1 = (4 : Int32)
                  · replace h := zk_t cc5 h
                    have cc5n := cc5
                    (try simp only [i32_lt, i32_le, i32_e, z32_0, z32_1, z32L_4] at cc5n)
                    first
                    | (exfalso; omega)
                    | unfold B_X12_count_0 at k
                      replace k := zk_f cc1 k
                      replace k := zk_f cc2 k
                      replace k := zk_f cc3 k
                      replace k := zk_f cc4 k
                      replace k := zk_t cc5 k
                      replace h := Option.some.inj h
                      replace k := Option.some.inj k
                      subst h
                      subst k
                      try dsimp only
                      all_goals first
                      | (exfalso; omega)
                      | rfl
                  · replace h := zk_f cc5 h
                    have cc5n := cc5
                    (try simp only [i32_lt, i32_le, i32_e, z32_0, z32_1, z32L_4] at cc5n)
                    first
                    | (exfalso; omega)
                    | by_cases cc6 : x1 = (5 : Int32)
                      · replace h := zk_t cc6 h
                        have cc6n := cc6
                        (try simp only [i32_lt, i32_le, i32_e, z32_0, z32_1, z32L_5] at cc6n)
                        first
                        | (exfalso; omega)
                        | unfold B_X12_count_0 at k
                          replace k := zk_f cc1 k
                          replace k := zk_f cc2 k
                          replace k := zk_f cc3 k
                          replace k := zk_f cc4 k
                          replace k := zk_f cc5 k
                          replace k := zk_t cc6 k
                          replace h := Option.some.inj h
                          replace k := Option.some.inj k
                          subst h
                          subst k
                          try dsimp only
                          all_goals first
                          | (exfalso; omega)
                          | rfl
                      · replace h := zk_f cc6 h
                        have cc6n := cc6
                        (try simp only [i32_lt, i32_le, i32_e, z32_0, z32_1, z32L_5] at cc6n)
                        first
                        | (exfalso; omega)
                        | by_cases cc7 : x1 = (6 : Int32)
                          · replace h := zk_t cc7 h
                            have cc7n := cc7
                            (try simp only [i32_lt, i32_le, i32_e, z32_0, z32_1, z32L_6] at cc7n)
                            first
                            | (exfalso; omega)
                            | unfold B_X12_count_0 at k
                              replace k := zk_f cc1 k
                              replace k := zk_f cc2 k
                              replace k := zk_f cc3 k
                              replace k := zk_f cc4 k
                              replace k := zk_f cc5 k
                              replace k := zk_f cc6 k
                              replace k := zk_t cc7 k
                              replace h := Option.some.inj h
                              replace k := Option.some.inj k
                              subst h
                              subst k
                              try dsimp only
                              all_goals first
                              | (exfalso; omega)
                              | rfl
                          · replace h := zk_f cc7 h
                            have cc7n := cc7
                            (try simp only [i32_lt, i32_le, i32_e, z32_0, z32_1, z32L_6] at cc7n)
                            first
                            | (exfalso; omega)
                            | unfold B_X12_count_0 at k
                              replace k := zk_f cc1 k
                              replace k := zk_f cc2 k
                              replace k := zk_f cc3 k
                              replace k := zk_f cc4 k
                              replace k := zk_f cc5 k
                              replace k := zk_f cc6 k
                              replace k := zk_f cc7 k
                              replace h := Option.some.inj h
                              replace k := Option.some.inj k
                              subst h
                              subst k
                              try dsimp only
                              all_goals first
                              | (exfalso; omega)
                              | rfl
