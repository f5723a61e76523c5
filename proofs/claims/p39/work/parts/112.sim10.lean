
set_option maxHeartbeats 4000000 in
set_option maxRecDepth 20000 in
theorem pw_shA {pl_suit : Int32} {pl_holds : Int32} {pl_size : Int32} {pl_elements : Nat → Int64} {root_places : Nat → Option Nat} {h_pl : Nat} {x1 x2 x3 x4 x5 : Int32} {R : Int32 × (Nat → Int64)} (h : f_X11_shift h_pl x1 x2 x3 x4 x5 root_places pl_holds pl_suit pl_size pl_elements = some R) : f_X11_shiftB h_pl h_pl x1 x2 x3 x4 x5 root_places pl_holds pl_suit pl_size pl_elements pl_holds pl_suit pl_size pl_elements = some R := by
  exact h
set_option maxHeartbeats 4000000 in
set_option maxRecDepth 20000 in
theorem pw_shoe {mod_code : Int32} {court_shoeCount : Int32} {mod_claims : Int32} {ts : Int32} {at_ : Int32} {f : Int32} {court_suitCount : Int32} {mod_doneMany : Int32} {mod_undoneMany : Int32} {mod_open : Int32} {mod_laid : Int32} {mod_isBoth : Int32} {mod_wished : Int32} {mod_bestMany : Int32} {mod_bestRow : Int32} {mod_ringDigits : Int32} {mod_traces : Int32} {mod_wearer : Nat → Int32} {mod_wornFor : Nat → Int32} {mod_shoeSort : Nat → Int32} {mod_shoeDay : Nat → Int32} {court_claimCount : Int32} {court_shoePerson : Nat → Int32} {court_shoeOther : Nat → Int32} {court_shoeSort : Nat → Int32} {court_shoeDay : Nat → Int32} {x1 x2 x3 x4 : Int32} (hc : 0 ≤ court_shoeCount.toInt ∧ court_shoeCount.toInt ≤ 40) {R : Int32 × Int32 × (Nat → Int32) × (Nat → Int32) × (Nat → Int32) × (Nat → Int32)} {Q : Int32 × Int32 × (Nat → Int32) × (Nat → Int32) × (Nat → Int32) × (Nat → Int32)} (h : f_X11_shoe x1 x2 x3 x4 court_shoeCount court_claimCount court_suitCount court_shoePerson court_shoeOther court_shoeSort court_shoeDay = some R) (k : f_X12_shoe x1 x2 x3 x4 mod_code court_shoeCount mod_claims ts at_ f court_suitCount mod_doneMany mod_undoneMany mod_open mod_laid mod_isBoth mod_wished mod_bestMany mod_bestRow mod_ringDigits mod_traces mod_wearer mod_wornFor mod_shoeSort mod_shoeDay = some Q) : R.1 = Q.1 ∧ R.2.1 = Q.2.1 ∧ court_shoeCount.toInt ≤ R.2.1.toInt ∧ (court_shoePerson = mod_wearer → R.2.2.1 = Q.2.2.1) ∧ (court_shoeOther = mod_wornFor → R.2.2.2.1 = Q.2.2.2.1) ∧ (court_shoeSort = mod_shoeSort → R.2.2.2.2.1 = Q.2.2.2.2.1) ∧ (court_shoeDay = mod_shoeDay → R.2.2.2.2.2 = Q.2.2.2.2.2) ∧ 0 ≤ R.2.1.toInt ∧ R.2.1.toInt ≤ 40 := by
  have hs := i32_s (a := court_shoeCount) (by omega)
  unfold f_X11_shoe at h
  unfold f_X12_shoe at k
  unfold B_X11_shoe_0 at h
  replace h := zk_o2 h
  obtain ⟨cv1, cv2, ch3, h⟩ := h
  unfold f_X2_isShoe at ch3
  unfold B_X2_isShoe_0 at ch3
  by_cases cc4 : x1 < 0
  · have ch3 := zk_t cc4 ch3
    have cc4n := cc4
    (try simp only [i32_lt, i32_le, i32_e, z32_0, z32_1] at cc4n)
    first
    | (exfalso; omega)
    | simp only [Option.some.injEq, Prod.mk.injEq] at ch3
      obtain ⟨rfl, _⟩ := ch3
      replace h := zk_t rfl h
      unfold B_X12_shoe_0 at k
      replace k := zk_o2 k
      obtain ⟨mv1, mv2, mh3, k⟩ := k
      unfold f_X12_isPerson at mh3
      unfold B_X12_isPerson_0 at mh3
      obtain ⟨mv4, mv5, mh6, mh3⟩ := zk_o2 mh3
      unfold f_X12_in at mh6
      unfold B_X12_in_0 at mh6
      have mh6 := zk_t cc4 mh6
      simp only [Option.some.injEq, Prod.mk.injEq] at mh6
      obtain ⟨rfl, _⟩ := mh6
      obtain ⟨_, mh3⟩ := zk_gd mh3
      simp only [Option.some.injEq, Prod.mk.injEq] at mh3
      obtain ⟨rfl, _⟩ := mh3
      replace k := zk_t rfl k
      replace h := Option.some.inj h
      replace k := Option.some.inj k
      subst h
      subst k
      try dsimp only
      all_goals first
      | (exfalso; omega)
      | exact ⟨rfl, rfl, Int.le_refl _, fun e => e, fun e => e, fun e => e, fun e => e, hc⟩
      | exact ⟨rfl, rfl, by (try dsimp only); rw [hs]; omega, fun e => by rw [e], fun e => by rw [e], fun e => by rw [e], fun e => by rw [e], by (try dsimp only); rw [hs]; omega, by (try dsimp only); rw [hs]; omega⟩
  · have ch3 := zk_f cc4 ch3
    have cc4n := cc4
    (try simp only [i32_lt, i32_le, i32_e, z32_0, z32_1] at cc4n)
    first
    | (exfalso; omega)
    | by_cases cc5 : (20 : Int32) ≤ x1
      · have ch3 := zk_t cc5 ch3
        have cc5n := cc5
        (try simp only [i32_lt, i32_le, i32_e, z32_0, z32_1, z32L_20] at cc5n)
        first
        | (exfalso; omega)
        | simp only [Option.some.injEq, Prod.mk.injEq] at ch3
          obtain ⟨rfl, _⟩ := ch3
          replace h := zk_t rfl h
          unfold B_X12_shoe_0 at k
          replace k := zk_o2 k
          obtain ⟨mv7, mv8, mh9, k⟩ := k
          unfold f_X12_isPerson at mh9
          unfold B_X12_isPerson_0 at mh9
          obtain ⟨mv10, mv11, mh12, mh9⟩ := zk_o2 mh9
          unfold f_X12_in at mh12
          unfold B_X12_in_0 at mh12
          have mh12 := zk_f cc4 mh12
          have mh12 := zk_t (by (try simp only [i32_lt, i32_le, i32_e, z32_0, z32_1, z32L_19]); omega) mh12
          simp only [Option.some.injEq, Prod.mk.injEq] at mh12
          obtain ⟨rfl, _⟩ := mh12
          obtain ⟨_, mh9⟩ := zk_gd mh9
          simp only [Option.some.injEq, Prod.mk.injEq] at mh9
          obtain ⟨rfl, _⟩ := mh9
          replace k := zk_t rfl k
          replace h := Option.some.inj h
          replace k := Option.some.inj k
          subst h
          subst k
          try dsimp only
          all_goals first
          | (exfalso; omega)
          | exact ⟨rfl, rfl, Int.le_refl _, fun e => e, fun e => e, fun e => e, fun e => e, hc⟩
          | exact ⟨rfl, rfl, by (try dsimp only); rw [hs]; omega, fun e => by rw [e], fun e => by rw [e], fun e => by rw [e], fun e => by rw [e], by (try dsimp only); rw [hs]; omega, by (try dsimp only); rw [hs]; omega⟩
      · have ch3 := zk_f cc5 ch3
        have cc5n := cc5
        (try simp only [i32_lt, i32_le, i32_e, z32_0, z32_1, z32L_20] at cc5n)
        first
        | (exfalso; omega)
        | by_cases cc6 : x2 < 0
          · have ch3 := zk_t cc6 ch3
            have cc6n := cc6
            (try simp only [i32_lt, i32_le, i32_e, z32_0, z32_1] at cc6n)
            first
            | (exfalso; omega)
            | simp only [Option.some.injEq, Prod.mk.injEq] at ch3
              obtain ⟨rfl, _⟩ := ch3
              replace h := zk_t rfl h
              unfold B_X12_shoe_0 at k
              replace k := zk_o2 k
              obtain ⟨mv13, mv14, mh15, k⟩ := k
              unfold f_X12_isPerson at mh15
              unfold B_X12_isPerson_0 at mh15
              obtain ⟨mv16, mv17, mh18, mh15⟩ := zk_o2 mh15
              unfold f_X12_in at mh18
              unfold B_X12_in_0 at mh18
              have mh18 := zk_f cc4 mh18
              have mh18 := zk_f (by (try simp only [i32_lt, i32_le, i32_e, z32_0, z32_1, z32L_19]); omega) mh18
              simp only [Option.some.injEq, Prod.mk.injEq] at mh18
              obtain ⟨rfl, _⟩ := mh18
              obtain ⟨_, mh15⟩ := zk_gd mh15
              simp only [Option.some.injEq, Prod.mk.injEq] at mh15
              obtain ⟨rfl, _⟩ := mh15
              replace k := zk_f (by decide) k
              replace k := zk_o2 k
              obtain ⟨mv19, mv20, mh21, k⟩ := k
              unfold f_X12_isPerson at mh21
              unfold B_X12_isPerson_0 at mh21
              obtain ⟨mv22, mv23, mh24, mh21⟩ := zk_o2 mh21
              unfold f_X12_in at mh24
              unfold B_X12_in_0 at mh24
              have mh24 := zk_t cc6 mh24
              simp only [Option.some.injEq, Prod.mk.injEq] at mh24
              obtain ⟨rfl, _⟩ := mh24
              obtain ⟨_, mh21⟩ := zk_gd mh21
              simp only [Option.some.injEq, Prod.mk.injEq] at mh21
              obtain ⟨rfl, _⟩ := mh21
              replace k := zk_t rfl k
              replace h := Option.some.inj h
              replace k := Option.some.inj k
              subst h
              subst k
              try dsimp only
              all_goals first
              | (exfalso; omega)
              | exact ⟨rfl, rfl, Int.le_refl _, fun e => e, fun e => e, fun e => e, fun e => e, hc⟩
              | exact ⟨rfl, rfl, by (try dsimp only); rw [hs]; omega, fun e => by rw [e], fun e => by rw [e], fun e => by rw [e], fun e => by rw [e], by (try dsimp only); rw [hs]; omega, by (try dsimp only); rw [hs]; omega⟩
          · have ch3 := zk_f cc6 ch3
            have cc6n := cc6
            (try simp only [i32_lt, i32_le, i32_e, z32_0, z32_1] at cc6n)
            first
            | (exfalso; omega)
            | by_cases cc7 : (20 : Int32) ≤ x2
              · have ch3 := zk_t cc7 ch3
                have cc7n := cc7
                (try simp only [i32_lt, i32_le, i32_e, z32_0, z32_1, z32L_20] at cc7n)
                first
                | (exfalso; omega)
                | simp only [Option.some.injEq, Prod.mk.injEq] at ch3
                  obtain ⟨rfl, _⟩ := ch3
                  replace h := zk_t rfl h
                  unfold B_X12_shoe_0 at k
                  replace k := zk_o2 k
                  obtain ⟨mv25, mv26, mh27, k⟩ := k
                  unfold f_X12_isPerson at mh27
                  unfold B_X12_isPerson_0 at mh27
                  obtain ⟨mv28, mv29, mh30, mh27⟩ := zk_o2 mh27
                  unfold f_X12_in at mh30
                  unfold B_X12_in_0 at mh30
                  have mh30 := zk_f cc4 mh30
                  have mh30 := zk_f (by (try simp only [i32_lt, i32_le, i32_e, z32_0, z32_1, z32L_19]); omega) mh30
                  simp only [Option.some.injEq, Prod.mk.injEq] at mh30
                  obtain ⟨rfl, _⟩ := mh30
                  obtain ⟨_, mh27⟩ := zk_gd mh27
                  simp only [Option.some.injEq, Prod.mk.injEq] at mh27
                  obtain ⟨rfl, _⟩ := mh27
                  replace k := zk_f (by decide) k
                  replace k := zk_o2 k
                  obtain ⟨mv31, mv32, mh33, k⟩ := k
                  unfold f_X12_isPerson at mh33
                  unfold B_X12_isPerson_0 at mh33
                  obtain ⟨mv34, mv35, mh36, mh33⟩ := zk_o2 mh33
                  unfold f_X12_in at mh36
                  unfold B_X12_in_0 at mh36
                  have mh36 := zk_f cc6 mh36
                  have mh36 := zk_t (by (try simp only [i32_lt, i32_le, i32_e, z32_0, z32_1, z32L_19]); omega) mh36
                  simp only [Option.some.injEq, Prod.mk.injEq] at mh36
                  obtain ⟨rfl, _⟩ := mh36
                  obtain ⟨_, mh33⟩ := zk_gd mh33
                  simp only [Option.some.injEq, Prod.mk.injEq] at mh33
                  obtain ⟨rfl, _⟩ := mh33
                  replace k := zk_t rfl k
                  replace h := Option.some.inj h
                  replace k := Option.some.inj k
                  subst h
                  subst k
                  try dsimp only
                  all_goals first
                  | (exfalso; omega)
                  | exact ⟨rfl, rfl, Int.le_refl _, fun e => e, fun e => e, fun e => e, fun e => e, hc⟩
                  | exact ⟨rfl, rfl, by (try dsimp only); rw [hs]; omega, fun e => by rw [e], fun e => by rw [e], fun e => by rw [e], fun e => by rw [e], by (try dsimp only); rw [hs]; omega, by (try dsimp only); rw [hs]; omega⟩
              · have ch3 := zk_f cc7 ch3
                have cc7n := cc7
                (try simp only [i32_lt, i32_le, i32_e, z32_0, z32_1, z32L_20] at cc7n)
                first
                | (exfalso; omega)
                | by_cases cc8 : x1 = x2
                  · have ch3 := zk_t cc8 ch3
                    have cc8n := cc8
                    (try simp only [i32_lt, i32_le, i32_e, z32_0, z32_1] at cc8n)
                    first
                    | (exfalso; omega)
                    | simp only [Option.some.injEq, Prod.mk.injEq] at ch3
                      obtain ⟨rfl, _⟩ := ch3
                      replace h := zk_t rfl h
                      unfold B_X12_shoe_0 at k
                      replace k := zk_o2 k
                      obtain ⟨mv37, mv38, mh39, k⟩ := k
                      unfold f_X12_isPerson at mh39
                      unfold B_X12_isPerson_0 at mh39
                      obtain ⟨mv40, mv41, mh42, mh39⟩ := zk_o2 mh39
                      unfold f_X12_in at mh42
                      unfold B_X12_in_0 at mh42
                      have mh42 := zk_f cc4 mh42
                      have mh42 := zk_f (by (try simp only [i32_lt, i32_le, i32_e, z32_0, z32_1, z32L_19]); omega) mh42
                      simp only [Option.some.injEq, Prod.mk.injEq] at mh42
                      obtain ⟨rfl, _⟩ := mh42
                      obtain ⟨_, mh39⟩ := zk_gd mh39
                      simp only [Option.some.injEq, Prod.mk.injEq] at mh39
                      obtain ⟨rfl, _⟩ := mh39
                      replace k := zk_f (by decide) k
                      replace k := zk_o2 k
                      obtain ⟨mv43, mv44, mh45, k⟩ := k
                      unfold f_X12_isPerson at mh45
                      unfold B_X12_isPerson_0 at mh45
                      obtain ⟨mv46, mv47, mh48, mh45⟩ := zk_o2 mh45
                      unfold f_X12_in at mh48
                      unfold B_X12_in_0 at mh48
                      have mh48 := zk_f cc6 mh48
                      have mh48 := zk_f (by (try simp only [i32_lt, i32_le, i32_e, z32_0, z32_1, z32L_19]); omega) mh48
                      simp only [Option.some.injEq, Prod.mk.injEq] at mh48
                      obtain ⟨rfl, _⟩ := mh48
                      obtain ⟨_, mh45⟩ := zk_gd mh45
                      simp only [Option.some.injEq, Prod.mk.injEq] at mh45
                      obtain ⟨rfl, _⟩ := mh45
                      replace k := zk_f (by decide) k
                      replace k := zk_t cc8 k
                      replace h := Option.some.inj h
                      replace k := Option.some.inj k
                      subst h
                      subst k
                      try dsimp only
                      all_goals first
                      | (exfalso; omega)
                      | exact ⟨rfl, rfl, Int.le_refl _, fun e => e, fun e => e, fun e => e, fun e => e, hc⟩
                      | exact ⟨rfl, rfl, by (try dsimp only); rw [hs]; omega, fun e => by rw [e], fun e => by rw [e], fun e => by rw [e], fun e => by rw [e], by (try dsimp only); rw [hs]; omega, by (try dsimp only); rw [hs]; omega⟩
                  · have ch3 := zk_f cc8 ch3
                    have cc8n := cc8
                    (try simp only [i32_lt, i32_le, i32_e, z32_0, z32_1] at cc8n)
                    first
                    | (exfalso; omega)
                    | by_cases cc9 : x3 < (1 : Int32)
                      · have ch3 := zk_t cc9 ch3
                        have cc9n := cc9
                        (try simp only [i32_lt, i32_le, i32_e, z32_0, z32_1] at cc9n)
                        first
                        | (exfalso; omega)
                        | simp only [Option.some.injEq, Prod.mk.injEq] at ch3
                          obtain ⟨rfl, _⟩ := ch3
                          replace h := zk_t rfl h
                          unfold B_X12_shoe_0 at k
                          replace k := zk_o2 k
                          obtain ⟨mv49, mv50, mh51, k⟩ := k
                          unfold f_X12_isPerson at mh51
                          unfold B_X12_isPerson_0 at mh51
                          obtain ⟨mv52, mv53, mh54, mh51⟩ := zk_o2 mh51
                          unfold f_X12_in at mh54
                          unfold B_X12_in_0 at mh54
                          have mh54 := zk_f cc4 mh54
                          have mh54 := zk_f (by (try simp only [i32_lt, i32_le, i32_e, z32_0, z32_1, z32L_19]); omega) mh54
                          simp only [Option.some.injEq, Prod.mk.injEq] at mh54
                          obtain ⟨rfl, _⟩ := mh54
                          obtain ⟨_, mh51⟩ := zk_gd mh51
                          simp only [Option.some.injEq, Prod.mk.injEq] at mh51
                          obtain ⟨rfl, _⟩ := mh51
                          replace k := zk_f (by decide) k
                          replace k := zk_o2 k
                          obtain ⟨mv55, mv56, mh57, k⟩ := k
                          unfold f_X12_isPerson at mh57
                          unfold B_X12_isPerson_0 at mh57
                          obtain ⟨mv58, mv59, mh60, mh57⟩ := zk_o2 mh57
                          unfold f_X12_in at mh60
                          unfold B_X12_in_0 at mh60
                          have mh60 := zk_f cc6 mh60
                          have mh60 := zk_f (by (try simp only [i32_lt, i32_le, i32_e, z32_0, z32_1, z32L_19]); omega) mh60
                          simp only [Option.some.injEq, Prod.mk.injEq] at mh60
                          obtain ⟨rfl, _⟩ := mh60
                          obtain ⟨_, mh57⟩ := zk_gd mh57
                          simp only [Option.some.injEq, Prod.mk.injEq] at mh57
                          obtain ⟨rfl, _⟩ := mh57
                          replace k := zk_f (by decide) k
                          replace k := zk_f cc8 k
                          replace k := zk_o2 k
                          obtain ⟨mv61, mv62, mh63, k⟩ := k
                          unfold f_X12_in at mh63
                          unfold B_X12_in_0 at mh63
                          have mh63 := zk_t cc9 mh63
                          simp only [Option.some.injEq, Prod.mk.injEq] at mh63
                          obtain ⟨rfl, _⟩ := mh63
                          replace k := zk_t rfl k
                          replace h := Option.some.inj h
                          replace k := Option.some.inj k
                          subst h
                          subst k
                          try dsimp only
                          all_goals first
                          | (exfalso; omega)
                          | exact ⟨rfl, rfl, Int.le_refl _, fun e => e, fun e => e, fun e => e, fun e => e, hc⟩
                          | exact ⟨rfl, rfl, by (try dsimp only); rw [hs]; omega, fun e => by rw [e], fun e => by rw [e], fun e => by rw [e], fun e => by rw [e], by (try dsimp only); rw [hs]; omega, by (try dsimp only); rw [hs]; omega⟩
                      · have ch3 := zk_f cc9 ch3
                        have cc9n := cc9
                        (try simp only [i32_lt, i32_le, i32_e, z32_0, z32_1] at cc9n)
                        first
                        | (exfalso; omega)
                        | by_cases cc10 : (5 : Int32) < x3
                          · have ch3 := zk_t cc10 ch3
                            have cc10n := cc10
                            (try simp only [i32_lt, i32_le, i32_e, z32_0, z32_1, z32L_5] at cc10n)
                            first
                            | (exfalso; omega)
                            | simp only [Option.some.injEq, Prod.mk.injEq] at ch3
                              obtain ⟨rfl, _⟩ := ch3
                              replace h := zk_t rfl h
                              unfold B_X12_shoe_0 at k
                              replace k := zk_o2 k
                              obtain ⟨mv64, mv65, mh66, k⟩ := k
                              unfold f_X12_isPerson at mh66
                              unfold B_X12_isPerson_0 at mh66
                              obtain ⟨mv67, mv68, mh69, mh66⟩ := zk_o2 mh66
                              unfold f_X12_in at mh69
                              unfold B_X12_in_0 at mh69
                              have mh69 := zk_f cc4 mh69
                              have mh69 := zk_f (by (try simp only [i32_lt, i32_le, i32_e, z32_0, z32_1, z32L_19]); omega) mh69
                              simp only [Option.some.injEq, Prod.mk.injEq] at mh69
                              obtain ⟨rfl, _⟩ := mh69
                              obtain ⟨_, mh66⟩ := zk_gd mh66
                              simp only [Option.some.injEq, Prod.mk.injEq] at mh66
                              obtain ⟨rfl, _⟩ := mh66
                              replace k := zk_f (by decide) k
                              replace k := zk_o2 k
                              obtain ⟨mv70, mv71, mh72, k⟩ := k
                              unfold f_X12_isPerson at mh72
                              unfold B_X12_isPerson_0 at mh72
                              obtain ⟨mv73, mv74, mh75, mh72⟩ := zk_o2 mh72
                              unfold f_X12_in at mh75
                              unfold B_X12_in_0 at mh75
                              have mh75 := zk_f cc6 mh75
                              have mh75 := zk_f (by (try simp only [i32_lt, i32_le, i32_e, z32_0, z32_1, z32L_19]); omega) mh75
                              simp only [Option.some.injEq, Prod.mk.injEq] at mh75
                              obtain ⟨rfl, _⟩ := mh75
                              obtain ⟨_, mh72⟩ := zk_gd mh72
                              simp only [Option.some.injEq, Prod.mk.injEq] at mh72
                              obtain ⟨rfl, _⟩ := mh72
                              replace k := zk_f (by decide) k
                              replace k := zk_f cc8 k
                              replace k := zk_o2 k
                              obtain ⟨mv76, mv77, mh78, k⟩ := k
                              unfold f_X12_in at mh78
                              unfold B_X12_in_0 at mh78
                              have mh78 := zk_f cc9 mh78
                              have mh78 := zk_t cc10 mh78
                              simp only [Option.some.injEq, Prod.mk.injEq] at mh78
                              obtain ⟨rfl, _⟩ := mh78
                              replace k := zk_t rfl k
                              replace h := Option.some.inj h
                              replace k := Option.some.inj k
                              subst h
                              subst k
                              try dsimp only
                              all_goals first
                              | (exfalso; omega)
                              | exact ⟨rfl, rfl, Int.le_refl _, fun e => e, fun e => e, fun e => e, fun e => e, hc⟩
                              | exact ⟨rfl, rfl, by (try dsimp only); rw [hs]; omega, fun e => by rw [e], fun e => by rw [e], fun e => by rw [e], fun e => by rw [e], by (try dsimp only); rw [hs]; omega, by (try dsimp only); rw [hs]; omega⟩
                          · have ch3 := zk_f cc10 ch3
                            have cc10n := cc10
                            (try simp only [i32_lt, i32_le, i32_e, z32_0, z32_1, z32L_5] at cc10n)
                            first
                            | (exfalso; omega)
                            | obtain ⟨cv11, cv12, ch13, ch3⟩ := zk_o2 ch3
                              unfold f_X11_isDay at ch13
                              unfold B_X11_isDay_0 at ch13
                              by_cases cc14 : x4 < 0
                              · have ch13 := zk_t cc14 ch13
                                have cc14n := cc14
                                (try simp only [i32_lt, i32_le, i32_e, z32_0, z32_1] at cc14n)
                                first
                                | (exfalso; omega)
                                | simp only [Option.some.injEq, Prod.mk.injEq] at ch13
                                  obtain ⟨rfl, _⟩ := ch13
                                  have ch3 := zk_t rfl ch3
                                  simp only [Option.some.injEq, Prod.mk.injEq] at ch3
                                  obtain ⟨rfl, _⟩ := ch3
                                  replace h := zk_t rfl h
                                  unfold B_X12_shoe_0 at k
                                  replace k := zk_o2 k
                                  obtain ⟨mv79, mv80, mh81, k⟩ := k
                                  unfold f_X12_isPerson at mh81
                                  unfold B_X12_isPerson_0 at mh81
                                  obtain ⟨mv82, mv83, mh84, mh81⟩ := zk_o2 mh81
                                  unfold f_X12_in at mh84
                                  unfold B_X12_in_0 at mh84
                                  have mh84 := zk_f cc4 mh84
                                  have mh84 := zk_f (by (try simp only [i32_lt, i32_le, i32_e, z32_0, z32_1, z32L_19]); omega) mh84
                                  simp only [Option.some.injEq, Prod.mk.injEq] at mh84
                                  obtain ⟨rfl, _⟩ := mh84
                                  obtain ⟨_, mh81⟩ := zk_gd mh81
                                  simp only [Option.some.injEq, Prod.mk.injEq] at mh81
                                  obtain ⟨rfl, _⟩ := mh81
                                  replace k := zk_f (by decide) k
                                  replace k := zk_o2 k
                                  obtain ⟨mv85, mv86, mh87, k⟩ := k
                                  unfold f_X12_isPerson at mh87
                                  unfold B_X12_isPerson_0 at mh87
                                  obtain ⟨mv88, mv89, mh90, mh87⟩ := zk_o2 mh87
                                  unfold f_X12_in at mh90
                                  unfold B_X12_in_0 at mh90
                                  have mh90 := zk_f cc6 mh90
                                  have mh90 := zk_f (by (try simp only [i32_lt, i32_le, i32_e, z32_0, z32_1, z32L_19]); omega) mh90
                                  simp only [Option.some.injEq, Prod.mk.injEq] at mh90
                                  obtain ⟨rfl, _⟩ := mh90
                                  obtain ⟨_, mh87⟩ := zk_gd mh87
                                  simp only [Option.some.injEq, Prod.mk.injEq] at mh87
                                  obtain ⟨rfl, _⟩ := mh87
                                  replace k := zk_f (by decide) k
                                  replace k := zk_f cc8 k
                                  replace k := zk_o2 k
                                  obtain ⟨mv91, mv92, mh93, k⟩ := k
                                  unfold f_X12_in at mh93
                                  unfold B_X12_in_0 at mh93
                                  have mh93 := zk_f cc9 mh93
                                  have mh93 := zk_f cc10 mh93
                                  simp only [Option.some.injEq, Prod.mk.injEq] at mh93
                                  obtain ⟨rfl, _⟩ := mh93
                                  replace k := zk_f (by decide) k
                                  replace k := zk_o2 k
                                  obtain ⟨mv94, mv95, mh96, k⟩ := k
                                  unfold f_X12_isDay at mh96
                                  unfold B_X12_isDay_0 at mh96
                                  obtain ⟨mv97, mv98, mh99, mh96⟩ := zk_o2 mh96
                                  unfold f_X12_in at mh99
                                  unfold B_X12_in_0 at mh99
                                  have mh99 := zk_t cc14 mh99
                                  simp only [Option.some.injEq, Prod.mk.injEq] at mh99
                                  obtain ⟨rfl, _⟩ := mh99
                                  obtain ⟨_, mh96⟩ := zk_gd mh96
                                  simp only [Option.some.injEq, Prod.mk.injEq] at mh96
                                  obtain ⟨rfl, _⟩ := mh96
                                  replace k := zk_t rfl k
                                  replace h := Option.some.inj h
                                  replace k := Option.some.inj k
                                  subst h
                                  subst k
                                  try dsimp only
                                  all_goals first
                                  | (exfalso; omega)
                                  | exact ⟨rfl, rfl, Int.le_refl _, fun e => e, fun e => e, fun e => e, fun e => e, hc⟩
                                  | exact ⟨rfl, rfl, by (try dsimp only); rw [hs]; omega, fun e => by rw [e], fun e => by rw [e], fun e => by rw [e], fun e => by rw [e], by (try dsimp only); rw [hs]; omega, by (try dsimp only); rw [hs]; omega⟩
                              · have ch13 := zk_f cc14 ch13
                                have cc14n := cc14
                                (try simp only [i32_lt, i32_le, i32_e, z32_0, z32_1] at cc14n)
                                first
                                | (exfalso; omega)
                                | by_cases cc15 : (10000 : Int32) ≤ x4
                                  · have ch13 := zk_t cc15 ch13
                                    have cc15n := cc15
                                    (try simp only [i32_lt, i32_le, i32_e, z32_0, z32_1, z32L_10000] at cc15n)
                                    first
                                    | (exfalso; omega)
                                    | simp only [Option.some.injEq, Prod.mk.injEq] at ch13
                                      obtain ⟨rfl, _⟩ := ch13
                                      have ch3 := zk_t rfl ch3
                                      simp only [Option.some.injEq, Prod.mk.injEq] at ch3
                                      obtain ⟨rfl, _⟩ := ch3
                                      replace h := zk_t rfl h
                                      unfold B_X12_shoe_0 at k
                                      replace k := zk_o2 k
                                      obtain ⟨mv100, mv101, mh102, k⟩ := k
                                      unfold f_X12_isPerson at mh102
                                      unfold B_X12_isPerson_0 at mh102
                                      obtain ⟨mv103, mv104, mh105, mh102⟩ := zk_o2 mh102
                                      unfold f_X12_in at mh105
                                      unfold B_X12_in_0 at mh105
                                      have mh105 := zk_f cc4 mh105
                                      have mh105 := zk_f (by (try simp only [i32_lt, i32_le, i32_e, z32_0, z32_1, z32L_19]); omega) mh105
                                      simp only [Option.some.injEq, Prod.mk.injEq] at mh105
                                      obtain ⟨rfl, _⟩ := mh105
                                      obtain ⟨_, mh102⟩ := zk_gd mh102
                                      simp only [Option.some.injEq, Prod.mk.injEq] at mh102
                                      obtain ⟨rfl, _⟩ := mh102
                                      replace k := zk_f (by decide) k
                                      replace k := zk_o2 k
                                      obtain ⟨mv106, mv107, mh108, k⟩ := k
                                      unfold f_X12_isPerson at mh108
                                      unfold B_X12_isPerson_0 at mh108
                                      obtain ⟨mv109, mv110, mh111, mh108⟩ := zk_o2 mh108
                                      unfold f_X12_in at mh111
                                      unfold B_X12_in_0 at mh111
                                      have mh111 := zk_f cc6 mh111
                                      have mh111 := zk_f (by (try simp only [i32_lt, i32_le, i32_e, z32_0, z32_1, z32L_19]); omega) mh111
                                      simp only [Option.some.injEq, Prod.mk.injEq] at mh111
                                      obtain ⟨rfl, _⟩ := mh111
                                      obtain ⟨_, mh108⟩ := zk_gd mh108
                                      simp only [Option.some.injEq, Prod.mk.injEq] at mh108
                                      obtain ⟨rfl, _⟩ := mh108
                                      replace k := zk_f (by decide) k
                                      replace k := zk_f cc8 k
                                      replace k := zk_o2 k
                                      obtain ⟨mv112, mv113, mh114, k⟩ := k
                                      unfold f_X12_in at mh114
                                      unfold B_X12_in_0 at mh114
                                      have mh114 := zk_f cc9 mh114
                                      have mh114 := zk_f cc10 mh114
                                      simp only [Option.some.injEq, Prod.mk.injEq] at mh114
                                      obtain ⟨rfl, _⟩ := mh114
                                      replace k := zk_f (by decide) k
                                      replace k := zk_o2 k
                                      obtain ⟨mv115, mv116, mh117, k⟩ := k
                                      unfold f_X12_isDay at mh117
                                      unfold B_X12_isDay_0 at mh117
                                      obtain ⟨mv118, mv119, mh120, mh117⟩ := zk_o2 mh117
                                      unfold f_X12_in at mh120
                                      unfold B_X12_in_0 at mh120
                                      have mh120 := zk_f cc14 mh120
                                      have mh120 := zk_t (by (try simp only [i32_lt, i32_le, i32_e, z32_0, z32_1, z32L_9999]); omega) mh120
                                      simp only [Option.some.injEq, Prod.mk.injEq] at mh120
                                      obtain ⟨rfl, _⟩ := mh120
                                      obtain ⟨_, mh117⟩ := zk_gd mh117
                                      simp only [Option.some.injEq, Prod.mk.injEq] at mh117
                                      obtain ⟨rfl, _⟩ := mh117
                                      replace k := zk_t rfl k
                                      replace h := Option.some.inj h
                                      replace k := Option.some.inj k
                                      subst h
                                      subst k
                                      try dsimp only
                                      all_goals first
                                      | (exfalso; omega)
                                      | exact ⟨rfl, rfl, Int.le_refl _, fun e => e, fun e => e, fun e => e, fun e => e, hc⟩
                                      | exact ⟨rfl, rfl, by (try dsimp only); rw [hs]; omega, fun e => by rw [e], fun e => by rw [e], fun e => by rw [e], fun e => by rw [e], by (try dsimp only); rw [hs]; omega, by (try dsimp only); rw [hs]; omega⟩
                                  · have ch13 := zk_f cc15 ch13
                                    have cc15n := cc15
                                    (try simp only [i32_lt, i32_le, i32_e, z32_0, z32_1, z32L_10000] at cc15n)
                                    first
                                    | (exfalso; omega)
                                    | simp only [Option.some.injEq, Prod.mk.injEq] at ch13
                                      obtain ⟨rfl, _⟩ := ch13
                                      have ch3 := zk_f (by decide) ch3
                                      simp only [Option.some.injEq, Prod.mk.injEq] at ch3
                                      obtain ⟨rfl, _⟩ := ch3
                                      replace h := zk_f (by decide) h
                                      replace h := zk_o6 h
                                      obtain ⟨cv16, cv17, cv18, cv19, cv20, cv21, ch22, h⟩ := h
                                      unfold f_X2_addShoe at ch22
                                      unfold B_X2_addShoe_0 at ch22
                                      by_cases cc23 : court_shoeCount < (40 : Int32)
                                      · have ch22 := zk_t cc23 ch22
                                        have cc23n := cc23
                                        (try simp only [i32_lt, i32_le, i32_e, z32_0, z32_1, z32L_40] at cc23n)
                                        first
                                        | (exfalso; omega)
                                        | obtain ⟨_, ch22⟩ := zk_gd ch22
                                          obtain ⟨cv24, ce25, ch22⟩ := zk_lt ch22
                                          subst ce25
                                          obtain ⟨_, ch22⟩ := zk_gd ch22
                                          obtain ⟨cv26, ce27, ch22⟩ := zk_lt ch22
                                          subst ce27
                                          obtain ⟨_, ch22⟩ := zk_gd ch22
                                          obtain ⟨cv28, ce29, ch22⟩ := zk_lt ch22
                                          subst ce29
                                          obtain ⟨_, ch22⟩ := zk_gd ch22
                                          obtain ⟨cv30, ce31, ch22⟩ := zk_lt ch22
                                          subst ce31
                                          obtain ⟨cv32, ce33, ch22⟩ := zk_lt ch22
                                          subst ce33
                                          simp only [Option.some.injEq, Prod.mk.injEq] at ch22
                                          obtain ⟨rfl, rfl, rfl, rfl, rfl, rfl⟩ := ch22
                                          unfold B_X12_shoe_0 at k
                                          replace k := zk_o2 k
                                          obtain ⟨mv121, mv122, mh123, k⟩ := k
                                          unfold f_X12_isPerson at mh123
                                          unfold B_X12_isPerson_0 at mh123
                                          obtain ⟨mv124, mv125, mh126, mh123⟩ := zk_o2 mh123
                                          unfold f_X12_in at mh126
                                          unfold B_X12_in_0 at mh126
                                          have mh126 := zk_f cc4 mh126
                                          have mh126 := zk_f (by (try simp only [i32_lt, i32_le, i32_e, z32_0, z32_1, z32L_19]); omega) mh126
                                          simp only [Option.some.injEq, Prod.mk.injEq] at mh126
                                          obtain ⟨rfl, _⟩ := mh126
                                          obtain ⟨_, mh123⟩ := zk_gd mh123
                                          simp only [Option.some.injEq, Prod.mk.injEq] at mh123
                                          obtain ⟨rfl, _⟩ := mh123
                                          replace k := zk_f (by decide) k
                                          replace k := zk_o2 k
                                          obtain ⟨mv127, mv128, mh129, k⟩ := k
                                          unfold f_X12_isPerson at mh129
                                          unfold B_X12_isPerson_0 at mh129
                                          obtain ⟨mv130, mv131, mh132, mh129⟩ := zk_o2 mh129
                                          unfold f_X12_in at mh132
                                          unfold B_X12_in_0 at mh132
                                          have mh132 := zk_f cc6 mh132
                                          have mh132 := zk_f (by (try simp only [i32_lt, i32_le, i32_e, z32_0, z32_1, z32L_19]); omega) mh132
                                          simp only [Option.some.injEq, Prod.mk.injEq] at mh132
                                          obtain ⟨rfl, _⟩ := mh132
                                          obtain ⟨_, mh129⟩ := zk_gd mh129
                                          simp only [Option.some.injEq, Prod.mk.injEq] at mh129
                                          obtain ⟨rfl, _⟩ := mh129
                                          replace k := zk_f (by decide) k
                                          replace k := zk_f cc8 k
                                          replace k := zk_o2 k
                                          obtain ⟨mv133, mv134, mh135, k⟩ := k
                                          unfold f_X12_in at mh135
                                          unfold B_X12_in_0 at mh135
                                          have mh135 := zk_f cc9 mh135
                                          have mh135 := zk_f cc10 mh135
                                          simp only [Option.some.injEq, Prod.mk.injEq] at mh135
                                          obtain ⟨rfl, _⟩ := mh135
                                          replace k := zk_f (by decide) k
                                          replace k := zk_o2 k
                                          obtain ⟨mv136, mv137, mh138, k⟩ := k
                                          unfold f_X12_isDay at mh138
                                          unfold B_X12_isDay_0 at mh138
                                          obtain ⟨mv139, mv140, mh141, mh138⟩ := zk_o2 mh138
                                          unfold f_X12_in at mh141
                                          unfold B_X12_in_0 at mh141
                                          have mh141 := zk_f cc14 mh141
                                          have mh141 := zk_f (by (try simp only [i32_lt, i32_le, i32_e, z32_0, z32_1, z32L_9999]); omega) mh141
                                          simp only [Option.some.injEq, Prod.mk.injEq] at mh141
                                          obtain ⟨rfl, _⟩ := mh141
                                          obtain ⟨_, mh138⟩ := zk_gd mh138
                                          simp only [Option.some.injEq, Prod.mk.injEq] at mh138
                                          obtain ⟨rfl, _⟩ := mh138
                                          replace k := zk_f (by decide) k
                                          replace k := zk_f (by (try simp only [i32_lt, i32_le, i32_e, z32_0, z32_1, z32L_40]); omega) k
                                          replace k := zk_gd k
                                          obtain ⟨_, k⟩ := k
                                          replace k := zk_lt k
                                          obtain ⟨mv142, me143, k⟩ := k
                                          subst me143
                                          replace k := zk_gd k
                                          obtain ⟨_, k⟩ := k
                                          replace k := zk_lt k
                                          obtain ⟨mv144, me145, k⟩ := k
                                          subst me145
                                          replace k := zk_gd k
                                          obtain ⟨_, k⟩ := k
                                          replace k := zk_lt k
                                          obtain ⟨mv146, me147, k⟩ := k
                                          subst me147
                                          replace k := zk_gd k
                                          obtain ⟨_, k⟩ := k
                                          replace k := zk_lt k
                                          obtain ⟨mv148, me149, k⟩ := k
                                          subst me149
                                          replace k := zk_lt k
                                          obtain ⟨mv150, me151, k⟩ := k
                                          subst me151
                                          replace h := Option.some.inj h
                                          replace k := Option.some.inj k
                                          subst h
                                          subst k
                                          try dsimp only
                                          all_goals first
                                          | (exfalso; omega)
                                          | exact ⟨rfl, rfl, Int.le_refl _, fun e => e, fun e => e, fun e => e, fun e => e, hc⟩
                                          | exact ⟨rfl, rfl, by (try dsimp only); rw [hs]; omega, fun e => by rw [e], fun e => by rw [e], fun e => by rw [e], fun e => by rw [e], by (try dsimp only); rw [hs]; omega, by (try dsimp only); rw [hs]; omega⟩
                                      · have ch22 := zk_f cc23 ch22
                                        have cc23n := cc23
                                        (try simp only [i32_lt, i32_le, i32_e, z32_0, z32_1, z32L_40] at cc23n)
                                        first
                                        | (exfalso; omega)
                                        | simp only [Option.some.injEq, Prod.mk.injEq] at ch22
                                          obtain ⟨rfl, rfl, rfl, rfl, rfl, rfl⟩ := ch22
                                          unfold B_X12_shoe_0 at k
                                          replace k := zk_o2 k
                                          obtain ⟨mv152, mv153, mh154, k⟩ := k
                                          unfold f_X12_isPerson at mh154
                                          unfold B_X12_isPerson_0 at mh154
                                          obtain ⟨mv155, mv156, mh157, mh154⟩ := zk_o2 mh154
                                          unfold f_X12_in at mh157
                                          unfold B_X12_in_0 at mh157
                                          have mh157 := zk_f cc4 mh157
                                          have mh157 := zk_f (by (try simp only [i32_lt, i32_le, i32_e, z32_0, z32_1, z32L_19]); omega) mh157
                                          simp only [Option.some.injEq, Prod.mk.injEq] at mh157
                                          obtain ⟨rfl, _⟩ := mh157
                                          obtain ⟨_, mh154⟩ := zk_gd mh154
                                          simp only [Option.some.injEq, Prod.mk.injEq] at mh154
                                          obtain ⟨rfl, _⟩ := mh154
                                          replace k := zk_f (by decide) k
                                          replace k := zk_o2 k
                                          obtain ⟨mv158, mv159, mh160, k⟩ := k
                                          unfold f_X12_isPerson at mh160
                                          unfold B_X12_isPerson_0 at mh160
                                          obtain ⟨mv161, mv162, mh163, mh160⟩ := zk_o2 mh160
                                          unfold f_X12_in at mh163
                                          unfold B_X12_in_0 at mh163
                                          have mh163 := zk_f cc6 mh163
                                          have mh163 := zk_f (by (try simp only [i32_lt, i32_le, i32_e, z32_0, z32_1, z32L_19]); omega) mh163
                                          simp only [Option.some.injEq, Prod.mk.injEq] at mh163
                                          obtain ⟨rfl, _⟩ := mh163
                                          obtain ⟨_, mh160⟩ := zk_gd mh160
                                          simp only [Option.some.injEq, Prod.mk.injEq] at mh160
                                          obtain ⟨rfl, _⟩ := mh160
                                          replace k := zk_f (by decide) k
                                          replace k := zk_f cc8 k
                                          replace k := zk_o2 k
                                          obtain ⟨mv164, mv165, mh166, k⟩ := k
                                          unfold f_X12_in at mh166
                                          unfold B_X12_in_0 at mh166
                                          have mh166 := zk_f cc9 mh166
                                          have mh166 := zk_f cc10 mh166
                                          simp only [Option.some.injEq, Prod.mk.injEq] at mh166
                                          obtain ⟨rfl, _⟩ := mh166
                                          replace k := zk_f (by decide) k
                                          replace k := zk_o2 k
                                          obtain ⟨mv167, mv168, mh169, k⟩ := k
                                          unfold f_X12_isDay at mh169
                                          unfold B_X12_isDay_0 at mh169
                                          obtain ⟨mv170, mv171, mh172, mh169⟩ := zk_o2 mh169
                                          unfold f_X12_in at mh172
                                          unfold B_X12_in_0 at mh172
                                          have mh172 := zk_f cc14 mh172
                                          have mh172 := zk_f (by (try simp only [i32_lt, i32_le, i32_e, z32_0, z32_1, z32L_9999]); omega) mh172
                                          simp only [Option.some.injEq, Prod.mk.injEq] at mh172
                                          obtain ⟨rfl, _⟩ := mh172
                                          obtain ⟨_, mh169⟩ := zk_gd mh169
                                          simp only [Option.some.injEq, Prod.mk.injEq] at mh169
                                          obtain ⟨rfl, _⟩ := mh169
                                          replace k := zk_f (by decide) k
                                          by_cases mc173 : court_shoeCount = (40 : Int32)
                                          · replace k := zk_t mc173 k
                                            have mc173n := mc173
                                            (try simp only [i32_lt, i32_le, i32_e, z32_0, z32_1, z32L_40] at mc173n)
                                            first
                                            | (exfalso; omega)
                                            | have h := Option.some.inj h
                                              replace k := Option.some.inj k
                                              subst h
                                              subst k
                                              try dsimp only
                                              all_goals first
                                              | (exfalso; omega)
                                              | exact ⟨rfl, rfl, Int.le_refl _, fun e => e, fun e => e, fun e => e, fun e => e, hc⟩
                                              | exact ⟨rfl, rfl, by (try dsimp only); rw [hs]; omega, fun e => by rw [e], fun e => by rw [e], fun e => by rw [e], fun e => by rw [e], by (try dsimp only); rw [hs]; omega, by (try dsimp only); rw [hs]; omega⟩
                                          · replace k := zk_f mc173 k
                                            have mc173n := mc173
                                            (try simp only [i32_lt, i32_le, i32_e, z32_0, z32_1, z32L_40] at mc173n)
                                            first
                                            | (exfalso; omega)
                                            | obtain ⟨_, k⟩ := zk_gd k
                                              replace k := zk_lt k
                                              obtain ⟨mv174, me175, k⟩ := k
                                              subst me175
                                              replace k := zk_gd k
                                              obtain ⟨_, k⟩ := k
                                              replace k := zk_lt k
                                              obtain ⟨mv176, me177, k⟩ := k
                                              subst me177
                                              replace k := zk_gd k
                                              obtain ⟨_, k⟩ := k
                                              replace k := zk_lt k
                                              obtain ⟨mv178, me179, k⟩ := k
                                              subst me179
                                              replace k := zk_gd k
                                              obtain ⟨_, k⟩ := k
                                              replace k := zk_lt k
                                              obtain ⟨mv180, me181, k⟩ := k
                                              subst me181
                                              replace k := zk_lt k
                                              obtain ⟨mv182, me183, k⟩ := k
                                              subst me183
                                              replace h := Option.some.inj h
                                              replace k := Option.some.inj k
                                              subst h
                                              subst k
                                              try dsimp only
                                              all_goals first
                                              | (exfalso; omega)
                                              | exact ⟨rfl, rfl, Int.le_refl _, fun e => e, fun e => e, fun e => e, fun e => e, hc⟩
                                              | exact ⟨rfl, rfl, by (try dsimp only); rw [hs]; omega, fun e => by rw [e], fun e => by rw [e], fun e => by rw [e], fun e => by rw [e], by (try dsimp only); rw [hs]; omega, by (try dsimp only); rw [hs]; omega⟩
