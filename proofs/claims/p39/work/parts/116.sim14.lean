
set_option maxHeartbeats 4000000 in
set_option maxRecDepth 20000 in
theorem pw_undone {mod_code : Int32} {court_shoeCount : Int32} {mod_claims : Int32} {ts : Int32} {at_ : Int32} {f : Int32} {court_suitCount : Int32} {mod_undoneMany : Int32} {mod_open : Int32} {mod_laid : Int32} {mod_isBoth : Int32} {mod_wished : Int32} {mod_bestMany : Int32} {mod_bestRow : Int32} {mod_ringDigits : Int32} {mod_traces : Int32} {mod_shoeDay : Nat → Int32} {mod_isWon : Nat → Int32} {mod_suitDay : Nat → Int32} {mod_undoneFrom : Nat → Int32} {court_claimCount : Int32} {court_shoeDay : Nat → Int32} {court_suits : Nat → Option Nat} {S_who : Nat → Int32} {S_against : Nat → Int32} {S_kind : Nat → Int32} {S_won : Nat → Int32} {S_day : Nat → Int32} {S_land : Nat → Int32} {S_undoneFrom : Nat → Int32} {S_asked : Nat → Nat → Int32} {S_askedCount : Nat → Int32} {S_askedBits : Nat → Int32} {S_first : Nat → Int32} {S_foundSo : Nat → Int32} {S_foundNot : Nat → Int32} {S_fought : Nat → Int32} {S_needed : Nat → Int32} {chg_done : Int32} {chg_size : Int32} {chg_sorts : Nat → Int32} {chg_numbers : Nat → Int32} {chg_befores : Nat → Int32} {chg_afters : Nat → Int32} {x1 x2 : Int32} (hw : WU court_suitCount S_undoneFrom mod_undoneFrom) (hy : WU court_suitCount S_day mod_suitDay) (hdy : ∀ i, i < court_suitCount.toInt.toNat → 0 ≤ (S_day i).toInt) (hn : 0 ≤ court_suitCount.toInt ∧ court_suitCount.toInt ≤ 40) (hc : 0 ≤ court_shoeCount.toInt ∧ court_shoeCount.toInt ≤ 40) (hd : 0 ≤ chg_done.toInt ∧ chg_done.toInt ≤ 40) (hsz : chg_size.toInt = chg_done.toInt + mod_undoneMany.toInt) (hu : 0 ≤ mod_undoneMany.toInt ∧ chg_size.toInt ≤ 40) (hV : CV chg_size court_shoeCount court_suitCount chg_sorts chg_numbers) {R : Int32 × (Nat → Int32) × Int32 × Int32 × (Nat → Int32) × (Nat → Int32) × (Nat → Int32) × (Nat → Int32) × (Nat → Int32) × (Nat → Int32)} {Q : Int32 × Int32 × Int32 × (Nat → Int32) × (Nat → Int32) × (Nat → Int32) × (Nat → Int32) × (Nat → Int32) × (Nat → Int32) × (Nat → Int32)} (h : f_X11_undone x1 x2 court_shoeCount court_claimCount court_suitCount court_shoeDay court_suits chg_done chg_size chg_sorts chg_numbers chg_befores chg_afters S_who S_against S_kind S_won S_day S_land S_undoneFrom S_asked S_askedCount S_askedBits S_first S_foundSo S_foundNot S_fought S_needed = some R) (k : f_X12_undone x1 x2 mod_code court_shoeCount mod_claims ts at_ f court_suitCount chg_done mod_undoneMany mod_open mod_laid mod_isBoth mod_wished mod_bestMany mod_bestRow mod_ringDigits mod_traces mod_shoeDay mod_isWon mod_suitDay mod_undoneFrom chg_sorts chg_numbers chg_befores chg_afters = some Q) : R.1 = Q.1 ∧ R.2.2.1 = Q.2.1 ∧ R.2.2.2.1.toInt = Q.2.1.toInt + Q.2.2.1.toInt ∧ R.2.2.2.2.1 = Q.2.2.2.2.2.2.1 ∧ R.2.2.2.2.2.1 = Q.2.2.2.2.2.2.2.1 ∧ R.2.2.2.2.2.2.1 = Q.2.2.2.2.2.2.2.2.1 ∧ R.2.2.2.2.2.2.2.1 = Q.2.2.2.2.2.2.2.2.2 ∧ CV R.2.2.2.1 court_shoeCount court_suitCount R.2.2.2.2.1 R.2.2.2.2.2.1 ∧ (court_shoeDay = mod_shoeDay → R.2.1 = Q.2.2.2.1) ∧ (WU court_suitCount S_won mod_isWon → WU court_suitCount R.2.2.2.2.2.2.2.2.1 Q.2.2.2.2.1) ∧ (WU court_suitCount S_undoneFrom mod_undoneFrom → WU court_suitCount R.2.2.2.2.2.2.2.2.2 Q.2.2.2.2.2.1) := by
  have hn1 := i32_m1 (a := court_suitCount) (by omega)
  have hc1 := i32_m1 (a := court_shoeCount) (by omega)
  unfold f_X11_undone at h
  unfold f_X12_undone at k
  unfold B_X11_undone_0 at h
  replace h := zk_o2 h
  obtain ⟨cv1, cv2, ch3, h⟩ := h
  unfold f_X2_suitAt at ch3
  unfold B_X2_suitAt_0 at ch3
  by_cases cc4 : x1 < 0
  · have ch3 := zk_t cc4 ch3
    have cc4n := cc4
    (try simp only [i32_lt, i32_le, i32_e, z32_0, z32_1] at cc4n)
    first
    | (exfalso; omega)
    | simp only [Option.some.injEq, Prod.mk.injEq] at ch3
      obtain ⟨rfl, _⟩ := ch3
      replace h := zk_t (by decide) h
      unfold B_X12_undone_0 at k
      replace k := zk_o2 k
      obtain ⟨mv1, mv2, mh3, k⟩ := k
      unfold f_X12_isSuit at mh3
      unfold B_X12_isSuit_0 at mh3
      obtain ⟨mv4, mv5, mh6, mh3⟩ := zk_o2 mh3
      unfold f_X12_in at mh6
      unfold B_X12_in_0 at mh6
      have mh6 := zk_t cc4 mh6
      simp only [Option.some.injEq, Prod.mk.injEq] at mh6
      obtain ⟨rfl, _⟩ := mh6
      obtain ⟨_, mh3⟩ := zk_gd mh3
      simp only [Option.some.injEq, Prod.mk.injEq] at mh3
      obtain ⟨rfl, _⟩ := mh3
      replace k := zk_t rfl k
      replace h := Option.some.inj h
      replace k := Option.some.inj k
      subst h
      subst k
      try dsimp only
      all_goals first
      | (exfalso; omega)
      | exact ⟨rfl, rfl, hsz, rfl, rfl, rfl, rfl, hV, fun e => e, fun w => w, fun w => w⟩
  · have ch3 := zk_f cc4 ch3
    have cc4n := cc4
    (try simp only [i32_lt, i32_le, i32_e, z32_0, z32_1] at cc4n)
    first
    | (exfalso; omega)
    | by_cases cc5 : court_suitCount ≤ x1
      · have ch3 := zk_t cc5 ch3
        have cc5n := cc5
        (try simp only [i32_lt, i32_le, i32_e, z32_0, z32_1] at cc5n)
        first
        | (exfalso; omega)
        | simp only [Option.some.injEq, Prod.mk.injEq] at ch3
          obtain ⟨rfl, _⟩ := ch3
          replace h := zk_t (by decide) h
          unfold B_X12_undone_0 at k
          replace k := zk_o2 k
          obtain ⟨mv7, mv8, mh9, k⟩ := k
          unfold f_X12_isSuit at mh9
          unfold B_X12_isSuit_0 at mh9
          obtain ⟨mv10, mv11, mh12, mh9⟩ := zk_o2 mh9
          unfold f_X12_in at mh12
          unfold B_X12_in_0 at mh12
          have mh12 := zk_f cc4 mh12
          have mh12 := zk_t (by (try simp only [i32_lt, i32_le, i32_e, z32_0, z32_1]); omega) mh12
          simp only [Option.some.injEq, Prod.mk.injEq] at mh12
          obtain ⟨rfl, _⟩ := mh12
          obtain ⟨_, mh9⟩ := zk_gd mh9
          simp only [Option.some.injEq, Prod.mk.injEq] at mh9
          obtain ⟨rfl, _⟩ := mh9
          replace k := zk_t rfl k
          replace h := Option.some.inj h
          replace k := Option.some.inj k
          subst h
          subst k
          try dsimp only
          all_goals first
          | (exfalso; omega)
          | exact ⟨rfl, rfl, hsz, rfl, rfl, rfl, rfl, hV, fun e => e, fun w => w, fun w => w⟩
      · have ch3 := zk_f cc5 ch3
        have cc5n := cc5
        (try simp only [i32_lt, i32_le, i32_e, z32_0, z32_1] at cc5n)
        first
        | (exfalso; omega)
        | obtain ⟨_, ch3⟩ := zk_gd ch3
          obtain ⟨_, ch3⟩ := zk_gd ch3
          obtain ⟨_, ch3⟩ := zk_gd ch3
          simp only [Option.some.injEq, Prod.mk.injEq] at ch3
          obtain ⟨rfl, _⟩ := ch3
          replace h := zk_f cc4 h
          replace h := zk_o2 h
          obtain ⟨cv6, cv7, ch8, h⟩ := h
          unfold f_X11_isDay at ch8
          unfold B_X11_isDay_0 at ch8
          by_cases cc9 : x2 < 0
          · have ch8 := zk_t cc9 ch8
            have cc9n := cc9
            (try simp only [i32_lt, i32_le, i32_e, z32_0, z32_1] at cc9n)
            first
            | (exfalso; omega)
            | simp only [Option.some.injEq, Prod.mk.injEq] at ch8
              obtain ⟨rfl, _⟩ := ch8
              replace h := zk_t rfl h
              have hx1 : x1.toNatClampNeg < court_suitCount.toInt.toNat := by rw [tcn]; omega
              have hw1 : (S_undoneFrom x1.toNatClampNeg).toInt = (mod_undoneFrom x1.toNatClampNeg).toInt := by rw [hw _ hx1]
              have hy1 : (S_day x1.toNatClampNeg).toInt = (mod_suitDay x1.toNatClampNeg).toInt := by rw [hy _ hx1]
              have hdd := hdy _ hx1
              unfold B_X12_undone_0 at k
              replace k := zk_o2 k
              obtain ⟨mv13, mv14, mh15, k⟩ := k
              unfold f_X12_isSuit at mh15
              unfold B_X12_isSuit_0 at mh15
              obtain ⟨mv16, mv17, mh18, mh15⟩ := zk_o2 mh15
              unfold f_X12_in at mh18
              unfold B_X12_in_0 at mh18
              have mh18 := zk_f cc4 mh18
              have mh18 := zk_f (by (try simp only [i32_lt, i32_le, i32_e, z32_0, z32_1]); omega) mh18
              simp only [Option.some.injEq, Prod.mk.injEq] at mh18
              obtain ⟨rfl, _⟩ := mh18
              obtain ⟨_, mh15⟩ := zk_gd mh15
              simp only [Option.some.injEq, Prod.mk.injEq] at mh15
              obtain ⟨rfl, _⟩ := mh15
              replace k := zk_f (by decide) k
              replace k := zk_gd k
              obtain ⟨_, k⟩ := k
              replace k := zk_o2 k
              obtain ⟨mv19, mv20, mh21, k⟩ := k
              unfold f_X12_in at mh21
              unfold B_X12_in_0 at mh21
              by_cases mc22 : x2 < (mod_suitDay x1.toNatClampNeg)
              · have mh21 := zk_t mc22 mh21
                have mc22n := mc22
                (try simp only [i32_lt, i32_le, i32_e, z32_0, z32_1] at mc22n)
                first
                | (exfalso; omega)
                | simp only [Option.some.injEq, Prod.mk.injEq] at mh21
                  obtain ⟨rfl, _⟩ := mh21
                  replace k := zk_t rfl k
                  replace h := Option.some.inj h
                  replace k := Option.some.inj k
                  subst h
                  subst k
                  try dsimp only
                  all_goals first
                  | (exfalso; omega)
                  | exact ⟨rfl, rfl, hsz, rfl, rfl, rfl, rfl, hV, fun e => e, fun w => w, fun w => w⟩
              · have mh21 := zk_f mc22 mh21
                have mc22n := mc22
                (try simp only [i32_lt, i32_le, i32_e, z32_0, z32_1] at mc22n)
                first
                | (exfalso; omega)
                | have mh21 := zk_f (by (try simp only [i32_lt, i32_le, i32_e, z32_0, z32_1, z32L_9999]); omega) mh21
                  simp only [Option.some.injEq, Prod.mk.injEq] at mh21
                  obtain ⟨rfl, _⟩ := mh21
                  replace k := zk_f (by decide) k
                  replace k := zk_gd k
                  obtain ⟨_, k⟩ := k
                  by_cases mc23 : (mod_undoneFrom x1.toNatClampNeg) < 0
                  · replace k := zk_t mc23 k
                    have mc23n := mc23
                    (try simp only [i32_lt, i32_le, i32_e, z32_0, z32_1] at mc23n)
                    first
                    | (exfalso; omega)
                    | obtain ⟨mv24, mv25, mv26, mv27, mv28, mv29, mv30, mv31, mv32, mv33, mh34, k⟩ := zk_o10 k
                      skip
                      replace h := Option.some.inj h
                      replace k := Option.some.inj k
                      subst h
                      subst k
                      try dsimp only
                      all_goals first
                      | (exfalso; omega)
                      | exact ⟨rfl, rfl, hsz, rfl, rfl, rfl, rfl, hV, fun e => e, fun w => w, fun w => w⟩
                  · replace k := zk_f mc23 k
                    have mc23n := mc23
                    (try simp only [i32_lt, i32_le, i32_e, z32_0, z32_1] at mc23n)
                    first
                    | (exfalso; omega)
                    | have h := Option.some.inj h
                      replace k := Option.some.inj k
                      subst h
                      subst k
                      try dsimp only
                      all_goals first
                      | (exfalso; omega)
                      | exact ⟨rfl, rfl, hsz, rfl, rfl, rfl, rfl, hV, fun e => e, fun w => w, fun w => w⟩
          · have ch8 := zk_f cc9 ch8
            have cc9n := cc9
            (try simp only [i32_lt, i32_le, i32_e, z32_0, z32_1] at cc9n)
            first
            | (exfalso; omega)
            | by_cases cc10 : (10000 : Int32) ≤ x2
              · have ch8 := zk_t cc10 ch8
                have cc10n := cc10
                (try simp only [i32_lt, i32_le, i32_e, z32_0, z32_1, z32L_10000] at cc10n)
                first
                | (exfalso; omega)
                | simp only [Option.some.injEq, Prod.mk.injEq] at ch8
                  obtain ⟨rfl, _⟩ := ch8
                  replace h := zk_t rfl h
                  have hx1 : x1.toNatClampNeg < court_suitCount.toInt.toNat := by rw [tcn]; omega
                  have hw1 : (S_undoneFrom x1.toNatClampNeg).toInt = (mod_undoneFrom x1.toNatClampNeg).toInt := by rw [hw _ hx1]
                  have hy1 : (S_day x1.toNatClampNeg).toInt = (mod_suitDay x1.toNatClampNeg).toInt := by rw [hy _ hx1]
                  have hdd := hdy _ hx1
                  unfold B_X12_undone_0 at k
                  replace k := zk_o2 k
                  obtain ⟨mv35, mv36, mh37, k⟩ := k
                  unfold f_X12_isSuit at mh37
                  unfold B_X12_isSuit_0 at mh37
                  obtain ⟨mv38, mv39, mh40, mh37⟩ := zk_o2 mh37
                  unfold f_X12_in at mh40
                  unfold B_X12_in_0 at mh40
                  have mh40 := zk_f cc4 mh40
                  have mh40 := zk_f (by (try simp only [i32_lt, i32_le, i32_e, z32_0, z32_1]); omega) mh40
                  simp only [Option.some.injEq, Prod.mk.injEq] at mh40
                  obtain ⟨rfl, _⟩ := mh40
                  obtain ⟨_, mh37⟩ := zk_gd mh37
                  simp only [Option.some.injEq, Prod.mk.injEq] at mh37
                  obtain ⟨rfl, _⟩ := mh37
                  replace k := zk_f (by decide) k
                  replace k := zk_gd k
                  obtain ⟨_, k⟩ := k
                  replace k := zk_o2 k
                  obtain ⟨mv41, mv42, mh43, k⟩ := k
                  unfold f_X12_in at mh43
                  unfold B_X12_in_0 at mh43
                  by_cases mc44 : x2 < (mod_suitDay x1.toNatClampNeg)
                  · have mh43 := zk_t mc44 mh43
                    have mc44n := mc44
                    (try simp only [i32_lt, i32_le, i32_e, z32_0, z32_1] at mc44n)
                    first
                    | (exfalso; omega)
                    | simp only [Option.some.injEq, Prod.mk.injEq] at mh43
                      obtain ⟨rfl, _⟩ := mh43
                      replace k := zk_t rfl k
                      replace h := Option.some.inj h
                      replace k := Option.some.inj k
                      subst h
                      subst k
                      try dsimp only
                      all_goals first
                      | (exfalso; omega)
                      | exact ⟨rfl, rfl, hsz, rfl, rfl, rfl, rfl, hV, fun e => e, fun w => w, fun w => w⟩
                  · have mh43 := zk_f mc44 mh43
                    have mc44n := mc44
                    (try simp only [i32_lt, i32_le, i32_e, z32_0, z32_1] at mc44n)
                    first
                    | (exfalso; omega)
                    | have mh43 := zk_t (by (try simp only [i32_lt, i32_le, i32_e, z32_0, z32_1, z32L_9999]); omega) mh43
                      simp only [Option.some.injEq, Prod.mk.injEq] at mh43
                      obtain ⟨rfl, _⟩ := mh43
                      replace k := zk_t rfl k
                      replace h := Option.some.inj h
                      replace k := Option.some.inj k
                      subst h
                      subst k
                      try dsimp only
                      all_goals first
                      | (exfalso; omega)
                      | exact ⟨rfl, rfl, hsz, rfl, rfl, rfl, rfl, hV, fun e => e, fun w => w, fun w => w⟩
              · have ch8 := zk_f cc10 ch8
                have cc10n := cc10
                (try simp only [i32_lt, i32_le, i32_e, z32_0, z32_1, z32L_10000] at cc10n)
                first
                | (exfalso; omega)
                | simp only [Option.some.injEq, Prod.mk.injEq] at ch8
                  obtain ⟨rfl, _⟩ := ch8
                  replace h := zk_f (by decide) h
                  replace h := zk_gd h
                  obtain ⟨_, h⟩ := h
                  by_cases cc11 : (S_day x1.toNatClampNeg) ≤ x2
                  · replace h := zk_t cc11 h
                    have cc11n := cc11
                    (try simp only [i32_lt, i32_le, i32_e, z32_0, z32_1] at cc11n)
                    first
                    | (exfalso; omega)
                    | obtain ⟨_, h⟩ := zk_gd h
                      by_cases cc12 : (S_undoneFrom x1.toNatClampNeg) < 0
                      · replace h := zk_t cc12 h
                        have cc12n := cc12
                        (try simp only [i32_lt, i32_le, i32_e, z32_0, z32_1] at cc12n)
                        first
                        | (exfalso; omega)
                        | obtain ⟨_, h⟩ := zk_gd h
                          replace h := zk_o9 h
                          obtain ⟨cv13, cv14, cv15, cv16, cv17, cv18, cv19, cv20, cv21, ch22, h⟩ := h
                          skip
                          have hx1 : x1.toNatClampNeg < court_suitCount.toInt.toNat := by rw [tcn]; omega
                          have hw1 : (S_undoneFrom x1.toNatClampNeg).toInt = (mod_undoneFrom x1.toNatClampNeg).toInt := by rw [hw _ hx1]
                          have hy1 : (S_day x1.toNatClampNeg).toInt = (mod_suitDay x1.toNatClampNeg).toInt := by rw [hy _ hx1]
                          have hdd := hdy _ hx1
                          unfold B_X12_undone_0 at k
                          replace k := zk_o2 k
                          obtain ⟨mv45, mv46, mh47, k⟩ := k
                          unfold f_X12_isSuit at mh47
                          unfold B_X12_isSuit_0 at mh47
                          obtain ⟨mv48, mv49, mh50, mh47⟩ := zk_o2 mh47
                          unfold f_X12_in at mh50
                          unfold B_X12_in_0 at mh50
                          have mh50 := zk_f cc4 mh50
                          have mh50 := zk_f (by (try simp only [i32_lt, i32_le, i32_e, z32_0, z32_1]); omega) mh50
                          simp only [Option.some.injEq, Prod.mk.injEq] at mh50
                          obtain ⟨rfl, _⟩ := mh50
                          obtain ⟨_, mh47⟩ := zk_gd mh47
                          simp only [Option.some.injEq, Prod.mk.injEq] at mh47
                          obtain ⟨rfl, _⟩ := mh47
                          replace k := zk_f (by decide) k
                          replace k := zk_gd k
                          obtain ⟨_, k⟩ := k
                          replace k := zk_o2 k
                          obtain ⟨mv51, mv52, mh53, k⟩ := k
                          unfold f_X12_in at mh53
                          unfold B_X12_in_0 at mh53
                          by_cases mc54 : x2 < (mod_suitDay x1.toNatClampNeg)
                          · have mh53 := zk_t mc54 mh53
                            have mc54n := mc54
                            (try simp only [i32_lt, i32_le, i32_e, z32_0, z32_1] at mc54n)
                            first
                            | (exfalso; omega)
                            | simp only [Option.some.injEq, Prod.mk.injEq] at mh53
                              obtain ⟨rfl, _⟩ := mh53
                              replace k := zk_t rfl k
                              replace h := Option.some.inj h
                              replace k := Option.some.inj k
                              subst h
                              subst k
                              try dsimp only
                              all_goals first
                              | (exfalso; omega)
                              | exact ⟨rfl, rfl, hsz, rfl, rfl, rfl, rfl, hV, fun e => e, fun w => w, fun w => w⟩
                          · have mh53 := zk_f mc54 mh53
                            have mc54n := mc54
                            (try simp only [i32_lt, i32_le, i32_e, z32_0, z32_1] at mc54n)
                            first
                            | (exfalso; omega)
                            | have mh53 := zk_f (by (try simp only [i32_lt, i32_le, i32_e, z32_0, z32_1, z32L_9999]); omega) mh53
                              simp only [Option.some.injEq, Prod.mk.injEq] at mh53
                              obtain ⟨rfl, _⟩ := mh53
                              replace k := zk_f (by decide) k
                              replace k := zk_gd k
                              obtain ⟨_, k⟩ := k
                              by_cases mc55 : (mod_undoneFrom x1.toNatClampNeg) < 0
                              · replace k := zk_t mc55 k
                                have mc55n := mc55
                                (try simp only [i32_lt, i32_le, i32_e, z32_0, z32_1] at mc55n)
                                first
                                | (exfalso; omega)
                                | obtain ⟨mv56, mv57, mv58, mv59, mv60, mv61, mv62, mv63, mv64, mv65, mh66, k⟩ := zk_o10 k
                                  skip
                                  first
                                  | (exfalso; omega)
                                  | skip
                                    obtain ⟨t0, t1⟩ := pw_make (by decide) (fun z => absurd z (by decide)) (fun _ => by omega) hd hsz hu hV (fun z => absurd z (by decide)) (fun _ => hw _ (by rw [tcn]; omega)) (fun z => absurd z (by decide)) ch22 mh66
                                    replace h := Option.some.inj h
                                    replace k := Option.some.inj k
                                    subst h
                                    subst k
                                    exact ⟨rfl, t1⟩
                              · replace k := zk_f mc55 k
                                have mc55n := mc55
                                (try simp only [i32_lt, i32_le, i32_e, z32_0, z32_1] at mc55n)
                                first
                                | (exfalso; omega)
                                | have h := Option.some.inj h
                                  replace k := Option.some.inj k
                                  subst h
                                  subst k
                                  try dsimp only
                                  all_goals first
                                  | (exfalso; omega)
                                  | exact ⟨rfl, rfl, hsz, rfl, rfl, rfl, rfl, hV, fun e => e, fun w => w, fun w => w⟩
                      · replace h := zk_f cc12 h
                        have cc12n := cc12
                        (try simp only [i32_lt, i32_le, i32_e, z32_0, z32_1] at cc12n)
                        first
                        | (exfalso; omega)
                        | have hx1 : x1.toNatClampNeg < court_suitCount.toInt.toNat := by rw [tcn]; omega
                          have hw1 : (S_undoneFrom x1.toNatClampNeg).toInt = (mod_undoneFrom x1.toNatClampNeg).toInt := by rw [hw _ hx1]
                          have hy1 : (S_day x1.toNatClampNeg).toInt = (mod_suitDay x1.toNatClampNeg).toInt := by rw [hy _ hx1]
                          have hdd := hdy _ hx1
                          unfold B_X12_undone_0 at k
                          replace k := zk_o2 k
                          obtain ⟨mv67, mv68, mh69, k⟩ := k
                          unfold f_X12_isSuit at mh69
                          unfold B_X12_isSuit_0 at mh69
                          obtain ⟨mv70, mv71, mh72, mh69⟩ := zk_o2 mh69
                          unfold f_X12_in at mh72
                          unfold B_X12_in_0 at mh72
                          have mh72 := zk_f cc4 mh72
                          have mh72 := zk_f (by (try simp only [i32_lt, i32_le, i32_e, z32_0, z32_1]); omega) mh72
                          simp only [Option.some.injEq, Prod.mk.injEq] at mh72
                          obtain ⟨rfl, _⟩ := mh72
                          obtain ⟨_, mh69⟩ := zk_gd mh69
                          simp only [Option.some.injEq, Prod.mk.injEq] at mh69
                          obtain ⟨rfl, _⟩ := mh69
                          replace k := zk_f (by decide) k
                          replace k := zk_gd k
                          obtain ⟨_, k⟩ := k
                          replace k := zk_o2 k
                          obtain ⟨mv73, mv74, mh75, k⟩ := k
                          unfold f_X12_in at mh75
                          unfold B_X12_in_0 at mh75
                          by_cases mc76 : x2 < (mod_suitDay x1.toNatClampNeg)
                          · have mh75 := zk_t mc76 mh75
                            have mc76n := mc76
                            (try simp only [i32_lt, i32_le, i32_e, z32_0, z32_1] at mc76n)
                            first
                            | (exfalso; omega)
                            | simp only [Option.some.injEq, Prod.mk.injEq] at mh75
                              obtain ⟨rfl, _⟩ := mh75
                              replace k := zk_t rfl k
                              replace h := Option.some.inj h
                              replace k := Option.some.inj k
                              subst h
                              subst k
                              try dsimp only
                              all_goals first
                              | (exfalso; omega)
                              | exact ⟨rfl, rfl, hsz, rfl, rfl, rfl, rfl, hV, fun e => e, fun w => w, fun w => w⟩
                          · have mh75 := zk_f mc76 mh75
                            have mc76n := mc76
                            (try simp only [i32_lt, i32_le, i32_e, z32_0, z32_1] at mc76n)
                            first
                            | (exfalso; omega)
                            | have mh75 := zk_f (by (try simp only [i32_lt, i32_le, i32_e, z32_0, z32_1, z32L_9999]); omega) mh75
                              simp only [Option.some.injEq, Prod.mk.injEq] at mh75
                              obtain ⟨rfl, _⟩ := mh75
                              replace k := zk_f (by decide) k
                              replace k := zk_gd k
                              obtain ⟨_, k⟩ := k
                              by_cases mc77 : (mod_undoneFrom x1.toNatClampNeg) < 0
                              · replace k := zk_t mc77 k
                                have mc77n := mc77
                                (try simp only [i32_lt, i32_le, i32_e, z32_0, z32_1] at mc77n)
                                first
                                | (exfalso; omega)
                                | obtain ⟨mv78, mv79, mv80, mv81, mv82, mv83, mv84, mv85, mv86, mv87, mh88, k⟩ := zk_o10 k
                                  skip
                                  replace h := Option.some.inj h
                                  replace k := Option.some.inj k
                                  subst h
                                  subst k
                                  try dsimp only
                                  all_goals first
                                  | (exfalso; omega)
                                  | exact ⟨rfl, rfl, hsz, rfl, rfl, rfl, rfl, hV, fun e => e, fun w => w, fun w => w⟩
                              · replace k := zk_f mc77 k
                                have mc77n := mc77
                                (try simp only [i32_lt, i32_le, i32_e, z32_0, z32_1] at mc77n)
                                first
                                | (exfalso; omega)
                                | have h := Option.some.inj h
                                  replace k := Option.some.inj k
                                  subst h
                                  subst k
                                  try dsimp only
                                  all_goals first
                                  | (exfalso; omega)
                                  | exact ⟨rfl, rfl, hsz, rfl, rfl, rfl, rfl, hV, fun e => e, fun w => w, fun w => w⟩
                  · replace h := zk_f cc11 h
                    have cc11n := cc11
                    (try simp only [i32_lt, i32_le, i32_e, z32_0, z32_1] at cc11n)
                    first
                    | (exfalso; omega)
                    | have hx1 : x1.toNatClampNeg < court_suitCount.toInt.toNat := by rw [tcn]; omega
                      have hw1 : (S_undoneFrom x1.toNatClampNeg).toInt = (mod_undoneFrom x1.toNatClampNeg).toInt := by rw [hw _ hx1]
                      have hy1 : (S_day x1.toNatClampNeg).toInt = (mod_suitDay x1.toNatClampNeg).toInt := by rw [hy _ hx1]
                      have hdd := hdy _ hx1
                      unfold B_X12_undone_0 at k
                      replace k := zk_o2 k
                      obtain ⟨mv89, mv90, mh91, k⟩ := k
                      unfold f_X12_isSuit at mh91
                      unfold B_X12_isSuit_0 at mh91
                      obtain ⟨mv92, mv93, mh94, mh91⟩ := zk_o2 mh91
                      unfold f_X12_in at mh94
                      unfold B_X12_in_0 at mh94
                      have mh94 := zk_f cc4 mh94
                      have mh94 := zk_f (by (try simp only [i32_lt, i32_le, i32_e, z32_0, z32_1]); omega) mh94
                      simp only [Option.some.injEq, Prod.mk.injEq] at mh94
                      obtain ⟨rfl, _⟩ := mh94
                      obtain ⟨_, mh91⟩ := zk_gd mh91
                      simp only [Option.some.injEq, Prod.mk.injEq] at mh91
                      obtain ⟨rfl, _⟩ := mh91
                      replace k := zk_f (by decide) k
                      replace k := zk_gd k
                      obtain ⟨_, k⟩ := k
                      replace k := zk_o2 k
                      obtain ⟨mv95, mv96, mh97, k⟩ := k
                      unfold f_X12_in at mh97
                      unfold B_X12_in_0 at mh97
                      by_cases mc98 : x2 < (mod_suitDay x1.toNatClampNeg)
                      · have mh97 := zk_t mc98 mh97
                        have mc98n := mc98
                        (try simp only [i32_lt, i32_le, i32_e, z32_0, z32_1] at mc98n)
                        first
                        | (exfalso; omega)
                        | simp only [Option.some.injEq, Prod.mk.injEq] at mh97
                          obtain ⟨rfl, _⟩ := mh97
                          replace k := zk_t rfl k
                          replace h := Option.some.inj h
                          replace k := Option.some.inj k
                          subst h
                          subst k
                          try dsimp only
                          all_goals first
                          | (exfalso; omega)
                          | exact ⟨rfl, rfl, hsz, rfl, rfl, rfl, rfl, hV, fun e => e, fun w => w, fun w => w⟩
                      · have mh97 := zk_f mc98 mh97
                        have mc98n := mc98
                        (try simp only [i32_lt, i32_le, i32_e, z32_0, z32_1] at mc98n)
                        first
                        | (exfalso; omega)
                        | have mh97 := zk_f (by (try simp only [i32_lt, i32_le, i32_e, z32_0, z32_1, z32L_9999]); omega) mh97
                          simp only [Option.some.injEq, Prod.mk.injEq] at mh97
                          obtain ⟨rfl, _⟩ := mh97
                          replace k := zk_f (by decide) k
                          replace k := zk_gd k
                          obtain ⟨_, k⟩ := k
                          by_cases mc99 : (mod_undoneFrom x1.toNatClampNeg) < 0
                          · replace k := zk_t mc99 k
                            have mc99n := mc99
                            (try simp only [i32_lt, i32_le, i32_e, z32_0, z32_1] at mc99n)
                            first
                            | (exfalso; omega)
                            | obtain ⟨mv100, mv101, mv102, mv103, mv104, mv105, mv106, mv107, mv108, mv109, mh110, k⟩ := zk_o10 k
                              skip
                              replace h := Option.some.inj h
                              replace k := Option.some.inj k
                              subst h
                              subst k
                              try dsimp only
                              all_goals first
                              | (exfalso; omega)
                              | exact ⟨rfl, rfl, hsz, rfl, rfl, rfl, rfl, hV, fun e => e, fun w => w, fun w => w⟩
                          · replace k := zk_f mc99 k
                            have mc99n := mc99
                            (try simp only [i32_lt, i32_le, i32_e, z32_0, z32_1] at mc99n)
                            first
                            | (exfalso; omega)
                            | have h := Option.some.inj h
                              replace k := Option.some.inj k
                              subst h
                              subst k
                              try dsimp only
                              all_goals first
                              | (exfalso; omega)
                              | exact ⟨rfl, rfl, hsz, rfl, rfl, rfl, rfl, hV, fun e => e, fun w => w, fun w => w⟩
def OF (a0 a1 a2 a3 a4 a5 a6 a7 a8 a9 b0 b1 b2 b3 b4 b5 b6 b7 b8 b9 : Nat → Int32) : Prop := (∀ j, j < 40 → b0 j = a0 j) ∧ (∀ j, j < 40 → b1 j = a1 j) ∧ (∀ j, j < 40 → b2 j = a2 j) ∧ (∀ j, j < 40 → b3 j = a3 j) ∧ (∀ j, j < 40 → b4 j = a4 j) ∧ (∀ j, j < 40 → b5 j = a5 j) ∧ (∀ j, j < 40 → b6 j = a6 j) ∧ (∀ j, j < 40 → b7 j = a7 j) ∧ (∀ j, j < 40 → b8 j = a8 j) ∧ (∀ j, j < 1280 → b9 j = a9 j)
theorem OF_rf {a0 a1 a2 a3 a4 a5 a6 a7 a8 a9 : Nat → Int32} : OF a0 a1 a2 a3 a4 a5 a6 a7 a8 a9 a0 a1 a2 a3 a4 a5 a6 a7 a8 a9 := ⟨fun _ _ => rfl, fun _ _ => rfl, fun _ _ => rfl, fun _ _ => rfl, fun _ _ => rfl, fun _ _ => rfl, fun _ _ => rfl, fun _ _ => rfl, fun _ _ => rfl, fun _ _ => rfl⟩
theorem OF_tr {a0 a1 a2 a3 a4 a5 a6 a7 a8 a9 b0 b1 b2 b3 b4 b5 b6 b7 b8 b9 c0 c1 c2 c3 c4 c5 c6 c7 c8 c9 : Nat → Int32} (h : OF a0 a1 a2 a3 a4 a5 a6 a7 a8 a9 b0 b1 b2 b3 b4 b5 b6 b7 b8 b9) (h2 : OF b0 b1 b2 b3 b4 b5 b6 b7 b8 b9 c0 c1 c2 c3 c4 c5 c6 c7 c8 c9) : OF a0 a1 a2 a3 a4 a5 a6 a7 a8 a9 c0 c1 c2 c3 c4 c5 c6 c7 c8 c9 := ⟨fun j hj => (h2.1 j hj).trans (h.1 j hj), fun j hj => (h2.2.1 j hj).trans (h.2.1 j hj), fun j hj => (h2.2.2.1 j hj).trans (h.2.2.1 j hj), fun j hj => (h2.2.2.2.1 j hj).trans (h.2.2.2.1 j hj), fun j hj => (h2.2.2.2.2.1 j hj).trans (h.2.2.2.2.1 j hj), fun j hj => (h2.2.2.2.2.2.1 j hj).trans (h.2.2.2.2.2.1 j hj), fun j hj => (h2.2.2.2.2.2.2.1 j hj).trans (h.2.2.2.2.2.2.1 j hj), fun j hj => (h2.2.2.2.2.2.2.2.1 j hj).trans (h.2.2.2.2.2.2.2.1 j hj), fun j hj => (h2.2.2.2.2.2.2.2.2.1 j hj).trans (h.2.2.2.2.2.2.2.2.1 j hj), fun j hj => (h2.2.2.2.2.2.2.2.2.2 j hj).trans (h.2.2.2.2.2.2.2.2.2 j hj)⟩
set_option maxHeartbeats 4000000 in
set_option maxRecDepth 20000 in
theorem to_fr {mod_code : Int32} {court_shoeCount : Int32} {mod_claims : Int32} {ts : Int32} {at_ : Int32} {f : Int32} {court_suitCount : Int32} {mod_doneMany : Int32} {mod_undoneMany : Int32} {mod_open : Int32} {mod_laid : Int32} {mod_isBoth : Int32} {mod_wished : Int32} {mod_bestMany : Int32} {mod_bestRow : Int32} {mod_ringDigits : Int32} {mod_traces : Int32} {mod_claimBy : Nat → Int32} {mod_claimOn : Nat → Int32} {mod_askedMany : Nat → Int32} {mod_asked : Nat → Int32} {mod_endKind : Nat → Int32} {mod_isWon : Nat → Int32} {mod_firstMany : Nat → Int32} {mod_suedBy : Nat → Int32} {mod_suedOn : Nat → Int32} {mod_suitDay : Nat → Int32} {mod_suitLand : Nat → Int32} {mod_undoneFrom : Nat → Int32} {mod_wishClaim : Nat → Int32} {mod_wishWon : Nat → Int32} {x1 x2 x3 x4 : Int32} {R : (Nat → Int32) × (Nat → Int32) × (Nat → Int32) × (Nat → Int32) × (Nat → Int32) × (Nat → Int32) × (Nat → Int32) × (Nat → Int32) × (Nat → Int32) × (Nat → Int32)} (h0 : 0 ≤ x2.toInt ∧ x2.toInt ≤ 100) (h : f_X12_tryOut x1 x2 x3 x4 mod_code court_shoeCount mod_claims ts at_ f court_suitCount mod_doneMany mod_undoneMany mod_open mod_laid mod_isBoth mod_wished mod_bestMany mod_bestRow mod_ringDigits mod_traces mod_claimBy mod_claimOn mod_suedBy mod_suedOn mod_endKind mod_isWon mod_suitDay mod_suitLand mod_undoneFrom mod_askedMany mod_firstMany mod_asked mod_wishClaim mod_wishWon = some R) : OF mod_suedBy mod_suedOn mod_endKind mod_isWon mod_suitDay mod_suitLand mod_undoneFrom mod_askedMany mod_firstMany mod_asked R.1 R.2.1 R.2.2.1 R.2.2.2.1 R.2.2.2.2.1 R.2.2.2.2.2.1 R.2.2.2.2.2.2.1 R.2.2.2.2.2.2.2.1 R.2.2.2.2.2.2.2.2.1 R.2.2.2.2.2.2.2.2.2 ∧ x2.toInt ≤ 4 := by
  unfold f_X12_tryOut at h
  unfold B_X12_tryOut_0 at h
  replace h := zk_lt h
  obtain ⟨cv1, ce2, h⟩ := h
  subst ce2
  replace h := zk_gd h
  obtain ⟨g3, h⟩ := h
  replace h := zk_lt h
  obtain ⟨cv3, ce4, h⟩ := h
  subst ce4
  replace h := zk_gd h
  obtain ⟨g6, h⟩ := h
  replace h := zk_lt h
  obtain ⟨cv5, ce6, h⟩ := h
  subst ce6
  replace h := zk_gd h
  obtain ⟨g9, h⟩ := h
  replace h := zk_lt h
  obtain ⟨cv7, ce8, h⟩ := h
  subst ce8
  replace h := zk_gd h
  obtain ⟨g12, h⟩ := h
  replace h := zk_lt h
  obtain ⟨cv9, ce10, h⟩ := h
  subst ce10
  replace h := zk_gd h
  obtain ⟨g15, h⟩ := h
  replace h := zk_lt h
  obtain ⟨cv11, ce12, h⟩ := h
  subst ce12
  replace h := zk_gd h
  obtain ⟨g18, h⟩ := h
  replace h := zk_lt h
  obtain ⟨cv13, ce14, h⟩ := h
  subst ce14
  replace h := zk_gd h
  obtain ⟨g21, h⟩ := h
  replace h := zk_lt h
  obtain ⟨cv15, ce16, h⟩ := h
  subst ce16
  replace h := zk_gd h
  obtain ⟨g24, h⟩ := h
  replace h := zk_lt h
  obtain ⟨cv17, ce18, h⟩ := h
  subst ce18
  replace h := zk_gd h
  obtain ⟨g27, h⟩ := h
  replace h := zk_lt h
  obtain ⟨cv19, ce20, h⟩ := h
  subst ce20
  replace h := zk_gd h
  obtain ⟨g30, h⟩ := h
  replace h := zk_lt h
  obtain ⟨cv21, ce22, h⟩ := h
  subst ce22
  replace h := zk_gd h
  obtain ⟨g33, h⟩ := h
  replace h := zk_lt h
  obtain ⟨cv23, ce24, h⟩ := h
  subst ce24
  replace h := zk_gd h
  obtain ⟨g36, h⟩ := h
  replace h := zk_lt h
  obtain ⟨cv25, ce26, h⟩ := h
  subst ce26
  replace h := zk_gd h
  obtain ⟨g39, h⟩ := h
  replace h := zk_lt h
  obtain ⟨cv27, ce28, h⟩ := h
  subst ce28
  replace h := zk_lt h
  obtain ⟨cv29, ce30, h⟩ := h
  subst ce30
  replace h := zk_gd h
  obtain ⟨g44, h⟩ := h
  replace h := zk_lt h
  obtain ⟨cv31, ce32, h⟩ := h
  subst ce32
  have g := g39
  have e40 : ((40 : Int32) + x2).toInt = 40 + x2.toInt := by rw [i32_a (by decide) (by omega), z32L_40]
  have g2 : ((40 : Int32) + x2).toNatClampNeg < 45 := by
    by_cases c : ((40 : Int32) + x2).toNatClampNeg < 45
    · exact c
    · exact absurd (Or.inr (by omega)) g
  have et : ((40 : Int32) + x2).toNatClampNeg = ((40 : Int32) + x2).toInt.toNat := rfl
  have e32 : ((32 : Int32) * ((40 : Int32) + x2)).toInt = 32 * (40 + x2.toInt) := by
    rw [Int32.toInt_mul, z32L_32, e40]
    exact zi_bm2 (by omega) (by omega)
  have et2 : ((32 : Int32) * ((40 : Int32) + x2)).toNatClampNeg = ((32 : Int32) * ((40 : Int32) + x2)).toInt.toNat := rfl
  replace h := Option.some.inj h
  subst h
  exact ⟨⟨fun j hj => upd_n (by omega), fun j hj => upd_n (by omega), fun j hj => upd_n (by omega), fun j hj => upd_n (by omega), fun j hj => upd_n (by omega), fun j hj => upd_n (by omega), fun j hj => upd_n (by omega), fun j hj => upd_n (by omega), fun j hj => upd_n (by omega), fun j hj => upd_n (by omega)⟩, by omega⟩
set_option maxHeartbeats 4000000 in
set_option maxRecDepth 20000 in
theorem of_loop  {r : Int32 → Int32 → Int32 → Int32 → Int32 → Int32 → Int32 → Int32 → Int32 → Int32 → Int32 → Int32 → Int32 → Int32 → Int32 → Int32 → Int32 → Int32 → Int32 → Int32 → Int32 → Int32 → Int32 → (Nat → Int32) → (Nat → Int32) → (Nat → Int32) → (Nat → Int32) → (Nat → Int32) → (Nat → Int32) → (Nat → Int32) → (Nat → Int32) → (Nat → Int32) → (Nat → Int32) → (Nat → Int32) → (Nat → Int32) → (Nat → Int32) → (Nat → Int32) → (Nat → Int32) → (Nat → Int32) → (Nat → Int32) → (Nat → Int32) → (Nat → Int32) → (Nat → Int32) → (Nat → Int32) → (Nat → Int32) → (Nat → Int32) → (Nat → Int32) → (Nat → Int32) → (Nat → Int32) → (Nat → Int32) → (Nat → Int32) → (Nat → Int32) → (Option (Int32 × Int32 × (Nat → Int32) × (Nat → Int32) × (Nat → Int32) × (Nat → Int32) × (Nat → Int32) × (Nat → Int32) × (Nat → Int32) × (Nat → Int32) × (Nat → Int32) × (Nat → Int32) × (Nat → Int32) × (Nat → Int32) × (Nat → Int32) × (Nat → Int32)))} {mod_code : Int32} {court_shoeCount : Int32} {mod_claims : Int32} {ts : Int32} {at_ : Int32} {f : Int32} {court_suitCount : Int32} {mod_doneMany : Int32} {mod_undoneMany : Int32} {mod_open : Int32} {mod_laid : Int32} {mod_isBoth : Int32} {mod_wished : Int32} {mod_ringDigits : Int32} {mod_traces : Int32} {mod_wearer : Nat → Int32} {mod_wornFor : Nat → Int32} {mod_shoeSort : Nat → Int32} {mod_shoeDay : Nat → Int32} {mod_claimBy : Nat → Int32} {mod_claimOn : Nat → Int32} {mod_factOf : Nat → Int32} {mod_pleaOf : Nat → Int32} {mod_act : Nat → Int32} {mod_with : Nat → Int32} {mod_lineMany : Nat → Int32} {mod_testEnd : Nat → Int32} {mod_lineEnd : Nat → Int32} {mod_wishClaim : Nat → Int32} {mod_wishWon : Nat → Int32} (hr : ∀ (x1 : Int32) (x2 : Int32) (x3 : Int32) (x4 : Int32) (x5 : Int32) (x6 : Int32) (mod_code : Int32) (court_shoeCount : Int32) (mod_claims : Int32) (ts : Int32) (at_ : Int32) (f : Int32) (court_suitCount : Int32) (mod_doneMany : Int32) (mod_undoneMany : Int32) (mod_open : Int32) (mod_laid : Int32) (mod_isBoth : Int32) (mod_wished : Int32) (mod_bestMany : Int32) (mod_bestRow : Int32) (mod_ringDigits : Int32) (mod_traces : Int32) (mod_wearer : Nat → Int32) (mod_wornFor : Nat → Int32) (mod_shoeSort : Nat → Int32) (mod_shoeDay : Nat → Int32) (mod_claimBy : Nat → Int32) (mod_claimOn : Nat → Int32) (mod_factOf : Nat → Int32) (mod_pleaOf : Nat → Int32) (mod_suedBy : Nat → Int32) (mod_suedOn : Nat → Int32) (mod_endKind : Nat → Int32) (mod_isWon : Nat → Int32) (mod_suitDay : Nat → Int32) (mod_suitLand : Nat → Int32) (mod_undoneFrom : Nat → Int32) (mod_askedMany : Nat → Int32) (mod_firstMany : Nat → Int32) (mod_asked : Nat → Int32) (mod_act : Nat → Int32) (mod_with : Nat → Int32) (mod_lineMany : Nat → Int32) (mod_testEnd : Nat → Int32) (mod_lineEnd : Nat → Int32) (mod_facts : Nat → Int32) (mod_pile : Nat → Int32) (mod_doesBind : Nat → Int32) (mod_boundAs : Nat → Int32) (mod_wishClaim : Nat → Int32) (mod_wishWon : Nat → Int32) (R : Int32 × Int32 × (Nat → Int32) × (Nat → Int32) × (Nat → Int32) × (Nat → Int32) × (Nat → Int32) × (Nat → Int32) × (Nat → Int32) × (Nat → Int32) × (Nat → Int32) × (Nat → Int32) × (Nat → Int32) × (Nat → Int32) × (Nat → Int32) × (Nat → Int32)), 0 ≤ x4.toInt → x4.toInt ≤ 100 → r x1 x2 x3 x4 x5 x6 mod_code court_shoeCount mod_claims ts at_ f court_suitCount mod_doneMany mod_undoneMany mod_open mod_laid mod_isBoth mod_wished mod_bestMany mod_bestRow mod_ringDigits mod_traces mod_wearer mod_wornFor mod_shoeSort mod_shoeDay mod_claimBy mod_claimOn mod_factOf mod_pleaOf mod_suedBy mod_suedOn mod_endKind mod_isWon mod_suitDay mod_suitLand mod_undoneFrom mod_askedMany mod_firstMany mod_asked mod_act mod_with mod_lineMany mod_testEnd mod_lineEnd mod_facts mod_pile mod_doesBind mod_boundAs mod_wishClaim mod_wishWon = some R → OF mod_suedBy mod_suedOn mod_endKind mod_isWon mod_suitDay mod_suitLand mod_undoneFrom mod_askedMany mod_firstMany mod_asked R.2.2.1 R.2.2.2.1 R.2.2.2.2.1 R.2.2.2.2.2.1 R.2.2.2.2.2.2.1 R.2.2.2.2.2.2.2.1 R.2.2.2.2.2.2.2.2.1 R.2.2.2.2.2.2.2.2.2.1 R.2.2.2.2.2.2.2.2.2.2.1 R.2.2.2.2.2.2.2.2.2.2.2.1) : ∀ (N : Nat) (x1 : Int32) (x2 : Int32) (x3 : Int32) (x4 : Int32) (x5 : Int32) (x6 : Int32) (x7 : Int32) (mod_bestMany : Int32) (mod_bestRow : Int32) (mod_suedBy : Nat → Int32) (mod_suedOn : Nat → Int32) (mod_endKind : Nat → Int32) (mod_isWon : Nat → Int32) (mod_suitDay : Nat → Int32) (mod_suitLand : Nat → Int32) (mod_undoneFrom : Nat → Int32) (mod_askedMany : Nat → Int32) (mod_firstMany : Nat → Int32) (mod_asked : Nat → Int32) (mod_facts : Nat → Int32) (mod_pile : Nat → Int32) (mod_doesBind : Nat → Int32) (mod_boundAs : Nat → Int32) (R : Int32 × Int32 × (Nat → Int32) × (Nat → Int32) × (Nat → Int32) × (Nat → Int32) × (Nat → Int32) × (Nat → Int32) × (Nat → Int32) × (Nat → Int32) × (Nat → Int32) × (Nat → Int32) × (Nat → Int32) × (Nat → Int32) × (Nat → Int32) × (Nat → Int32)), 0 ≤ x4.toInt → x4.toInt ≤ 100 → G_X12_orders r mod_code court_shoeCount mod_claims ts at_ f court_suitCount mod_doneMany mod_undoneMany mod_open mod_laid mod_isBoth mod_wished mod_ringDigits mod_traces mod_wearer mod_wornFor mod_shoeSort mod_shoeDay mod_claimBy mod_claimOn mod_factOf mod_pleaOf mod_act mod_with mod_lineMany mod_testEnd mod_lineEnd mod_wishClaim mod_wishWon N x1 x2 x3 x4 x5 x6 x7 mod_bestMany mod_bestRow mod_suedBy mod_suedOn mod_endKind mod_isWon mod_suitDay mod_suitLand mod_undoneFrom mod_askedMany mod_firstMany mod_asked mod_facts mod_pile mod_doesBind mod_boundAs = some R → OF mod_suedBy mod_suedOn mod_endKind mod_isWon mod_suitDay mod_suitLand mod_undoneFrom mod_askedMany mod_firstMany mod_asked R.2.2.1 R.2.2.2.1 R.2.2.2.2.1 R.2.2.2.2.2.1 R.2.2.2.2.2.2.1 R.2.2.2.2.2.2.2.1 R.2.2.2.2.2.2.2.2.1 R.2.2.2.2.2.2.2.2.2.1 R.2.2.2.2.2.2.2.2.2.2.1 R.2.2.2.2.2.2.2.2.2.2.2.1 := by
  intro N
  induction N with
  | zero =>
    intro x1 x2 x3 x4 x5 x6 x7 mod_bestMany mod_bestRow mod_suedBy mod_suedOn mod_endKind mod_isWon mod_suitDay mod_suitLand mod_undoneFrom mod_askedMany mod_firstMany mod_asked mod_facts mod_pile mod_doesBind mod_boundAs R h0 h1 h
    cases h
  | succ N ih =>
    intro x1 x2 x3 x4 x5 x6 x7 mod_bestMany mod_bestRow mod_suedBy mod_suedOn mod_endKind mod_isWon mod_suitDay mod_suitLand mod_undoneFrom mod_askedMany mod_firstMany mod_asked mod_facts mod_pile mod_doesBind mod_boundAs R h0 h1 h
    replace h : B_X12_orders_40 r (G_X12_orders r mod_code court_shoeCount mod_claims ts at_ f court_suitCount mod_doneMany mod_undoneMany mod_open mod_laid mod_isBoth mod_wished mod_ringDigits mod_traces mod_wearer mod_wornFor mod_shoeSort mod_shoeDay mod_claimBy mod_claimOn mod_factOf mod_pleaOf mod_act mod_with mod_lineMany mod_testEnd mod_lineEnd mod_wishClaim mod_wishWon N) mod_code court_shoeCount mod_claims ts at_ f court_suitCount mod_doneMany mod_undoneMany mod_open mod_laid mod_isBoth mod_wished mod_ringDigits mod_traces mod_wearer mod_wornFor mod_shoeSort mod_shoeDay mod_claimBy mod_claimOn mod_factOf mod_pleaOf mod_act mod_with mod_lineMany mod_testEnd mod_lineEnd mod_wishClaim mod_wishWon x1 x2 x3 x4 x5 x6 x7 mod_bestMany mod_bestRow mod_suedBy mod_suedOn mod_endKind mod_isWon mod_suitDay mod_suitLand mod_undoneFrom mod_askedMany mod_firstMany mod_asked mod_facts mod_pile mod_doesBind mod_boundAs = some R := h
    have hs4 := i32_s (a := x4) (by omega)
    unfold B_X12_orders_40 at h
    by_cases cc1 : mod_wished ≤ x7
    · replace h := zk_t cc1 h
      have cc1n := cc1
      (try simp only [i32_lt, i32_le, i32_e, z32_0, z32_1] at cc1n)
      replace h := Option.some.inj h
      subst h
      exact OF_rf
    · replace h := zk_f cc1 h
      have cc1n := cc1
      (try simp only [i32_lt, i32_le, i32_e, z32_0, z32_1] at cc1n)
      by_cases cc2 : ((x2 >>> (x7 &&& 31)) &&& (1 : Int32)) = (1 : Int32)
      · replace h := zk_t cc2 h
        have cc2n := cc2
        (try simp only [i32_lt, i32_le, i32_e, z32_0, z32_1, z32L_31] at cc2n)
        unfold B_X12_orders_182 at h
        replace h := zk_lt h
        obtain ⟨cv3, ce4, h⟩ := h
        subst ce4
        exact OF_tr OF_rf (ih _ _ _ _ _ _ _ _ _ _ _ _ _ _ _ _ _ _ _ _ _ _ _ R h0 h1 h)
      · replace h := zk_f cc2 h
        have cc2n := cc2
        (try simp only [i32_lt, i32_le, i32_e, z32_0, z32_1, z32L_31] at cc2n)
        replace h := zk_gd h
        obtain ⟨_, h⟩ := h
        replace h := zk_lt h
        obtain ⟨cv5, ce6, h⟩ := h
        subst ce6
        replace h := zk_o4 h
        obtain ⟨cv7, cv8, cv9, cv10, ch11, h⟩ := h
        skip
        replace h := zk_gd h
        obtain ⟨_, h⟩ := h
        replace h := zk_gd h
        obtain ⟨_, h⟩ := h
        replace h := zk_o3 h
        obtain ⟨cv12, cv13, cv14, ch15, h⟩ := h
        skip
        by_cases cc16 : cv12 = (-2 : Int32)
        · replace h := zk_t cc16 h
          have cc16n := cc16
          (try simp only [i32_lt, i32_le, i32_e, z32_0, z32_1, z32N_2, z32L_2] at cc16n)
          unfold B_X12_orders_121 at h
          replace h := zk_t rfl h
          replace h := zk_o10 h
          obtain ⟨cv17, cv18, cv19, cv20, cv21, cv22, cv23, cv24, cv25, cv26, ch27, h⟩ := h
          obtain ⟨ck28, ck29⟩ := to_fr ⟨h0, h1⟩ ch27
          have ck30 := OF_tr OF_rf ck28
          unfold B_X12_orders_142 at h
          replace h := zk_t rfl h
          unfold B_X12_orders_175 at h
          replace h := zk_o16 h
          obtain ⟨cv31, cv32, cv33, cv34, cv35, cv36, cv37, cv38, cv39, cv40, cv41, cv42, cv43, cv44, cv45, cv46, ch47, h⟩ := h
          obtain ck48 := hr _ _ _ _ _ _ _ _ _ _ _ _ _ _ _ _ _ _ _ _ _ _ _ _ _ _ _ _ _ _ _ _ _ _ _ _ _ _ _ _ _ _ _ _ _ _ _ _ _ _ _ _ _ (by omega) (by omega) ch47
          have ck49 := OF_tr ck30 ck48
          unfold B_X12_orders_182 at h
          replace h := zk_lt h
          obtain ⟨cv50, ce51, h⟩ := h
          subst ce51
          exact OF_tr ck49 (ih _ _ _ _ _ _ _ _ _ _ _ _ _ _ _ _ _ _ _ _ _ _ _ R h0 h1 h)
        · replace h := zk_f cc16 h
          have cc16n := cc16
          (try simp only [i32_lt, i32_le, i32_e, z32_0, z32_1, z32N_2, z32L_2] at cc16n)
          unfold B_X12_orders_121 at h
          replace h := zk_f (by decide) h
          unfold B_X12_orders_142 at h
          replace h := zk_f (by decide) h
          unfold B_X12_orders_175 at h
          replace h := zk_o16 h
          obtain ⟨cv52, cv53, cv54, cv55, cv56, cv57, cv58, cv59, cv60, cv61, cv62, cv63, cv64, cv65, cv66, cv67, ch68, h⟩ := h
          obtain ck69 := hr _ _ _ _ _ _ _ _ _ _ _ _ _ _ _ _ _ _ _ _ _ _ _ _ _ _ _ _ _ _ _ _ _ _ _ _ _ _ _ _ _ _ _ _ _ _ _ _ _ _ _ _ _ (by omega) (by omega) ch68
          have ck70 := OF_tr OF_rf ck69
          unfold B_X12_orders_182 at h
          replace h := zk_lt h
          obtain ⟨cv71, ce72, h⟩ := h
          subst ce72
          exact OF_tr ck70 (ih _ _ _ _ _ _ _ _ _ _ _ _ _ _ _ _ _ _ _ _ _ _ _ R h0 h1 h)
