
theorem iu7 : ∀ i, i < 7 → ∀ j, j < 7 → f_X11_isUnder 100000 (Int32.ofNat i) (Int32.ofNat j) = f_X12_isUnder (Int32.ofNat i) (Int32.ofNat j) := by decide +kernel
theorem iu_e {a b r r2 : Int32} {u u2 : Unit} (ha : 0 ≤ a.toInt ∧ a.toInt ≤ 6) (hb : 0 ≤ b.toInt ∧ b.toInt ≤ 6) (h : f_X11_isUnder 100000 a b = some (r, u)) (k : f_X12_isUnder a b = some (r2, u2)) : r2 = r := by
  have e := iu7 a.toInt.toNat (by omega) b.toInt.toNat (by omega)
  rw [← bt_ofn ⟨ha.1, by omega⟩, ← bt_ofn ⟨hb.1, by omega⟩, h, k] at e
  exact (congrArg Prod.fst (Option.some.inj e)).symm
theorem iu_e2 {a a2 b r r2 : Int32} {u u2 : Unit} (ha : 0 ≤ a.toInt ∧ a.toInt ≤ 6) (hb : 0 ≤ b.toInt ∧ b.toInt ≤ 6) (e : a2 = a) (h : f_X11_isUnder 100000 a b = some (r, u)) (k : f_X12_isUnder a2 b = some (r2, u2)) : r2 = r := by
  subst e
  exact iu_e ha hb h k
set_option maxHeartbeats 4000000 in
set_option maxRecDepth 20000 in
theorem pw_taken {mod_code : Int32} {court_shoeCount : Int32} {mod_claims : Int32} {ts : Int32} {at_ : Int32} {f : Int32} {court_suitCount : Int32} {mod_doneMany : Int32} {mod_undoneMany : Int32} {mod_open : Int32} {mod_laid : Int32} {mod_isBoth : Int32} {mod_wished : Int32} {mod_bestMany : Int32} {mod_bestRow : Int32} {mod_ringDigits : Int32} {mod_traces : Int32} {mod_holds : Nat → Int32} {mod_size : Nat → Int32} {mod_elements : Nat → Int64} {mod_endKind : Nat → Int32} {mod_undoneFrom : Nat → Int32} {court_claimCount : Int32} {court_suits : Nat → Option Nat} {S_who : Nat → Int32} {S_against : Nat → Int32} {S_kind : Nat → Int32} {S_won : Nat → Int32} {S_day : Nat → Int32} {S_land : Nat → Int32} {S_undoneFrom : Nat → Int32} {S_asked : Nat → Nat → Int32} {S_askedCount : Nat → Int32} {S_askedBits : Nat → Int32} {S_first : Nat → Int32} {S_foundSo : Nat → Int32} {S_foundNot : Nat → Int32} {S_fought : Nat → Int32} {S_needed : Nat → Int32} {pl_suit : Int32} {pl_holds : Int32} {pl_size : Int32} {pl_elements : Nat → Int64} {root_places : Nat → Option Nat} {x1 x2 : Int32} {j h_pl : Nat} (hj : (¬ x1 < 0 ∧ ¬ 6 ≤ x1) → x1.toNatClampNeg = j) (hP : PLR court_suitCount j pl_holds pl_suit pl_size pl_elements mod_holds mod_size mod_elements) (hn : 0 ≤ court_suitCount.toInt ∧ court_suitCount.toInt ≤ 40) (hK : WU court_suitCount S_kind mod_endKind) (hU : WU court_suitCount S_undoneFrom mod_undoneFrom) (hR : ∀ i, 0 ≤ (S_kind i).toInt ∧ (S_kind i).toInt ≤ 6) {R : Int32 × Unit} {Q : Int32 × Unit} (h : f_X11_taken h_pl x1 x2 root_places court_shoeCount court_claimCount court_suitCount court_suits pl_holds pl_suit pl_size S_who S_against S_kind S_won S_day S_land S_undoneFrom S_asked S_askedCount S_askedBits S_first S_foundSo S_foundNot S_fought S_needed = some R) (k : f_X12_taken x1 x2 mod_code court_shoeCount mod_claims ts at_ f court_suitCount mod_doneMany mod_undoneMany mod_open mod_laid mod_isBoth mod_wished mod_bestMany mod_bestRow mod_ringDigits mod_traces mod_endKind mod_undoneFrom mod_holds = some Q) : R.1 = Q.1 := by
  unfold f_X11_taken at h
  unfold f_X12_taken at k
  unfold B_X11_taken_0 at h
  replace h := zk_o2 h
  obtain ⟨cv1, cv2, ch3, h⟩ := h
  unfold f_X11_placeAt at ch3
  unfold B_X11_placeAt_0 at ch3
  by_cases cc4 : x1 < 0
  · have ch3 := zk_t cc4 ch3
    have cc4n := cc4
    (try simp only [i32_lt, i32_le, i32_e, z32_0, z32_1] at cc4n)
    first
    | (exfalso; omega)
    | simp only [Option.some.injEq, Prod.mk.injEq] at ch3
      obtain ⟨rfl, _⟩ := ch3
      replace h := zk_f (by decide) h
      unfold B_X12_taken_0 at k
      replace k := zk_o2 k
      obtain ⟨mv1, mv2, mh3, k⟩ := k
      unfold f_X12_isShelf at mh3
      unfold B_X12_isShelf_0 at mh3
      obtain ⟨mv4, mv5, mh6, mh3⟩ := zk_o2 mh3
      unfold f_X12_in at mh6
      unfold B_X12_in_0 at mh6
      have mh6 := zk_t cc4 mh6
      simp only [Option.some.injEq, Prod.mk.injEq] at mh6
      obtain ⟨rfl, _⟩ := mh6
      obtain ⟨_, mh3⟩ := zk_gd mh3
      simp only [Option.some.injEq, Prod.mk.injEq] at mh3
      obtain ⟨rfl, _⟩ := mh3
      replace k := zk_t rfl k
      replace h := Option.some.inj h
      replace k := Option.some.inj k
      subst h
      subst k
      try dsimp only
      all_goals first
      | (exfalso; omega)
      | rfl
      | exact ek.symm
  · have ch3 := zk_f cc4 ch3
    have cc4n := cc4
    (try simp only [i32_lt, i32_le, i32_e, z32_0, z32_1] at cc4n)
    first
    | (exfalso; omega)
    | by_cases cc5 : (6 : Int32) ≤ x1
      · have ch3 := zk_t cc5 ch3
        have cc5n := cc5
        (try simp only [i32_lt, i32_le, i32_e, z32_0, z32_1, z32L_6] at cc5n)
        first
        | (exfalso; omega)
        | simp only [Option.some.injEq, Prod.mk.injEq] at ch3
          obtain ⟨rfl, _⟩ := ch3
          replace h := zk_f (by decide) h
          unfold B_X12_taken_0 at k
          replace k := zk_o2 k
          obtain ⟨mv7, mv8, mh9, k⟩ := k
          unfold f_X12_isShelf at mh9
          unfold B_X12_isShelf_0 at mh9
          obtain ⟨mv10, mv11, mh12, mh9⟩ := zk_o2 mh9
          unfold f_X12_in at mh12
          unfold B_X12_in_0 at mh12
          have mh12 := zk_f cc4 mh12
          have mh12 := zk_t (by (try simp only [i32_lt, i32_le, i32_e, z32_0, z32_1, z32L_5]); omega) mh12
          simp only [Option.some.injEq, Prod.mk.injEq] at mh12
          obtain ⟨rfl, _⟩ := mh12
          obtain ⟨_, mh9⟩ := zk_gd mh9
          simp only [Option.some.injEq, Prod.mk.injEq] at mh9
          obtain ⟨rfl, _⟩ := mh9
          replace k := zk_t rfl k
          replace h := Option.some.inj h
          replace k := Option.some.inj k
          subst h
          subst k
          try dsimp only
          all_goals first
          | (exfalso; omega)
          | rfl
          | exact ek.symm
      · have ch3 := zk_f cc5 ch3
        have cc5n := cc5
        (try simp only [i32_lt, i32_le, i32_e, z32_0, z32_1, z32L_6] at cc5n)
        first
        | (exfalso; omega)
        | obtain ⟨_, ch3⟩ := zk_gd ch3
          obtain ⟨_, ch3⟩ := zk_gd ch3
          simp only [Option.some.injEq, Prod.mk.injEq] at ch3
          obtain ⟨rfl, _⟩ := ch3
          replace h := zk_t (by decide) h
          by_cases cc6 : x2 < 0
          · replace h := zk_t cc6 h
            have cc6n := cc6
            (try simp only [i32_lt, i32_le, i32_e, z32_0, z32_1] at cc6n)
            first
            | (exfalso; omega)
            | have hjj := hj ⟨cc4, cc5⟩
              subst hjj
              obtain ⟨⟨hs1, hs2, hs3⟩, he, hd⟩ := id hP
              unfold B_X12_taken_0 at k
              replace k := zk_o2 k
              obtain ⟨mv13, mv14, mh15, k⟩ := k
              unfold f_X12_isShelf at mh15
              unfold B_X12_isShelf_0 at mh15
              obtain ⟨mv16, mv17, mh18, mh15⟩ := zk_o2 mh15
              unfold f_X12_in at mh18
              unfold B_X12_in_0 at mh18
              have mh18 := zk_f cc4 mh18
              have mh18 := zk_f (by (try simp only [i32_lt, i32_le, i32_e, z32_0, z32_1, z32L_5]); omega) mh18
              simp only [Option.some.injEq, Prod.mk.injEq] at mh18
              obtain ⟨rfl, _⟩ := mh18
              obtain ⟨_, mh15⟩ := zk_gd mh15
              simp only [Option.some.injEq, Prod.mk.injEq] at mh15
              obtain ⟨rfl, _⟩ := mh15
              replace k := zk_f (by decide) k
              replace k := zk_o2 k
              obtain ⟨mv19, mv20, mh21, k⟩ := k
              unfold f_X12_in at mh21
              unfold B_X12_in_0 at mh21
              have mh21 := zk_t cc6 mh21
              simp only [Option.some.injEq, Prod.mk.injEq] at mh21
              obtain ⟨rfl, _⟩ := mh21
              replace k := zk_t rfl k
              replace h := Option.some.inj h
              replace k := Option.some.inj k
              subst h
              subst k
              try dsimp only
              all_goals first
              | (exfalso; omega)
              | rfl
              | exact ek.symm
          · replace h := zk_f cc6 h
            have cc6n := cc6
            (try simp only [i32_lt, i32_le, i32_e, z32_0, z32_1] at cc6n)
            first
            | (exfalso; omega)
            | by_cases cc7 : x2 < (7 : Int32)
              · replace h := zk_t cc7 h
                have cc7n := cc7
                (try simp only [i32_lt, i32_le, i32_e, z32_0, z32_1, z32L_7] at cc7n)
                first
                | (exfalso; omega)
                | by_cases cc8 : pl_holds = (-1 : Int32)
                  · replace h := zk_t cc8 h
                    have cc8n := cc8
                    (try simp only [i32_lt, i32_le, i32_e, z32_0, z32_1, z32N_1] at cc8n)
                    first
                    | (exfalso; omega)
                    | have hjj := hj ⟨cc4, cc5⟩
                      subst hjj
                      obtain ⟨⟨hs1, hs2, hs3⟩, he, hd⟩ := id hP
                      unfold B_X12_taken_0 at k
                      replace k := zk_o2 k
                      obtain ⟨mv22, mv23, mh24, k⟩ := k
                      unfold f_X12_isShelf at mh24
                      unfold B_X12_isShelf_0 at mh24
                      obtain ⟨mv25, mv26, mh27, mh24⟩ := zk_o2 mh24
                      unfold f_X12_in at mh27
                      unfold B_X12_in_0 at mh27
                      have mh27 := zk_f cc4 mh27
                      have mh27 := zk_f (by (try simp only [i32_lt, i32_le, i32_e, z32_0, z32_1, z32L_5]); omega) mh27
                      simp only [Option.some.injEq, Prod.mk.injEq] at mh27
                      obtain ⟨rfl, _⟩ := mh27
                      obtain ⟨_, mh24⟩ := zk_gd mh24
                      simp only [Option.some.injEq, Prod.mk.injEq] at mh24
                      obtain ⟨rfl, _⟩ := mh24
                      replace k := zk_f (by decide) k
                      replace k := zk_o2 k
                      obtain ⟨mv28, mv29, mh30, k⟩ := k
                      unfold f_X12_in at mh30
                      unfold B_X12_in_0 at mh30
                      have mh30 := zk_f cc6 mh30
                      have mh30 := zk_f (by (try simp only [i32_lt, i32_le, i32_e, z32_0, z32_1, z32L_6]); omega) mh30
                      simp only [Option.some.injEq, Prod.mk.injEq] at mh30
                      obtain ⟨rfl, _⟩ := mh30
                      replace k := zk_f (by decide) k
                      replace k := zk_gd k
                      obtain ⟨_, k⟩ := k
                      by_cases mc31 : (mod_holds x1.toNatClampNeg) = (-1 : Int32)
                      · replace k := zk_t mc31 k
                        have mc31n := mc31
                        (try simp only [i32_lt, i32_le, i32_e, z32_0, z32_1, z32N_1] at mc31n)
                        first
                        | (exfalso; omega)
                        | have h := Option.some.inj h
                          replace k := Option.some.inj k
                          subst h
                          subst k
                          try dsimp only
                          all_goals first
                          | (exfalso; omega)
                          | rfl
                          | exact ek.symm
                      · replace k := zk_f mc31 k
                        have mc31n := mc31
                        (try simp only [i32_lt, i32_le, i32_e, z32_0, z32_1, z32N_1] at mc31n)
                        first
                        | (exfalso; omega)
                        | obtain ⟨_, k⟩ := zk_gd k
                          by_cases mc32 : (mod_holds x1.toNatClampNeg) < 0
                          · replace k := zk_t mc32 k
                            have mc32n := mc32
                            (try simp only [i32_lt, i32_le, i32_e, z32_0, z32_1] at mc32n)
                            first
                            | (exfalso; omega)
                            | have h := Option.some.inj h
                              replace k := Option.some.inj k
                              subst h
                              subst k
                              try dsimp only
                              all_goals first
                              | (exfalso; omega)
                              | rfl
                              | exact ek.symm
                          · replace k := zk_f mc32 k
                            have mc32n := mc32
                            (try simp only [i32_lt, i32_le, i32_e, z32_0, z32_1] at mc32n)
                            first
                            | (exfalso; omega)
                            | obtain ⟨_, k⟩ := zk_gd k
                              replace k := zk_o2 k
                              obtain ⟨mv33, mv34, mh35, k⟩ := k
                              unfold f_X12_bodyKind at mh35
                              unfold B_X12_bodyKind_0 at mh35
                              obtain ⟨_, mh35⟩ := zk_gd mh35
                              by_cases mc36 : (mod_undoneFrom (mod_holds x1.toNatClampNeg).toNatClampNeg) < 0
                              · have mh35 := zk_t mc36 mh35
                                have mc36n := mc36
                                (try simp only [i32_lt, i32_le, i32_e, z32_0, z32_1] at mc36n)
                                first
                                | (exfalso; omega)
                                | obtain ⟨_, mh35⟩ := zk_gd mh35
                                  simp only [Option.some.injEq, Prod.mk.injEq] at mh35
                                  obtain ⟨rfl, _⟩ := mh35
                                  replace k := zk_o2 k
                                  obtain ⟨mv37, mv38, mh39, k⟩ := k
                                  skip
                                  by_cases mc40 : mv37 = 0
                                  · replace k := zk_t mc40 k
                                    have mc40n := mc40
                                    (try simp only [i32_lt, i32_le, i32_e, z32_0, z32_1] at mc40n)
                                    first
                                    | (exfalso; omega)
                                    | have h := Option.some.inj h
                                      replace k := Option.some.inj k
                                      subst h
                                      subst k
                                      try dsimp only
                                      all_goals first
                                      | (exfalso; omega)
                                      | rfl
                                      | exact ek.symm
                                  · replace k := zk_f mc40 k
                                    have mc40n := mc40
                                    (try simp only [i32_lt, i32_le, i32_e, z32_0, z32_1] at mc40n)
                                    first
                                    | (exfalso; omega)
                                    | obtain ⟨_, k⟩ := zk_gd k
                                      replace k := zk_o2 k
                                      obtain ⟨mv41, mv42, mh43, k⟩ := k
                                      unfold f_X12_bodyKind at mh43
                                      unfold B_X12_bodyKind_0 at mh43
                                      obtain ⟨_, mh43⟩ := zk_gd mh43
                                      have mh43 := zk_t mc36 mh43
                                      obtain ⟨_, mh43⟩ := zk_gd mh43
                                      simp only [Option.some.injEq, Prod.mk.injEq] at mh43
                                      obtain ⟨rfl, _⟩ := mh43
                                      replace h := Option.some.inj h
                                      replace k := Option.some.inj k
                                      subst h
                                      subst k
                                      try dsimp only
                                      all_goals first
                                      | (exfalso; omega)
                                      | rfl
                                      | exact ek.symm
                              · have mh35 := zk_f mc36 mh35
                                have mc36n := mc36
                                (try simp only [i32_lt, i32_le, i32_e, z32_0, z32_1] at mc36n)
                                first
                                | (exfalso; omega)
                                | simp only [Option.some.injEq, Prod.mk.injEq] at mh35
                                  obtain ⟨rfl, _⟩ := mh35
                                  replace k := zk_o2 k
                                  obtain ⟨mv44, mv45, mh46, k⟩ := k
                                  skip
                                  by_cases mc47 : mv44 = 0
                                  · replace k := zk_t mc47 k
                                    have mc47n := mc47
                                    (try simp only [i32_lt, i32_le, i32_e, z32_0, z32_1] at mc47n)
                                    first
                                    | (exfalso; omega)
                                    | have h := Option.some.inj h
                                      replace k := Option.some.inj k
                                      subst h
                                      subst k
                                      try dsimp only
                                      all_goals first
                                      | (exfalso; omega)
                                      | rfl
                                      | exact ek.symm
                                  · replace k := zk_f mc47 k
                                    have mc47n := mc47
                                    (try simp only [i32_lt, i32_le, i32_e, z32_0, z32_1] at mc47n)
                                    first
                                    | (exfalso; omega)
                                    | obtain ⟨_, k⟩ := zk_gd k
                                      replace k := zk_o2 k
                                      obtain ⟨mv48, mv49, mh50, k⟩ := k
                                      unfold f_X12_bodyKind at mh50
                                      unfold B_X12_bodyKind_0 at mh50
                                      obtain ⟨_, mh50⟩ := zk_gd mh50
                                      have mh50 := zk_f mc36 mh50
                                      simp only [Option.some.injEq, Prod.mk.injEq] at mh50
                                      obtain ⟨rfl, _⟩ := mh50
                                      replace h := Option.some.inj h
                                      replace k := Option.some.inj k
                                      subst h
                                      subst k
                                      try dsimp only
                                      all_goals first
                                      | (exfalso; omega)
                                      | rfl
                                      | exact ek.symm
                  · replace h := zk_f cc8 h
                    have cc8n := cc8
                    (try simp only [i32_lt, i32_le, i32_e, z32_0, z32_1, z32N_1] at cc8n)
                    first
                    | (exfalso; omega)
                    | by_cases cc9 : pl_holds = (5 : Int32)
                      · replace h := zk_t cc9 h
                        have cc9n := cc9
                        (try simp only [i32_lt, i32_le, i32_e, z32_0, z32_1, z32L_5] at cc9n)
                        first
                        | (exfalso; omega)
                        | obtain ⟨cv10, cv11, ch12, h⟩ := zk_o2 h
                          unfold f_X2_suitAt at ch12
                          unfold B_X2_suitAt_0 at ch12
                          by_cases cc13 : pl_suit < 0
                          · have ch12 := zk_t cc13 ch12
                            have cc13n := cc13
                            (try simp only [i32_lt, i32_le, i32_e, z32_0, z32_1] at cc13n)
                            first
                            | (exfalso; omega)
                            | simp only [Option.some.injEq, Prod.mk.injEq] at ch12
                              obtain ⟨rfl, _⟩ := ch12
                              replace h := zk_t (by decide) h
                              have hjj := hj ⟨cc4, cc5⟩
                              subst hjj
                              obtain ⟨⟨hs1, hs2, hs3⟩, he, hd⟩ := id hP
                              have em : mod_holds x1.toNatClampNeg = pl_suit := by rw [i32_e]; omega
                              have hi : pl_suit.toNatClampNeg < court_suitCount.toInt.toNat := by rw [tcn]; omega
                              have ek : mod_endKind pl_suit.toNatClampNeg = S_kind pl_suit.toNatClampNeg := (hK _ hi).symm
                              have eu : mod_undoneFrom pl_suit.toNatClampNeg = S_undoneFrom pl_suit.toNatClampNeg := (hU _ hi).symm
                              have hr := hR pl_suit.toNatClampNeg
                              unfold B_X12_taken_0 at k
                              rw [em] at k
                              replace k := zk_o2 k
                              obtain ⟨mv51, mv52, mh53, k⟩ := k
                              unfold f_X12_isShelf at mh53
                              unfold B_X12_isShelf_0 at mh53
                              obtain ⟨mv54, mv55, mh56, mh53⟩ := zk_o2 mh53
                              unfold f_X12_in at mh56
                              unfold B_X12_in_0 at mh56
                              have mh56 := zk_f cc4 mh56
                              have mh56 := zk_f (by (try simp only [i32_lt, i32_le, i32_e, z32_0, z32_1, z32L_5]); omega) mh56
                              simp only [Option.some.injEq, Prod.mk.injEq] at mh56
                              obtain ⟨rfl, _⟩ := mh56
                              obtain ⟨_, mh53⟩ := zk_gd mh53
                              simp only [Option.some.injEq, Prod.mk.injEq] at mh53
                              obtain ⟨rfl, _⟩ := mh53
                              replace k := zk_f (by decide) k
                              replace k := zk_o2 k
                              obtain ⟨mv57, mv58, mh59, k⟩ := k
                              unfold f_X12_in at mh59
                              unfold B_X12_in_0 at mh59
                              have mh59 := zk_f cc6 mh59
                              have mh59 := zk_f (by (try simp only [i32_lt, i32_le, i32_e, z32_0, z32_1, z32L_6]); omega) mh59
                              simp only [Option.some.injEq, Prod.mk.injEq] at mh59
                              obtain ⟨rfl, _⟩ := mh59
                              replace k := zk_f (by decide) k
                              replace k := zk_gd k
                              obtain ⟨_, k⟩ := k
                              by_cases mc60 : pl_suit = (-1 : Int32)
                              · replace k := zk_t mc60 k
                                have mc60n := mc60
                                (try simp only [i32_lt, i32_le, i32_e, z32_0, z32_1, z32N_1] at mc60n)
                                first
                                | (exfalso; omega)
                                | have h := Option.some.inj h
                                  replace k := Option.some.inj k
                                  subst h
                                  subst k
                                  try dsimp only
                                  all_goals first
                                  | (exfalso; omega)
                                  | rfl
                                  | exact ek.symm
                              · replace k := zk_f mc60 k
                                have mc60n := mc60
                                (try simp only [i32_lt, i32_le, i32_e, z32_0, z32_1, z32N_1] at mc60n)
                                first
                                | (exfalso; omega)
                                | obtain ⟨_, k⟩ := zk_gd k
                                  replace k := zk_t cc13 k
                                  replace h := Option.some.inj h
                                  replace k := Option.some.inj k
                                  subst h
                                  subst k
                                  try dsimp only
                                  all_goals first
                                  | (exfalso; omega)
                                  | rfl
                                  | exact ek.symm
                          · have ch12 := zk_f cc13 ch12
                            have cc13n := cc13
                            (try simp only [i32_lt, i32_le, i32_e, z32_0, z32_1] at cc13n)
                            first
                            | (exfalso; omega)
                            | by_cases cc14 : court_suitCount ≤ pl_suit
                              · have ch12 := zk_t cc14 ch12
                                have cc14n := cc14
                                (try simp only [i32_lt, i32_le, i32_e, z32_0, z32_1] at cc14n)
                                first
                                | (exfalso; omega)
                                | simp only [Option.some.injEq, Prod.mk.injEq] at ch12
                                  obtain ⟨rfl, _⟩ := ch12
                                  replace h := zk_t (by decide) h
                                  have hjj := hj ⟨cc4, cc5⟩
                                  subst hjj
                                  obtain ⟨⟨hs1, hs2, hs3⟩, he, hd⟩ := id hP
                                  have em : mod_holds x1.toNatClampNeg = pl_suit := by rw [i32_e]; omega
                                  have hi : pl_suit.toNatClampNeg < court_suitCount.toInt.toNat := by rw [tcn]; omega
                                  have ek : mod_endKind pl_suit.toNatClampNeg = S_kind pl_suit.toNatClampNeg := (hK _ hi).symm
                                  have eu : mod_undoneFrom pl_suit.toNatClampNeg = S_undoneFrom pl_suit.toNatClampNeg := (hU _ hi).symm
                                  have hr := hR pl_suit.toNatClampNeg
                                  unfold B_X12_taken_0 at k
                                  rw [em] at k
                                  replace k := zk_o2 k
                                  obtain ⟨mv61, mv62, mh63, k⟩ := k
                                  unfold f_X12_isShelf at mh63
                                  unfold B_X12_isShelf_0 at mh63
                                  obtain ⟨mv64, mv65, mh66, mh63⟩ := zk_o2 mh63
                                  unfold f_X12_in at mh66
                                  unfold B_X12_in_0 at mh66
                                  have mh66 := zk_f cc4 mh66
                                  have mh66 := zk_f (by (try simp only [i32_lt, i32_le, i32_e, z32_0, z32_1, z32L_5]); omega) mh66
                                  simp only [Option.some.injEq, Prod.mk.injEq] at mh66
                                  obtain ⟨rfl, _⟩ := mh66
                                  obtain ⟨_, mh63⟩ := zk_gd mh63
                                  simp only [Option.some.injEq, Prod.mk.injEq] at mh63
                                  obtain ⟨rfl, _⟩ := mh63
                                  replace k := zk_f (by decide) k
                                  replace k := zk_o2 k
                                  obtain ⟨mv67, mv68, mh69, k⟩ := k
                                  unfold f_X12_in at mh69
                                  unfold B_X12_in_0 at mh69
                                  have mh69 := zk_f cc6 mh69
                                  have mh69 := zk_f (by (try simp only [i32_lt, i32_le, i32_e, z32_0, z32_1, z32L_6]); omega) mh69
                                  simp only [Option.some.injEq, Prod.mk.injEq] at mh69
                                  obtain ⟨rfl, _⟩ := mh69
                                  replace k := zk_f (by decide) k
                                  replace k := zk_gd k
                                  obtain ⟨_, k⟩ := k
                                  replace k := zk_f (by (try simp only [i32_lt, i32_le, i32_e, z32_0, z32_1, z32N_1]); omega) k
                                  replace k := zk_gd k
                                  obtain ⟨_, k⟩ := k
                                  replace k := zk_f cc13 k
                                  replace k := zk_gd k
                                  obtain ⟨_, k⟩ := k
                                  replace k := zk_o2 k
                                  obtain ⟨mv70, mv71, mh72, k⟩ := k
                                  unfold f_X12_bodyKind at mh72
                                  unfold B_X12_bodyKind_0 at mh72
                                  rw [eu] at mh72
                                  obtain ⟨_, mh72⟩ := zk_gd mh72
                                  by_cases mc73 : (S_undoneFrom pl_suit.toNatClampNeg) < 0
                                  · have mh72 := zk_t mc73 mh72
                                    have mc73n := mc73
                                    (try simp only [i32_lt, i32_le, i32_e, z32_0, z32_1] at mc73n)
                                    first
                                    | (exfalso; omega)
                                    | obtain ⟨_, mh72⟩ := zk_gd mh72
                                      simp only [Option.some.injEq, Prod.mk.injEq] at mh72
                                      obtain ⟨rfl, _⟩ := mh72
                                      replace k := zk_o2 k
                                      obtain ⟨mv74, mv75, mh76, k⟩ := k
                                      skip
                                      by_cases mc77 : mv74 = 0
                                      · replace k := zk_t mc77 k
                                        have mc77n := mc77
                                        (try simp only [i32_lt, i32_le, i32_e, z32_0, z32_1] at mc77n)
                                        first
                                        | (exfalso; omega)
                                        | have h := Option.some.inj h
                                          replace k := Option.some.inj k
                                          subst h
                                          subst k
                                          try dsimp only
                                          all_goals first
                                          | (exfalso; omega)
                                          | rfl
                                          | exact ek.symm
                                      · replace k := zk_f mc77 k
                                        have mc77n := mc77
                                        (try simp only [i32_lt, i32_le, i32_e, z32_0, z32_1] at mc77n)
                                        first
                                        | (exfalso; omega)
                                        | obtain ⟨_, k⟩ := zk_gd k
                                          replace k := zk_o2 k
                                          obtain ⟨mv78, mv79, mh80, k⟩ := k
                                          unfold f_X12_bodyKind at mh80
                                          unfold B_X12_bodyKind_0 at mh80
                                          rw [eu] at mh80
                                          obtain ⟨_, mh80⟩ := zk_gd mh80
                                          have mh80 := zk_t mc73 mh80
                                          obtain ⟨_, mh80⟩ := zk_gd mh80
                                          simp only [Option.some.injEq, Prod.mk.injEq] at mh80
                                          obtain ⟨rfl, _⟩ := mh80
                                          replace h := Option.some.inj h
                                          replace k := Option.some.inj k
                                          subst h
                                          subst k
                                          try dsimp only
                                          all_goals first
                                          | (exfalso; omega)
                                          | rfl
                                          | exact ek.symm
                                  · have mh72 := zk_f mc73 mh72
                                    have mc73n := mc73
                                    (try simp only [i32_lt, i32_le, i32_e, z32_0, z32_1] at mc73n)
                                    first
                                    | (exfalso; omega)
                                    | simp only [Option.some.injEq, Prod.mk.injEq] at mh72
                                      obtain ⟨rfl, _⟩ := mh72
                                      replace k := zk_o2 k
                                      obtain ⟨mv81, mv82, mh83, k⟩ := k
                                      skip
                                      by_cases mc84 : mv81 = 0
                                      · replace k := zk_t mc84 k
                                        have mc84n := mc84
                                        (try simp only [i32_lt, i32_le, i32_e, z32_0, z32_1] at mc84n)
                                        first
                                        | (exfalso; omega)
                                        | have h := Option.some.inj h
                                          replace k := Option.some.inj k
                                          subst h
                                          subst k
                                          try dsimp only
                                          all_goals first
                                          | (exfalso; omega)
                                          | rfl
                                          | exact ek.symm
                                      · replace k := zk_f mc84 k
                                        have mc84n := mc84
                                        (try simp only [i32_lt, i32_le, i32_e, z32_0, z32_1] at mc84n)
                                        first
                                        | (exfalso; omega)
                                        | obtain ⟨_, k⟩ := zk_gd k
                                          replace k := zk_o2 k
                                          obtain ⟨mv85, mv86, mh87, k⟩ := k
                                          unfold f_X12_bodyKind at mh87
                                          unfold B_X12_bodyKind_0 at mh87
                                          rw [eu] at mh87
                                          obtain ⟨_, mh87⟩ := zk_gd mh87
                                          have mh87 := zk_f mc73 mh87
                                          simp only [Option.some.injEq, Prod.mk.injEq] at mh87
                                          obtain ⟨rfl, _⟩ := mh87
                                          replace h := Option.some.inj h
                                          replace k := Option.some.inj k
                                          subst h
                                          subst k
                                          try dsimp only
                                          all_goals first
                                          | (exfalso; omega)
                                          | rfl
                                          | exact ek.symm
                              · have ch12 := zk_f cc14 ch12
                                have cc14n := cc14
                                (try simp only [i32_lt, i32_le, i32_e, z32_0, z32_1] at cc14n)
                                first
                                | (exfalso; omega)
                                | obtain ⟨_, ch12⟩ := zk_gd ch12
                                  obtain ⟨_, ch12⟩ := zk_gd ch12
                                  obtain ⟨_, ch12⟩ := zk_gd ch12
                                  simp only [Option.some.injEq, Prod.mk.injEq] at ch12
                                  obtain ⟨rfl, _⟩ := ch12
                                  replace h := zk_f cc13 h
                                  replace h := zk_gd h
                                  obtain ⟨_, h⟩ := h
                                  replace h := zk_o2 h
                                  obtain ⟨cv15, cv16, ch17, h⟩ := h
                                  unfold f_X7_bodyKind at ch17
                                  unfold B_X7_bodyKind_0 at ch17
                                  by_cases cc18 : (S_undoneFrom pl_suit.toNatClampNeg) < 0
                                  · have ch17 := zk_t cc18 ch17
                                    have cc18n := cc18
                                    (try simp only [i32_lt, i32_le, i32_e, z32_0, z32_1] at cc18n)
                                    first
                                    | (exfalso; omega)
                                    | simp only [Option.some.injEq, Prod.mk.injEq] at ch17
                                      obtain ⟨rfl, _⟩ := ch17
                                      replace h := zk_o2 h
                                      obtain ⟨cv19, cv20, ch21, h⟩ := h
                                      skip
                                      by_cases cc22 : cv19 = 0
                                      · replace h := zk_t cc22 h
                                        have cc22n := cc22
                                        (try simp only [i32_lt, i32_le, i32_e, z32_0, z32_1] at cc22n)
                                        first
                                        | (exfalso; omega)
                                        | have hjj := hj ⟨cc4, cc5⟩
                                          subst hjj
                                          obtain ⟨⟨hs1, hs2, hs3⟩, he, hd⟩ := id hP
                                          have em : mod_holds x1.toNatClampNeg = pl_suit := by rw [i32_e]; omega
                                          have hi : pl_suit.toNatClampNeg < court_suitCount.toInt.toNat := by rw [tcn]; omega
                                          have ek : mod_endKind pl_suit.toNatClampNeg = S_kind pl_suit.toNatClampNeg := (hK _ hi).symm
                                          have eu : mod_undoneFrom pl_suit.toNatClampNeg = S_undoneFrom pl_suit.toNatClampNeg := (hU _ hi).symm
                                          have hr := hR pl_suit.toNatClampNeg
                                          unfold B_X12_taken_0 at k
                                          rw [em] at k
                                          replace k := zk_o2 k
                                          obtain ⟨mv88, mv89, mh90, k⟩ := k
                                          unfold f_X12_isShelf at mh90
                                          unfold B_X12_isShelf_0 at mh90
                                          obtain ⟨mv91, mv92, mh93, mh90⟩ := zk_o2 mh90
                                          unfold f_X12_in at mh93
                                          unfold B_X12_in_0 at mh93
                                          have mh93 := zk_f cc4 mh93
                                          have mh93 := zk_f (by (try simp only [i32_lt, i32_le, i32_e, z32_0, z32_1, z32L_5]); omega) mh93
                                          simp only [Option.some.injEq, Prod.mk.injEq] at mh93
                                          obtain ⟨rfl, _⟩ := mh93
                                          obtain ⟨_, mh90⟩ := zk_gd mh90
                                          simp only [Option.some.injEq, Prod.mk.injEq] at mh90
                                          obtain ⟨rfl, _⟩ := mh90
                                          replace k := zk_f (by decide) k
                                          replace k := zk_o2 k
                                          obtain ⟨mv94, mv95, mh96, k⟩ := k
                                          unfold f_X12_in at mh96
                                          unfold B_X12_in_0 at mh96
                                          have mh96 := zk_f cc6 mh96
                                          have mh96 := zk_f (by (try simp only [i32_lt, i32_le, i32_e, z32_0, z32_1, z32L_6]); omega) mh96
                                          simp only [Option.some.injEq, Prod.mk.injEq] at mh96
                                          obtain ⟨rfl, _⟩ := mh96
                                          replace k := zk_f (by decide) k
                                          replace k := zk_gd k
                                          obtain ⟨_, k⟩ := k
                                          replace k := zk_f (by (try simp only [i32_lt, i32_le, i32_e, z32_0, z32_1, z32N_1]); omega) k
                                          replace k := zk_gd k
                                          obtain ⟨_, k⟩ := k
                                          replace k := zk_f cc13 k
                                          replace k := zk_gd k
                                          obtain ⟨_, k⟩ := k
                                          replace k := zk_o2 k
                                          obtain ⟨mv97, mv98, mh99, k⟩ := k
                                          unfold f_X12_bodyKind at mh99
                                          unfold B_X12_bodyKind_0 at mh99
                                          rw [eu] at mh99
                                          obtain ⟨_, mh99⟩ := zk_gd mh99
                                          have mh99 := zk_t cc18 mh99
                                          obtain ⟨_, mh99⟩ := zk_gd mh99
                                          simp only [Option.some.injEq, Prod.mk.injEq] at mh99
                                          obtain ⟨rfl, _⟩ := mh99
                                          replace k := zk_o2 k
                                          obtain ⟨mv100, mv101, mh102, k⟩ := k
                                          obtain mq103 := iu_e2 (by first | exact hr | decide) (by omega) (by first | rfl | exact ek) ch21 mh102
                                          replace mq103 := mq103.symm
                                          subst mq103
                                          replace k := zk_t cc22 k
                                          replace h := Option.some.inj h
                                          replace k := Option.some.inj k
                                          subst h
                                          subst k
                                          try dsimp only
                                          all_goals first
                                          | (exfalso; omega)
                                          | rfl
                                          | exact ek.symm
                                      · replace h := zk_f cc22 h
                                        have cc22n := cc22
                                        (try simp only [i32_lt, i32_le, i32_e, z32_0, z32_1] at cc22n)
                                        first
                                        | (exfalso; omega)
                                        | obtain ⟨_, h⟩ := zk_gd h
                                          replace h := zk_o2 h
                                          obtain ⟨cv23, cv24, ch25, h⟩ := h
                                          unfold f_X7_bodyKind at ch25
                                          unfold B_X7_bodyKind_0 at ch25
                                          have ch25 := zk_t cc18 ch25
                                          simp only [Option.some.injEq, Prod.mk.injEq] at ch25
                                          obtain ⟨rfl, _⟩ := ch25
                                          have hjj := hj ⟨cc4, cc5⟩
                                          subst hjj
                                          obtain ⟨⟨hs1, hs2, hs3⟩, he, hd⟩ := id hP
                                          have em : mod_holds x1.toNatClampNeg = pl_suit := by rw [i32_e]; omega
                                          have hi : pl_suit.toNatClampNeg < court_suitCount.toInt.toNat := by rw [tcn]; omega
                                          have ek : mod_endKind pl_suit.toNatClampNeg = S_kind pl_suit.toNatClampNeg := (hK _ hi).symm
                                          have eu : mod_undoneFrom pl_suit.toNatClampNeg = S_undoneFrom pl_suit.toNatClampNeg := (hU _ hi).symm
                                          have hr := hR pl_suit.toNatClampNeg
                                          unfold B_X12_taken_0 at k
                                          rw [em] at k
                                          replace k := zk_o2 k
                                          obtain ⟨mv104, mv105, mh106, k⟩ := k
                                          unfold f_X12_isShelf at mh106
                                          unfold B_X12_isShelf_0 at mh106
                                          obtain ⟨mv107, mv108, mh109, mh106⟩ := zk_o2 mh106
                                          unfold f_X12_in at mh109
                                          unfold B_X12_in_0 at mh109
                                          have mh109 := zk_f cc4 mh109
                                          have mh109 := zk_f (by (try simp only [i32_lt, i32_le, i32_e, z32_0, z32_1, z32L_5]); omega) mh109
                                          simp only [Option.some.injEq, Prod.mk.injEq] at mh109
                                          obtain ⟨rfl, _⟩ := mh109
                                          obtain ⟨_, mh106⟩ := zk_gd mh106
                                          simp only [Option.some.injEq, Prod.mk.injEq] at mh106
                                          obtain ⟨rfl, _⟩ := mh106
                                          replace k := zk_f (by decide) k
                                          replace k := zk_o2 k
                                          obtain ⟨mv110, mv111, mh112, k⟩ := k
                                          unfold f_X12_in at mh112
                                          unfold B_X12_in_0 at mh112
                                          have mh112 := zk_f cc6 mh112
                                          have mh112 := zk_f (by (try simp only [i32_lt, i32_le, i32_e, z32_0, z32_1, z32L_6]); omega) mh112
                                          simp only [Option.some.injEq, Prod.mk.injEq] at mh112
                                          obtain ⟨rfl, _⟩ := mh112
                                          replace k := zk_f (by decide) k
                                          replace k := zk_gd k
                                          obtain ⟨_, k⟩ := k
                                          replace k := zk_f (by (try simp only [i32_lt, i32_le, i32_e, z32_0, z32_1, z32N_1]); omega) k
                                          replace k := zk_gd k
                                          obtain ⟨_, k⟩ := k
                                          replace k := zk_f cc13 k
                                          replace k := zk_gd k
                                          obtain ⟨_, k⟩ := k
                                          replace k := zk_o2 k
                                          obtain ⟨mv113, mv114, mh115, k⟩ := k
                                          unfold f_X12_bodyKind at mh115
                                          unfold B_X12_bodyKind_0 at mh115
                                          rw [eu] at mh115
                                          obtain ⟨_, mh115⟩ := zk_gd mh115
                                          have mh115 := zk_t cc18 mh115
                                          obtain ⟨_, mh115⟩ := zk_gd mh115
                                          simp only [Option.some.injEq, Prod.mk.injEq] at mh115
                                          obtain ⟨rfl, _⟩ := mh115
                                          replace k := zk_o2 k
                                          obtain ⟨mv116, mv117, mh118, k⟩ := k
                                          obtain mq119 := iu_e2 (by first | exact hr | decide) (by omega) (by first | rfl | exact ek) ch21 mh118
                                          replace mq119 := mq119.symm
                                          subst mq119
                                          replace k := zk_f cc22 k
                                          replace k := zk_gd k
                                          obtain ⟨_, k⟩ := k
                                          replace k := zk_o2 k
                                          obtain ⟨mv120, mv121, mh122, k⟩ := k
                                          unfold f_X12_bodyKind at mh122
                                          unfold B_X12_bodyKind_0 at mh122
                                          rw [eu] at mh122
                                          obtain ⟨_, mh122⟩ := zk_gd mh122
                                          have mh122 := zk_t cc18 mh122
                                          obtain ⟨_, mh122⟩ := zk_gd mh122
                                          simp only [Option.some.injEq, Prod.mk.injEq] at mh122
                                          obtain ⟨rfl, _⟩ := mh122
                                          replace h := Option.some.inj h
                                          replace k := Option.some.inj k
                                          subst h
                                          subst k
                                          try dsimp only
                                          all_goals first
                                          | (exfalso; omega)
                                          | rfl
                                          | exact ek.symm
                                  · have ch17 := zk_f cc18 ch17
                                    have cc18n := cc18
                                    (try simp only [i32_lt, i32_le, i32_e, z32_0, z32_1] at cc18n)
                                    first
                                    | (exfalso; omega)
                                    | simp only [Option.some.injEq, Prod.mk.injEq] at ch17
                                      obtain ⟨rfl, _⟩ := ch17
                                      replace h := zk_o2 h
                                      obtain ⟨cv26, cv27, ch28, h⟩ := h
                                      skip
                                      by_cases cc29 : cv26 = 0
                                      · replace h := zk_t cc29 h
                                        have cc29n := cc29
                                        (try simp only [i32_lt, i32_le, i32_e, z32_0, z32_1] at cc29n)
                                        first
                                        | (exfalso; omega)
                                        | have hjj := hj ⟨cc4, cc5⟩
                                          subst hjj
                                          obtain ⟨⟨hs1, hs2, hs3⟩, he, hd⟩ := id hP
                                          have em : mod_holds x1.toNatClampNeg = pl_suit := by rw [i32_e]; omega
                                          have hi : pl_suit.toNatClampNeg < court_suitCount.toInt.toNat := by rw [tcn]; omega
                                          have ek : mod_endKind pl_suit.toNatClampNeg = S_kind pl_suit.toNatClampNeg := (hK _ hi).symm
                                          have eu : mod_undoneFrom pl_suit.toNatClampNeg = S_undoneFrom pl_suit.toNatClampNeg := (hU _ hi).symm
                                          have hr := hR pl_suit.toNatClampNeg
                                          unfold B_X12_taken_0 at k
                                          rw [em] at k
                                          replace k := zk_o2 k
                                          obtain ⟨mv123, mv124, mh125, k⟩ := k
                                          unfold f_X12_isShelf at mh125
                                          unfold B_X12_isShelf_0 at mh125
                                          obtain ⟨mv126, mv127, mh128, mh125⟩ := zk_o2 mh125
                                          unfold f_X12_in at mh128
                                          unfold B_X12_in_0 at mh128
                                          have mh128 := zk_f cc4 mh128
                                          have mh128 := zk_f (by (try simp only [i32_lt, i32_le, i32_e, z32_0, z32_1, z32L_5]); omega) mh128
                                          simp only [Option.some.injEq, Prod.mk.injEq] at mh128
                                          obtain ⟨rfl, _⟩ := mh128
                                          obtain ⟨_, mh125⟩ := zk_gd mh125
                                          simp only [Option.some.injEq, Prod.mk.injEq] at mh125
                                          obtain ⟨rfl, _⟩ := mh125
                                          replace k := zk_f (by decide) k
                                          replace k := zk_o2 k
                                          obtain ⟨mv129, mv130, mh131, k⟩ := k
                                          unfold f_X12_in at mh131
                                          unfold B_X12_in_0 at mh131
                                          have mh131 := zk_f cc6 mh131
                                          have mh131 := zk_f (by (try simp only [i32_lt, i32_le, i32_e, z32_0, z32_1, z32L_6]); omega) mh131
                                          simp only [Option.some.injEq, Prod.mk.injEq] at mh131
                                          obtain ⟨rfl, _⟩ := mh131
                                          replace k := zk_f (by decide) k
                                          replace k := zk_gd k
                                          obtain ⟨_, k⟩ := k
                                          replace k := zk_f (by (try simp only [i32_lt, i32_le, i32_e, z32_0, z32_1, z32N_1]); omega) k
                                          replace k := zk_gd k
                                          obtain ⟨_, k⟩ := k
                                          replace k := zk_f cc13 k
                                          replace k := zk_gd k
                                          obtain ⟨_, k⟩ := k
                                          replace k := zk_o2 k
                                          obtain ⟨mv132, mv133, mh134, k⟩ := k
                                          unfold f_X12_bodyKind at mh134
                                          unfold B_X12_bodyKind_0 at mh134
                                          rw [eu] at mh134
                                          obtain ⟨_, mh134⟩ := zk_gd mh134
                                          have mh134 := zk_f cc18 mh134
                                          simp only [Option.some.injEq, Prod.mk.injEq] at mh134
                                          obtain ⟨rfl, _⟩ := mh134
                                          replace k := zk_o2 k
                                          obtain ⟨mv135, mv136, mh137, k⟩ := k
                                          obtain mq138 := iu_e2 (by first | exact hr | decide) (by omega) (by first | rfl | exact ek) ch28 mh137
                                          replace mq138 := mq138.symm
                                          subst mq138
                                          replace k := zk_t cc29 k
                                          replace h := Option.some.inj h
                                          replace k := Option.some.inj k
                                          subst h
                                          subst k
                                          try dsimp only
                                          all_goals first
                                          | (exfalso; omega)
                                          | rfl
                                          | exact ek.symm
                                      · replace h := zk_f cc29 h
                                        have cc29n := cc29
                                        (try simp only [i32_lt, i32_le, i32_e, z32_0, z32_1] at cc29n)
                                        first
                                        | (exfalso; omega)
                                        | obtain ⟨_, h⟩ := zk_gd h
                                          replace h := zk_o2 h
                                          obtain ⟨cv30, cv31, ch32, h⟩ := h
                                          unfold f_X7_bodyKind at ch32
                                          unfold B_X7_bodyKind_0 at ch32
                                          have ch32 := zk_f cc18 ch32
                                          simp only [Option.some.injEq, Prod.mk.injEq] at ch32
                                          obtain ⟨rfl, _⟩ := ch32
                                          have hjj := hj ⟨cc4, cc5⟩
                                          subst hjj
                                          obtain ⟨⟨hs1, hs2, hs3⟩, he, hd⟩ := id hP
                                          have em : mod_holds x1.toNatClampNeg = pl_suit := by rw [i32_e]; omega
                                          have hi : pl_suit.toNatClampNeg < court_suitCount.toInt.toNat := by rw [tcn]; omega
                                          have ek : mod_endKind pl_suit.toNatClampNeg = S_kind pl_suit.toNatClampNeg := (hK _ hi).symm
                                          have eu : mod_undoneFrom pl_suit.toNatClampNeg = S_undoneFrom pl_suit.toNatClampNeg := (hU _ hi).symm
                                          have hr := hR pl_suit.toNatClampNeg
                                          unfold B_X12_taken_0 at k
                                          rw [em] at k
                                          replace k := zk_o2 k
                                          obtain ⟨mv139, mv140, mh141, k⟩ := k
                                          unfold f_X12_isShelf at mh141
                                          unfold B_X12_isShelf_0 at mh141
                                          obtain ⟨mv142, mv143, mh144, mh141⟩ := zk_o2 mh141
                                          unfold f_X12_in at mh144
                                          unfold B_X12_in_0 at mh144
                                          have mh144 := zk_f cc4 mh144
                                          have mh144 := zk_f (by (try simp only [i32_lt, i32_le, i32_e, z32_0, z32_1, z32L_5]); omega) mh144
                                          simp only [Option.some.injEq, Prod.mk.injEq] at mh144
                                          obtain ⟨rfl, _⟩ := mh144
                                          obtain ⟨_, mh141⟩ := zk_gd mh141
                                          simp only [Option.some.injEq, Prod.mk.injEq] at mh141
                                          obtain ⟨rfl, _⟩ := mh141
                                          replace k := zk_f (by decide) k
                                          replace k := zk_o2 k
                                          obtain ⟨mv145, mv146, mh147, k⟩ := k
                                          unfold f_X12_in at mh147
                                          unfold B_X12_in_0 at mh147
                                          have mh147 := zk_f cc6 mh147
                                          have mh147 := zk_f (by (try simp only [i32_lt, i32_le, i32_e, z32_0, z32_1, z32L_6]); omega) mh147
                                          simp only [Option.some.injEq, Prod.mk.injEq] at mh147
                                          obtain ⟨rfl, _⟩ := mh147
                                          replace k := zk_f (by decide) k
                                          replace k := zk_gd k
                                          obtain ⟨_, k⟩ := k
                                          replace k := zk_f (by (try simp only [i32_lt, i32_le, i32_e, z32_0, z32_1, z32N_1]); omega) k
                                          replace k := zk_gd k
                                          obtain ⟨_, k⟩ := k
                                          replace k := zk_f cc13 k
                                          replace k := zk_gd k
                                          obtain ⟨_, k⟩ := k
                                          replace k := zk_o2 k
                                          obtain ⟨mv148, mv149, mh150, k⟩ := k
                                          unfold f_X12_bodyKind at mh150
                                          unfold B_X12_bodyKind_0 at mh150
                                          rw [eu] at mh150
                                          obtain ⟨_, mh150⟩ := zk_gd mh150
                                          have mh150 := zk_f cc18 mh150
                                          simp only [Option.some.injEq, Prod.mk.injEq] at mh150
                                          obtain ⟨rfl, _⟩ := mh150
                                          replace k := zk_o2 k
                                          obtain ⟨mv151, mv152, mh153, k⟩ := k
                                          obtain mq154 := iu_e2 (by first | exact hr | decide) (by omega) (by first | rfl | exact ek) ch28 mh153
                                          replace mq154 := mq154.symm
                                          subst mq154
                                          replace k := zk_f cc29 k
                                          replace k := zk_gd k
                                          obtain ⟨_, k⟩ := k
                                          replace k := zk_o2 k
                                          obtain ⟨mv155, mv156, mh157, k⟩ := k
                                          unfold f_X12_bodyKind at mh157
                                          unfold B_X12_bodyKind_0 at mh157
                                          rw [eu] at mh157
                                          obtain ⟨_, mh157⟩ := zk_gd mh157
                                          have mh157 := zk_f cc18 mh157
                                          simp only [Option.some.injEq, Prod.mk.injEq] at mh157
                                          obtain ⟨rfl, _⟩ := mh157
                                          replace h := Option.some.inj h
                                          replace k := Option.some.inj k
                                          subst h
                                          subst k
                                          try dsimp only
                                          all_goals first
                                          | (exfalso; omega)
                                          | rfl
                                          | exact ek.symm
                      · replace h := zk_f cc9 h
                        have cc9n := cc9
                        (try simp only [i32_lt, i32_le, i32_e, z32_0, z32_1, z32L_5] at cc9n)
                        first
                        | (exfalso; omega)
                        | have hjj := hj ⟨cc4, cc5⟩
                          subst hjj
                          obtain ⟨⟨hs1, hs2, hs3⟩, he, hd⟩ := id hP
                          unfold B_X12_taken_0 at k
                          replace k := zk_o2 k
                          obtain ⟨mv158, mv159, mh160, k⟩ := k
                          unfold f_X12_isShelf at mh160
                          unfold B_X12_isShelf_0 at mh160
                          obtain ⟨mv161, mv162, mh163, mh160⟩ := zk_o2 mh160
                          unfold f_X12_in at mh163
                          unfold B_X12_in_0 at mh163
                          have mh163 := zk_f cc4 mh163
                          have mh163 := zk_f (by (try simp only [i32_lt, i32_le, i32_e, z32_0, z32_1, z32L_5]); omega) mh163
                          simp only [Option.some.injEq, Prod.mk.injEq] at mh163
                          obtain ⟨rfl, _⟩ := mh163
                          obtain ⟨_, mh160⟩ := zk_gd mh160
                          simp only [Option.some.injEq, Prod.mk.injEq] at mh160
                          obtain ⟨rfl, _⟩ := mh160
                          replace k := zk_f (by decide) k
                          replace k := zk_o2 k
                          obtain ⟨mv164, mv165, mh166, k⟩ := k
                          unfold f_X12_in at mh166
                          unfold B_X12_in_0 at mh166
                          have mh166 := zk_f cc6 mh166
                          have mh166 := zk_f (by (try simp only [i32_lt, i32_le, i32_e, z32_0, z32_1, z32L_6]); omega) mh166
                          simp only [Option.some.injEq, Prod.mk.injEq] at mh166
                          obtain ⟨rfl, _⟩ := mh166
                          replace k := zk_f (by decide) k
                          replace k := zk_gd k
                          obtain ⟨_, k⟩ := k
                          by_cases mc167 : (mod_holds x1.toNatClampNeg) = (-1 : Int32)
                          · replace k := zk_t mc167 k
                            have mc167n := mc167
                            (try simp only [i32_lt, i32_le, i32_e, z32_0, z32_1, z32N_1] at mc167n)
                            first
                            | (exfalso; omega)
                            | have h := Option.some.inj h
                              replace k := Option.some.inj k
                              subst h
                              subst k
                              try dsimp only
                              all_goals first
                              | (exfalso; omega)
                              | rfl
                              | exact ek.symm
                          · replace k := zk_f mc167 k
                            have mc167n := mc167
                            (try simp only [i32_lt, i32_le, i32_e, z32_0, z32_1, z32N_1] at mc167n)
                            first
                            | (exfalso; omega)
                            | obtain ⟨_, k⟩ := zk_gd k
                              by_cases mc168 : (mod_holds x1.toNatClampNeg) < 0
                              · replace k := zk_t mc168 k
                                have mc168n := mc168
                                (try simp only [i32_lt, i32_le, i32_e, z32_0, z32_1] at mc168n)
                                first
                                | (exfalso; omega)
                                | have h := Option.some.inj h
                                  replace k := Option.some.inj k
                                  subst h
                                  subst k
                                  try dsimp only
                                  all_goals first
                                  | (exfalso; omega)
                                  | rfl
                                  | exact ek.symm
                              · replace k := zk_f mc168 k
                                have mc168n := mc168
                                (try simp only [i32_lt, i32_le, i32_e, z32_0, z32_1] at mc168n)
                                first
                                | (exfalso; omega)
                                | obtain ⟨_, k⟩ := zk_gd k
                                  replace k := zk_o2 k
                                  obtain ⟨mv169, mv170, mh171, k⟩ := k
                                  unfold f_X12_bodyKind at mh171
                                  unfold B_X12_bodyKind_0 at mh171
                                  obtain ⟨_, mh171⟩ := zk_gd mh171
                                  by_cases mc172 : (mod_undoneFrom (mod_holds x1.toNatClampNeg).toNatClampNeg) < 0
                                  · have mh171 := zk_t mc172 mh171
                                    have mc172n := mc172
                                    (try simp only [i32_lt, i32_le, i32_e, z32_0, z32_1] at mc172n)
                                    first
                                    | (exfalso; omega)
                                    | obtain ⟨_, mh171⟩ := zk_gd mh171
                                      simp only [Option.some.injEq, Prod.mk.injEq] at mh171
                                      obtain ⟨rfl, _⟩ := mh171
                                      replace k := zk_o2 k
                                      obtain ⟨mv173, mv174, mh175, k⟩ := k
                                      skip
                                      by_cases mc176 : mv173 = 0
                                      · replace k := zk_t mc176 k
                                        have mc176n := mc176
                                        (try simp only [i32_lt, i32_le, i32_e, z32_0, z32_1] at mc176n)
                                        first
                                        | (exfalso; omega)
                                        | have h := Option.some.inj h
                                          replace k := Option.some.inj k
                                          subst h
                                          subst k
                                          try dsimp only
                                          all_goals first
                                          | (exfalso; omega)
                                          | rfl
                                          | exact ek.symm
                                      · replace k := zk_f mc176 k
                                        have mc176n := mc176
                                        (try simp only [i32_lt, i32_le, i32_e, z32_0, z32_1] at mc176n)
                                        first
                                        | (exfalso; omega)
                                        | obtain ⟨_, k⟩ := zk_gd k
                                          replace k := zk_o2 k
                                          obtain ⟨mv177, mv178, mh179, k⟩ := k
                                          unfold f_X12_bodyKind at mh179
                                          unfold B_X12_bodyKind_0 at mh179
                                          obtain ⟨_, mh179⟩ := zk_gd mh179
                                          have mh179 := zk_t mc172 mh179
                                          obtain ⟨_, mh179⟩ := zk_gd mh179
                                          simp only [Option.some.injEq, Prod.mk.injEq] at mh179
                                          obtain ⟨rfl, _⟩ := mh179
                                          replace h := Option.some.inj h
                                          replace k := Option.some.inj k
                                          subst h
                                          subst k
                                          try dsimp only
                                          all_goals first
                                          | (exfalso; omega)
                                          | rfl
                                          | exact ek.symm
                                  · have mh171 := zk_f mc172 mh171
                                    have mc172n := mc172
                                    (try simp only [i32_lt, i32_le, i32_e, z32_0, z32_1] at mc172n)
                                    first
                                    | (exfalso; omega)
                                    | simp only [Option.some.injEq, Prod.mk.injEq] at mh171
                                      obtain ⟨rfl, _⟩ := mh171
                                      replace k := zk_o2 k
                                      obtain ⟨mv180, mv181, mh182, k⟩ := k
                                      skip
                                      by_cases mc183 : mv180 = 0
                                      · replace k := zk_t mc183 k
                                        have mc183n := mc183
                                        (try simp only [i32_lt, i32_le, i32_e, z32_0, z32_1] at mc183n)
                                        first
                                        | (exfalso; omega)
                                        | have h := Option.some.inj h
                                          replace k := Option.some.inj k
                                          subst h
                                          subst k
                                          try dsimp only
                                          all_goals first
                                          | (exfalso; omega)
                                          | rfl
                                          | exact ek.symm
                                      · replace k := zk_f mc183 k
                                        have mc183n := mc183
                                        (try simp only [i32_lt, i32_le, i32_e, z32_0, z32_1] at mc183n)
                                        first
                                        | (exfalso; omega)
                                        | obtain ⟨_, k⟩ := zk_gd k
                                          replace k := zk_o2 k
                                          obtain ⟨mv184, mv185, mh186, k⟩ := k
                                          unfold f_X12_bodyKind at mh186
                                          unfold B_X12_bodyKind_0 at mh186
                                          obtain ⟨_, mh186⟩ := zk_gd mh186
                                          have mh186 := zk_f mc172 mh186
                                          simp only [Option.some.injEq, Prod.mk.injEq] at mh186
                                          obtain ⟨rfl, _⟩ := mh186
                                          replace h := Option.some.inj h
                                          replace k := Option.some.inj k
                                          subst h
                                          subst k
                                          try dsimp only
                                          all_goals first
                                          | (exfalso; omega)
                                          | rfl
                                          | exact ek.symm
              · replace h := zk_f cc7 h
                have cc7n := cc7
                (try simp only [i32_lt, i32_le, i32_e, z32_0, z32_1, z32L_7] at cc7n)
                first
                | (exfalso; omega)
                | have hjj := hj ⟨cc4, cc5⟩
                  subst hjj
                  obtain ⟨⟨hs1, hs2, hs3⟩, he, hd⟩ := id hP
                  unfold B_X12_taken_0 at k
                  replace k := zk_o2 k
                  obtain ⟨mv187, mv188, mh189, k⟩ := k
                  unfold f_X12_isShelf at mh189
                  unfold B_X12_isShelf_0 at mh189
                  obtain ⟨mv190, mv191, mh192, mh189⟩ := zk_o2 mh189
                  unfold f_X12_in at mh192
                  unfold B_X12_in_0 at mh192
                  have mh192 := zk_f cc4 mh192
                  have mh192 := zk_f (by (try simp only [i32_lt, i32_le, i32_e, z32_0, z32_1, z32L_5]); omega) mh192
                  simp only [Option.some.injEq, Prod.mk.injEq] at mh192
                  obtain ⟨rfl, _⟩ := mh192
                  obtain ⟨_, mh189⟩ := zk_gd mh189
                  simp only [Option.some.injEq, Prod.mk.injEq] at mh189
                  obtain ⟨rfl, _⟩ := mh189
                  replace k := zk_f (by decide) k
                  replace k := zk_o2 k
                  obtain ⟨mv193, mv194, mh195, k⟩ := k
                  unfold f_X12_in at mh195
                  unfold B_X12_in_0 at mh195
                  have mh195 := zk_f cc6 mh195
                  have mh195 := zk_t (by (try simp only [i32_lt, i32_le, i32_e, z32_0, z32_1, z32L_6]); omega) mh195
                  simp only [Option.some.injEq, Prod.mk.injEq] at mh195
                  obtain ⟨rfl, _⟩ := mh195
                  replace k := zk_t rfl k
                  replace h := Option.some.inj h
                  replace k := Option.some.inj k
                  subst h
                  subst k
                  try dsimp only
                  all_goals first
                  | (exfalso; omega)
                  | rfl
                  | exact ek.symm
