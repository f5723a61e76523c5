
theorem iu7 : ∀ i, i < 7 → ∀ j, j < 7 → f_X11_isUnder 100000 (Int32.ofNat i) (Int32.ofNat j) = f_X12_isUnder (Int32.ofNat i) (Int32.ofNat j) := by decide +kernel
theorem iu_e {a b r r2 : Int32} {u u2 : Unit} (ha : 0 ≤ a.toInt ∧ a.toInt ≤ 6) (hb : 0 ≤ b.toInt ∧ b.toInt ≤ 6) (h : f_X11_isUnder 100000 a b = some (r, u)) (k : f_X12_isUnder a b = some (r2, u2)) : r2 = r := by
  have e := iu7 a.toInt.toNat (by omega) b.toInt.toNat (by omega)
  rw [← bt_ofn ⟨ha.1, by omega⟩, ← bt_ofn ⟨hb.1, by omega⟩, h, k] at e
  exact (congrArg Prod.fst (Option.some.inj e)).symm
theorem iu_e2 {a a2 b r r2 : Int32} {u u2 : Unit} (ha : 0 ≤ a.toInt ∧ a.toInt ≤ 6) (hb : 0 ≤ b.toInt ∧ b.toInt ≤ 6) (e : a2 = a) (h : f_X11_isUnder 100000 a b = some (r, u)) (k : f_X12_isUnder a2 b = some (r2, u2)) : r2 = r := by
  subst e
  exact iu_e ha hb h k
set_option maxHeartbeats 4000000 in
set_option maxRecDepth 20000 in
theorem pw_taken {mod_code : Int32} {court_shoeCount : Int32} {mod_claims : Int32} {ts : Int32} {at_ : Int32} {f : Int32} {court_suitCount : Int32} {mod_doneMany : Int32} {mod_undoneMany : Int32} {mod_open : Int32} {mod_laid : Int32} {mod_isBoth : Int32} {mod_wished : Int32} {mod_bestMany : Int32} {mod_bestRow : Int32} {mod_ringDigits : Int32} {mod_traces : Int32} {mod_holds : Nat → Int32} {mod_size : Nat → Int32} {mod_elements : Nat → Int64} {mod_endKind : Nat → Int32} {mod_undoneFrom : Nat → Int32} {court_claimCount : Int32} {court_suits : Nat → Option Nat} {S_who : Nat → Int32} {S_against : Nat → Int32} {S_kind : Nat → Int32} {S_won : Nat → Int32} {S_day : Nat → Int32} {S_land : Nat → Int32} {S_undoneFrom : Nat → Int32} {S_asked : Nat → Nat → Int32} {S_askedCount : Nat → Int32} {S_askedBits : Nat → Int32} {S_first : Nat → Int32} {S_foundSo : Nat → Int32} {S_foundNot : Nat → Int32} {S_fought : Nat → Int32} {S_needed : Nat → Int32} {pl_suit : Int32} {pl_holds : Int32} {pl_size : Int32} {pl_elements : Nat → Int64} {root_places : Nat → Option Nat} {x1 x2 : Int32} {j h_pl : Nat} (hj : (¬ x1 < 0 ∧ ¬ 6 ≤ x1) → x1.toNatClampNeg = j) (hP : PLR court_suitCount j pl_holds pl_suit pl_size pl_elements mod_holds mod_size mod_elements) (hn : 0 ≤ court_suitCount.toInt ∧ court_suitCount.toInt ≤ 40) (hK : WU court_suitCount S_kind mod_endKind) (hU : WU court_suitCount S_undoneFrom mod_undoneFrom) (hR : ∀ i, 0 ≤ (S_kind i).toInt ∧ (S_kind i).toInt ≤ 6) {R : Int32 × Unit} {Q : Int32 × Unit} (h : f_X11_taken h_pl x1 x2 root_places court_shoeCount court_claimCount court_suitCount court_suits pl_holds pl_suit pl_size S_who S_against S_kind S_won S_day S_land S_undoneFrom S_asked S_askedCount S_askedBits S_first S_foundSo S_foundNot S_fought S_needed = some R) (k : f_X12_taken x1 x2 mod_code court_shoeCount mod_claims ts at_ f court_suitCount mod_doneMany mod_undoneMany mod_open mod_laid mod_isBoth mod_wished mod_bestMany mod_bestRow mod_ringDigits mod_traces mod_endKind mod_undoneFrom mod_holds = some Q) : R.1 = Q.1 := by
  unfold f_X11_taken at h
  unfold f_X12_taken at k
  unfold B_X11_taken_0 at h
  replace h := zk_o2 h
  obtain ⟨cv1, cv2, ch3, h⟩ := h
  unfold f_X11_placeAt at ch3
  unfold B_X11_placeAt_0 at ch3
  by_cases cc4 : x1 < 0
  · have ch3 := zk_t cc4 ch3
    have cc4n := cc4
    (try simp only [i32_lt, i32_le, i32_e, z32_0, z32_1] at cc4n)
    first
    | (exfalso; omega)
    | simp only [Option.some.injEq, Prod.mk.injEq] at ch3
      obtain ⟨rfl, _⟩ := ch3
      replace h := zk_f (by decide) h
      unfold B_X12_taken_0 at k
      replace k := zk_o2 k
      obtain ⟨mv1, mv2, mh3, k⟩ := k
      unfold f_X12_isShelf at mh3
      unfold B_X12_isShelf_0 at mh3
      obtain ⟨mv4, mv5, mh6, mh3⟩ := zk_o2 mh3
      unfold f_X12_in at mh6
      unfold B_X12_in_0 at mh6
      have mh6 := zk_t cc4 mh6
      simp only [Option.some.injEq, Prod.mk.injEq] at mh6
      obtain ⟨rfl, _⟩ := mh6
      obtain ⟨_, mh3⟩ := zk_gd mh3
      simp only [Option.some.injEq, Prod.mk.injEq] at mh3
      obtain ⟨rfl, _⟩ := mh3
      replace k := zk_t rfl k
      replace h := Option.some.inj h
      replace k := Option.some.inj k
      subst h
      subst k
      try dsimp only
      all_goals first
      | (exfalso; omega)
      | rfl
      | exact ek.symm
  · have ch3 := zk_f cc4 ch3
    have cc4n := cc4
    (try simp only [i32_lt, i32_le, i32_e, z32_0, z32_1] at cc4n)
    first
    | (exfalso; omega)
    | by_cases cc5 : (6 : Int32) ≤ x1
      · have ch3 := zk_t cc5 ch3
        have cc5n := cc5
        (try simp only [i32_lt, i32_le, i32_e, z32_0, z32_1, z32L_6] at cc5n)
        first
        | (exfalso; omega)
        | simp only [Option.some.injEq, Prod.mk.injEq] at ch3
          obtain ⟨rfl, _⟩ := ch3
          replace h := zk_f (by decide) h
          unfold B_X12_taken_0 at k
          replace k := zk_o2 k
          obtain ⟨mv7, mv8, mh9, k⟩ := k
          unfold f_X12_isShelf at mh9
          unfold B_X12_isShelf_0 at mh9
          obtain ⟨mv10, mv11, mh12, mh9⟩ := zk_o2 mh9
          unfold f_X12_in at mh12
          unfold B_X12_in_0 at mh12
          have mh12 := zk_f cc4 mh12
          have mh12 := zk_t (by (try simp only [i32_lt, i32_le, i32_e, z32_0, z32_1, z32L_5]); omega) mh12
          simp only [Option.some.injEq, Prod.mk.injEq] at mh12
          obtain ⟨rfl, _⟩ := mh12
          obtain ⟨_, mh9⟩ := zk_gd mh9
          simp only [Option.some.injEq, Prod.mk.injEq] at mh9
          obtain ⟨rfl, _⟩ := mh9
          replace k := zk_t rfl k
          replace h := Option.some.inj h
          replace k := Option.some.inj k
          subst h
          subst k
          try dsimp only
          all_goals first
          | (exfalso; omega)
          | rfl
          | exact ek.symm
      · have ch3 := zk_f cc5 ch3
        have cc5n := cc5
        (try simp only [i32_lt, i32_le, i32_e, z32_0, z32_1, z32L_6] at cc5n)
        first
        | (exfalso; omega)
        | obtain ⟨_, ch3⟩ := zk_gd ch3
          obtain ⟨_, ch3⟩ := zk_gd ch3
          simp only [Option.some.injEq, Prod.mk.injEq] at ch3
          obtain ⟨rfl, _⟩ := ch3
          replace h := zk_t (by decide) h
          by_cases cc6 : x2 < 0
          · replace h := zk_t cc6 h
            have cc6n := cc6
            (try simp only [i32_lt, i32_le, i32_e, z32_0, z32_1] at cc6n)
            first
            | (exfalso; omega)
            | have hjj := hj ⟨cc4, cc5⟩
              subst hjj
              obtain ⟨⟨hs1, hs2, hs3⟩, he, hd⟩ := id hP
              unfold B_X12_taken_0 at k
              replace k := zk_o2 k
              obtain ⟨mv13, mv14, mh15, k⟩ := k
              unfold f_X12_isShelf at mh15
              unfold B_X12_isShelf_0 at mh15
              obtain ⟨mv16, mv17, mh18, mh15⟩ := zk_o2 mh15
              unfold f_X12_in at mh18
              unfold B_X12_in_0 at mh18
              have mh18 := zk_f cc4 mh18
              have mh18 := zk_f (by (try simp only [i32_lt, i32_le, i32_e, z32_0, z32_1, z32L_5]); omega) mh18
              simp only [Option.some.injEq, Prod.mk.injEq] at mh18
              obtain ⟨rfl, _⟩ := mh18
              obtain ⟨_, mh15⟩ := zk_gd mh15
              simp only [Option.some.injEq, Prod.mk.injEq] at mh15
              obtain ⟨rfl, _⟩ := mh15
              replace k := zk_f (by decide) k
              replace k := zk_o2 k
              obtain ⟨mv19, mv20, mh21, k⟩ := k
              unfold f_X12_in at mh21
              unfold B_X12_in_0 at mh21
              have mh21 := zk_t cc6 mh21
              simp only [Option.some.injEq, Prod.mk.injEq] at mh21
              obtain ⟨rfl, _⟩ := mh21
              replace k := zk_t rfl k
              replace h := Option.some.inj h
              replace k := Option.some.inj k
              subst h
              subst k
              try dsimp only
              all_goals first
              | (exfalso; omega)
              | rfl
              | exact ek.symm
          · replace h := zk_f cc6 h
            have cc6n := cc6
            (try simp only [i32_lt, i32_le, i32_e, z32_0, z32_1] at cc6n)
            first
            | (exfalso; omega)
            | by_cases cc7 : x2 < (7 : Int32)
              · replace h := zk_t cc7 h
                have cc7n := cc7
                (try simp only [i32_lt, i32_le, i32_e, z32_0, z32_1, z32L_7] at cc7n)
                first
                | (exfalso; omega)
                | by_cases cc8 : pl_holds = (-1 : Int32)
                  · replace h := zk_t cc8 h
                    have cc8n := cc8
                    (try simp only [i32_lt, i32_le, i32_e, z32_0, z32_1, z32N_1] at cc8n)
                    first
                    | (exfalso; omega)
                    | have hjj := hj ⟨cc4, cc5⟩
                      subst hjj
                      obtain ⟨⟨hs1, hs2, hs3⟩, he, hd⟩ := id hP
                      unfold B_X12_taken_0 at k
                      replace k := zk_o2 k
                      obtain ⟨mv22, mv23, mh24, k⟩ := k
                      unfold f_X12_isShelf at mh24
                      unfold B_X12_isShelf_0 at mh24
                      obtain ⟨mv25, mv26, mh27, mh24⟩ := zk_o2 mh24
                      unfold f_X12_in at mh27
                      unfold B_X12_in_0 at mh27
                      have mh27 := zk_f cc4 mh27
                      have mh27 := zk_f (by (try simp only [i32_lt, i32_le, i32_e, z32_0, z32_1, z32L_5]); omega) mh27
                      simp only [Option.some.injEq, Prod.mk.injEq] at mh27
                      obtain ⟨rfl, _⟩ := mh27
                      obtain ⟨_, mh24⟩ := zk_gd mh24
                      simp only [Option.some.injEq, Prod.mk.injEq] at mh24
                      obtain ⟨rfl, _⟩ := mh24
                      replace k := zk_f (by decide) k
                      replace k := zk_o2 k
                      obtain ⟨mv28, mv29, mh30, k⟩ := k
                      unfold f_X12_in at mh30
                      unfold B_X12_in_0 at mh30
                      have mh30 := zk_f cc6 mh30
                      have mh30 := zk_f (by (try simp only [i32_lt, i32_le, i32_e, z32_0, z32_1, z32L_6]); omega) mh30
                      simp only [Option.some.injEq, Prod.mk.injEq] at mh30
                      obtain ⟨rfl, _⟩ := mh30
                      replace k := zk_f (by decide) k
                      replace k := zk_gd k
                      obtain ⟨_, k⟩ := k
                      by_cases mc31 : (mod_holds x1.toNatClampNeg) = (-1 : Int32)
                      · replace k := zk_t mc31 k
                        have mc31n := mc31
                        (try simp only [i32_lt, i32_le, i32_e, z32_0, z32_1, z32N_1] at mc31n)
                        first
                        | (exfalso; omega)
                        | have h := Option.some.inj h
                          replace k := Option.some.inj k
                          subst h
                          subst k
                          try dsimp only
                          all_goals first
                          | (exfalso; omega)
                          | rfl
                          | exact ek.symm
                      · replace k := zk_f mc31 k
                        have mc31n := mc31
                        (try simp only [i32_lt, i32_le, i32_e, z32_0, z32_1, z32N_1] at mc31n)
                        first
                        | (exfalso; omega)
                        | obtain ⟨_, k⟩ := zk_gd k
                          by_cases mc32 : (mod_holds x1.toNatClampNeg) < 0
                          · replace k := zk_t mc32 k
                            have mc32n := mc32
                            (try simp only [i32_lt, i32_le, i32_e, z32_0, z32_1] at mc32n)
                            first
                            | (exfalso; omega)
                            | have h := Option.some.inj h
                              replace k := Option.some.inj k
                              subst h
                              subst k
                              try dsimp only
                              all_goals first
                              | (exfalso; omega)
                              | rfl
                              | exact ek.symm
                          · replace k := zk_f mc32 k
                            have mc32n := mc32
                            (try simp only [i32_lt, i32_le, i32_e, z32_0, z32_1] at mc32n)
                            first
                            | (exfalso; omega)
                            | obtain ⟨_, k⟩ := zk_gd k
                              replace k := zk_o2 k
                              obtain ⟨mv33, mv34, mh35, k⟩ := k
                              unfold f_X12_bodyKind at mh35
                              unfold B_X12_bodyKind_0 at mh35
                              obtain ⟨_, mh35⟩ := zk_gd mh35
                              by_cases mc36 : (mod_undoneFrom (mod_holds x1.toNatClampNeg).toNatClampNeg) < 0
                              · have mh35 := zk_t mc36 mh35
                                have mc36n := mc36
                                (try simp only [i32_lt, i32_le, i32_e, z32_0, z32_1] at mc36n)
                                first
                                | (exfalso; omega)
                                | obtain ⟨_, mh35⟩ := zk_gd mh35
                                  simp only [Option.some.injEq, Prod.mk.injEq] at mh35
                                  obtain ⟨rfl, _⟩ := mh35
                                  replace k := zk_o2 k
                                  obtain ⟨mv37, mv38, mh39, k⟩ := k
                                  skip
                                  by_cases mc40 : mv37 = 0
                                  · replace k := zk_t mc40 k
                                    have mc40n := mc40
                                    (try simp only [i32_lt, i32_le, i32_e, z32_0, z32_1] at mc40n)
                                    first
                                    | (exfalso; omega)
                                    | have h := Option.some.inj h
                                      replace k := Option.some.inj k
                                      subst h
                                      subst k
                                      try dsimp only
                                      all_goals first
                                      | (exfalso; omega)
                                      | rfl
                                      | exact ek.symm
                                  · replace k := zk_f mc40 k
                                    have mc40n := mc40
                                    (try simp only [i32_lt, i32_le, i32_e, z32_0, z32_1] at mc40n)
                                    first
                                    | (exfalso; omega)
                                    | obtain ⟨_, k⟩ := zk_gd k
                                      replace k := zk_o2 k
                                      obtain ⟨mv41, mv42, mh43, k⟩ := k
                                      unfold f_X12_bodyKind at mh43
                                      unfold B_X12_bodyKind_0 at mh43
                                      obtain ⟨_, mh43⟩ := zk_gd mh43
                                      have mh43 := zk_t mc36 mh43
                                      obtain ⟨_, mh43⟩ := zk_gd mh43
                                      simp only [Option.some.injEq, Prod.mk.injEq] at mh43
                                      obtain ⟨rfl, _⟩ := mh43
                                      replace h := Option.some.inj h
                                      replace k := Option.some.inj k
                                      subst h
                                      subst k
                                      try dsimp only
                                      all_goals first
                                      | (exfalso; omega)
                                      | rfl
                                      | exact ek.symm
                              · have mh35 := zk_f mc36 mh35
                                have mc36n := mc36
                                (try simp only [i32_lt, i32_le, i32_e, z32_0, z32_1] at mc36n)
                                first
                                | (exfalso; omega)
                                | simp only [Option.some.injEq, Prod.mk.injEq] at mh35
                                  obtain ⟨rfl, _⟩ := mh35
                                  replace k := zk_o2 k
                                  obtain ⟨mv44, mv45, mh46, k⟩ := k
                                  skip
                                  by_cases mc47 : mv44 = 0
                                  · replace k := zk_t mc47 k
                                    have mc47n := mc47
                                    (try simp only [i32_lt, i32_le, i32_e, z32_0, z32_1] at mc47n)
                                    first
                                    | (exfalso; omega)
                                    | have h := Option.some.inj h
                                      replace k := Option.some.inj k
                                      subst h
                                      subst k
                                      try dsimp only
                                      all_goals first
                                      | (exfalso; omega)
                                      | rfl
                                      | exact ek.symm
                                  · replace k := zk_f mc47 k
                                    have mc47n := mc47
                                    (try simp only [i32_lt, i32_le, i32_e, z32_0, z32_1] at mc47n)
                                    first
                                    | (exfalso; omega)
                                    | obtain ⟨_, k⟩ := zk_gd k
                                      replace k := zk_o2 k
                                      obtain ⟨mv48, mv49, mh50, k⟩ := k
                                      unfold f_X12_bodyKind at mh50
                                      unfold B_X12_bodyKind_0 at mh50
                                      obtain ⟨_, mh50⟩ := zk_gd mh50
                                      have mh50 := zk_f mc36 mh50
                                      simp only [Option.some.injEq, Prod.mk.injEq] at mh50
                                      obtain ⟨rfl, _⟩ := mh50
                                      replace h := Option.some.inj h
                                      replace k := Option.some.inj k
                                      subst h
                                      subst k
                                      try dsimp only
                                      all_goals first
                                      | (exfalso; omega)
                                      | rfl
                                      | exact ek.symm
                  · replace h := zk_f cc8 h
                    have cc8n := cc8
                    (try simp only [i32_lt, i32_le, i32_e, z32_0, z32_1, z32N_1] at cc8n)
                    first
                    | (exfalso; omega)
                    | by_cases cc9 : pl_holds = (5 : Int32)
                      · replace h := zk_t cc9 h
                        have cc9n := cc9
                        (try simp only [i32_lt, i32_le, i32_e, z32_0, z32_1, z32L_5] at cc9n)
                        first
                        | (exfalso; omega)
                        | obtain ⟨cv10, cv11, ch12, h⟩ := zk_o2 h
                          unfold f_X2_suitAt at ch12
                          unfold B_X2_suitAt_0 at ch12
                          by_cases cc13 : pl_suit < 0
                          · have ch12 := zk_t cc13 ch12
                            have cc13n := cc13
                            (try simp only [i32_lt, i32_le, i32_e, z32_0, z32_1] at cc13n)
                            first
                            | (exfalso; omega)
                            | simp only [Option.some.injEq, Prod.mk.injEq] at ch12
                              obtain ⟨rfl, _⟩ := ch12
                              replace h := zk_t (by decide) h
                              have hjj := hj ⟨cc4, cc5⟩
                              subst hjj
                              obtain ⟨⟨hs1, hs2, hs3⟩, he, hd⟩ := id hP
                              have em : mod_holds x1.toNatClampNeg = pl_suit := by rw [i32_e]; omega
                              have hi : pl_suit.toNatClampNeg < court_suitCount.toInt.toNat := by rw [tcn]; omega
                              have ek : mod_endKind pl_suit.toNatClampNeg = S_kind pl_suit.toNatClampNeg := (hK _ hi).symm
                              have eu : mod_undoneFrom pl_suit.toNatClampNeg = S_undoneFrom pl_suit.toNatClampNeg := (hU _ hi).symm
                              have hr := hR pl_suit.toNatClampNeg
                              unfold B_X12_taken_0 at k
                              rw [em] at k
                              replace k := zk_o2 k
                              obtain ⟨mv51, mv52, mh53, k⟩ := k
                              unfold f_X12_isShelf at mh53
                              unfold B_X12_isShelf_0 at mh53
                              obtain ⟨mv54, mv55, mh56, mh53⟩ := zk_o2 mh53
                              unfold f_X12_in at mh56
                              unfold B_X12_in_0 at mh56
                              have mh56 := zk_f cc4 mh56
                              have mh56 := zk_f (by (try simp only [i32_lt, i32_le, i32_e, z32_0, z32_1, z32L_5]); omega) mh56
                              simp only [Option.some.injEq, Prod.mk.injEq] at mh56
                              obtain ⟨rfl, _⟩ := mh56
                              obtain ⟨_, mh53⟩ := zk_gd mh53
                              simp only [Option.some.injEq, Prod.mk.injEq] at mh53
                              obtain ⟨rfl, _⟩ := mh53
                              replace k := zk_f (by decide) k
                              replace k := zk_o2 k
                              obtain ⟨mv57, mv58, mh59, k⟩ := k
                              unfold f_X12_in at mh59
                              unfold B_X12_in_0 at mh59
                              have mh59 := zk_f cc6 mh59
                              have mh59 := zk_f (by (try simp only [i32_lt, i32_le, i32_e, z32_0, z32_1, z32L_6]); omega) mh59
                              simp only [Option.some.injEq, Prod.mk.injEq] at mh59
                              obtain ⟨rfl, _⟩ := mh59
                              replace k := zk_f (by decide) k
                              replace k := zk_gd k
                              obtain ⟨_, k⟩ := k
                              by_cases mc60 : pl_suit = (-1 : Int32)
                              · replace k := zk_t mc60 k
                                have mc60n := mc60
                                (try simp only [i32_lt, i32_le, i32_e, z32_0, z32_1, z32N_1] at mc60n)
                                first
                                | (exfalso; omega)
                                | have h := Option.some.inj h
                                  replace k := Option.some.inj k
                                  subst h
                                  subst k
                                  try dsimp only
                                  all_goals first
                                  | (exfalso; omega)
                                  | rfl
                                  | exact ek.symm
                              · replace k := zk_f mc60 k
                                have mc60n := mc60
                                (try simp only [i32_lt, i32_le, i32_e, z32_0, z32_1, z32N_1] at mc60n)
                                first
                                | (exfalso; omega)
                                | obtain ⟨_, k⟩ := zk_gd k
                                  replace k := zk_t cc13 k
                                  replace h := Option.some.inj h
                                  replace k := Option.some.inj k
                                  subst h
                                  subst k
                                  try dsimp only
                                  all_goals first
                                  | (exfalso; omega)
                                  | rfl
                                  | exact ek.symm
                          · have ch12 := zk_f cc13 ch12
                            have cc13n := cc13
                            (try simp only [i32_lt, i32_le, i32_e, z32_0, z32_1] at cc13n)
                            first
                            | (exfalso; omega)
                            | by_cases cc14 : court_suitCount ≤ pl_suit
                              · have ch12 := zk_t cc14 ch12
                                have cc14n := cc14
                                (try simp only [i32_lt, i32_le, i32_e, z32_0, z32_1] at cc14n)
                                first
                                | (exfalso; omega)
                                | simp only [Option.some.injEq, Prod.mk.injEq] at ch12
                                  obtain ⟨rfl, _⟩ := ch12
                                  replace h := zk_t (by decide) h
                                  have hjj := hj ⟨cc4, cc5⟩
                                  subst hjj
                                  obtain ⟨⟨hs1, hs2, hs3⟩, he, hd⟩ := id hP
                                  have em : mod_holds x1.toNatClampNeg = pl_suit := by rw [i32_e]; omega
                                  have hi : pl_suit.toNatClampNeg < court_suitCount.toInt.toNat := by rw [tcn]; omega
                                  have ek : mod_endKind pl_suit.toNatClampNeg = S_kind pl_suit.toNatClampNeg := (hK _ hi).symm
                                  have eu : mod_undoneFrom pl_suit.toNatClampNeg = S_undoneFrom pl_suit.toNatClampNeg := (hU _ hi).symm
                                  have hr := hR pl_suit.toNatClampNeg
                                  unfold B_X12_taken_0 at k
                                  rw [em] at k
                                  replace k := zk_o2 k
                                  obtain ⟨mv61, mv62, mh63, k⟩ := k
                                  unfold f_X12_isShelf at mh63
                                  unfold B_X12_isShelf_0 at mh63
                                  obtain ⟨mv64, mv65, mh66, mh63⟩ := zk_o2 mh63
                                  unfold f_X12_in at mh66
                                  unfold B_X12_in_0 at mh66
                                  have mh66 := zk_f cc4 mh66
                                  have mh66 := zk_f (by (try simp only [i32_lt, i32_le, i32_e, z32_0, z32_1, z32L_5]); omega) mh66
                                  simp only [Option.some.injEq, Prod.mk.injEq] at mh66
                                  obtain ⟨rfl, _⟩ := mh66
                                  obtain ⟨_, mh63⟩ := zk_gd mh63
                                  simp only [Option.some.injEq, Prod.mk.injEq] at mh63
                                  obtain ⟨rfl, _⟩ := mh63
                                  replace k := zk_f (by decide) k
                                  replace k := zk_o2 k
                                  obtain ⟨mv67, mv68, mh69, k⟩ := k
                                  unfold f_X12_in at mh69
                                  unfold B_X12_in_0 at mh69
                                  have mh69 := zk_f cc6 mh69
                                  have mh69 := zk_f (by (try simp only [i32_lt, i32_le, i32_e, z32_0, z32_1, z32L_6]); omega) mh69
                                  simp only [Option.some.injEq, Prod.mk.injEq] at mh69
                                  obtain ⟨rfl, _⟩ := mh69
                                  replace k := zk_f (by decide) k
                                  replace k := zk_gd k
                                  obtain ⟨_, k⟩ := k
                                  replace k := zk_f (by (try simp only [i32_lt, i32_le, i32_e, z32_0, z32_1, z32N_1]); omega) k
                                  replace k := zk_gd k
                                  obtain ⟨_, k⟩ := k
                                  replace k := zk_f cc13 k
                                  replace k := zk_gd k
                                  obtain ⟨_, k⟩ := k
                                  replace k := zk_o2 k
                                  obtain ⟨mv70, mv71, mh72, k⟩ := k
                                  unfold f_X12_bodyKind at mh72
                                  unfold B_X12_bodyKind_0 at mh72
                                  rw [eu] at mh72
                                  obtain ⟨_, mh72⟩ := zk_gd mh72
                                  by_cases mc73 : (S_undoneFrom pl_suit.toNatClampNeg) < 0
                                  · have mh72 := zk_t mc73 mh72
                                    have mc73n := mc73
                                    (try simp only [i32_lt, i32_le, i32_e, z32_0, z32_1] at mc73n)
                                    first
                                    | (exfalso; omega)
                                    | obtain ⟨_, mh72⟩ := zk_gd mh72
                                      simp only [Option.some.injEq, Prod.mk.injEq] at mh72
                                      obtain ⟨rfl, _⟩ := mh72
                                      replace k := zk_o2 k
                                      obtain ⟨mv74, mv75, mh76, k⟩ := k
                                      skip
                                      by_cases mc77 : mv74 = 0
                                      · replace k := zk_t mc77 k
                                        have mc77n := mc77
                                        (try simp only [i32_lt, i32_le, i32_e, z32_0, z32_1] at mc77n)
                                        first
                                        | (exfalso; omega)
                                        | have h := Option.some.inj h
                                          replace k := Option.some.inj k
                                          subst h
                                          subst k
                                          try dsimp only
                                          all_goals first
                                          | (exfalso; omega)
                                          | rfl
                                          | exact ek.symm
                                      · replace k := zk_f mc77 k
                                        have mc77n := mc77
                                        (try simp only [i32_lt, i32_le, i32_e, z32_0, z32_1] at mc77n)
                                        first
                                        | (exfalso; omega)
                                        | obtain ⟨_, k⟩ := zk_gd k
                                          replace k := zk_o2 k
                                          obtain ⟨mv78, mv79, mh80, k⟩ := k
                                          unfold f_X12_bodyKind at mh80
                                          unfold B_X12_bodyKind_0 at mh80
                                          rw [eu] at mh80
                                          obtain ⟨_, mh80⟩ := zk_gd mh80
                                          have mh80 := zk_t mc73 mh80
                                          obtain ⟨_, mh80⟩ := zk_gd mh80
                                          simp only [Option.some.injEq, Prod.mk.injEq] at mh80
                                          obtain ⟨rfl, _⟩ := mh80
                                          replace h := Option.some.inj h
                                          replace k := Option.some.inj k
                                          subst h
                                          subst k
                                          try dsimp only
                                          all_goals first
                                          | (exfalso; omega)
                                          | rfl
                                          | exact ek.symm
                                  · have mh72 := zk_f mc73 mh72
                                    have mc73n := mc73
                                    (try simp only [i32_lt, i32_le, i32_e, z32_0, z32_1] at mc73n)
                                    first
                                    | (exfalso; omega)
                                    | simp only [Option.some.injEq, Prod.mk.injEq] at mh72
                                      obtain ⟨rfl, _⟩ := mh72
                                      replace k := zk_o2 k
                                      obtain ⟨mv81, mv82, mh83, k⟩ := k
                                      skip
                                      by_cases mc84 : mv81 = 0
                                      · replace k := zk_t mc84 k
                                        have mc84n := mc84
                                        (try simp only [i32_lt, i32_le, i32_e, z32_0, z32_1] at mc84n)
                                        first
                                        | (exfalso; omega)
                                        | have h := Option.some.inj h
                                          replace k := Option.some.inj k
                                          subst h
                                          subst k
                                          try dsimp only
                                          all_goals first
                                          | (exfalso; omega)
                                          | rfl
                                          | exact ek.symm
                                      · replace k := zk_f mc84 k
                                        have mc84n := mc84
                                        (try simp only [i32_lt, i32_le, i32_e, z32_0, z32_1] at mc84n)
                                        first
                                        | (exfalso; omega)
                                        | obtain ⟨_, k⟩ := zk_gd k
                                          replace k := zk_o2 k
                                          obtain ⟨mv85, mv86, mh87, k⟩ := k
                                          unfold f_X12_bodyKind at mh87
                                          unfold B_X12_bodyKind_0 at mh87
                                          rw [eu] at mh87
                                          obtain ⟨_, mh87⟩ := zk_gd mh87
                                          have mh87 := zk_f mc73 mh87
                                          simp only [Option.some.injEq, Prod.mk.injEq] at mh87
                                          obtain ⟨rfl, _⟩ := mh87
                                          replace h := Option.some.inj h
                                          replace k := Option.some.inj k
                                          subst h
                                          subst k
                                          try dsimp only
                                          all_goals first
                                          | (exfalso; omega)
                                          | rfl
                                          | exact ek.symm
                              · have ch12 := zk_f cc14 ch12
                                have cc14n := cc14
                                (try simp only [i32_lt, i32_le, i32_e, z32_0, z32_1] at cc14n)
                                first
                                | (exfalso; omega)
                                | obtain ⟨_, ch12⟩ := zk_gd ch12
                                  obtain ⟨_, ch12⟩ := zk_gd ch12
                                  obtain ⟨_, ch12⟩ := zk_gd ch12
                                  simp only [Option.some.injEq, Prod.mk.injEq] at ch12
                                  obtain ⟨rfl, _⟩ := ch12
                                  replace h := zk_f cc13 h
                                  replace h := zk_gd h
                                  obtain ⟨_, h⟩ := h
                                  replace h := zk_o2 h
                                  obtain ⟨cv15, cv16, ch17, h⟩ := h
                                  unfold f_X7_bodyKind at ch17
                                  unfold B_X7_bodyKind_0 at ch17
                                  by_cases cc18 : (S_undoneFrom pl_suit.toNatClampNeg) < 0
                                  · have ch17 := zk_t cc18 ch17
                                    have cc18n := cc18
                                    (try simp only [i32_lt, i32_le, i32_e, z32_0, z32_1] at cc18n)
                                    first
                                    | (exfalso; omega)
                                    | simp only [Option.some.injEq, Prod.mk.injEq] at ch17
                                      obtain ⟨rfl, _⟩ := ch17
                                      replace h := zk_o2 h
                                      obtain ⟨cv19, cv20, ch21, h⟩ := h
                                      skip
                                      by_cases cc22 : cv19 = 0
                                      · replace h := zk_t cc22 h
                                        have cc22n := cc22
                                        (try simp only [i32_lt, i32_le, i32_e, z32_0, z32_1] at cc22n)
                                        first
                                        | (exfalso; omega)
                                        | have hjj := hj ⟨cc4, cc5⟩
                                          subst hjj
                                          obtain ⟨⟨hs1, hs2, hs3⟩, he, hd⟩ := id hP
                                          have em : mod_holds x1.toNatClampNeg = pl_suit := by rw [i32_e]; omega
                                          have hi : pl_suit.toNatClampNeg < court_suitCount.toInt.toNat := by rw [tcn]; omega
                                          have ek : mod_endKind pl_suit.toNatClampNeg = S_kind pl_suit.toNatClampNeg := (hK _ hi).symm
                                          have eu : mod_undoneFrom pl_suit.toNatClampNeg = S_undoneFrom pl_suit.toNatClampNeg := (hU _ hi).symm
                                          have hr := hR pl_suit.toNatClampNeg
                                          unfold B_X12_taken_0 at k
                                          rw [em] at k
                                          replace k := zk_o2 k
                                          obtain ⟨mv88, mv89, mh90, k⟩ := k
                                          unfold f_X12_isShelf at mh90
                                          unfold B_X12_isShelf_0 at mh90
                                          obtain ⟨mv91, mv92, mh93, mh90⟩ := zk_o2 mh90
                                          unfold f_X12_in at mh93
                                          unfold B_X12_in_0 at mh93
                                          have mh93 := zk_f cc4 mh93
                                          have mh93 := zk_f (by (try simp only [i32_lt, i32_le, i32_e, z32_0, z32_1, z32L_5]); omega) mh93
                                          simp only [Option.some.injEq, Prod.mk.injEq] at mh93
                                          obtain ⟨rfl, _⟩ := mh93
                                          obtain ⟨_, mh90⟩ := zk_gd mh90
                                          simp only [Option.some.injEq, Prod.mk.injEq] at mh90
                                          obtain ⟨rfl, _⟩ := mh90
                                          replace k := zk_f (by decide) k
                                          replace k := zk_o2 k
                                          obtain ⟨mv94, mv95, mh96, k⟩ := k
                                          unfold f_X12_in at mh96
                                          unfold B_X12_in_0 at mh96
                                          have mh96 := zk_f cc6 mh96
                                          have mh96 := zk_f (by (try simp only [i32_lt, i32_le, i32_e, z32_0, z32_1, z32L_6]); omega) mh96
                                          simp only [Option.some.injEq, Prod.mk.injEq] at mh96
                                          obtain ⟨rfl, _⟩ := mh96
                                          replace k := zk_f (by decide) k
                                          replace k := zk_gd k
                                          obtain ⟨_, k⟩ := k
                                          replace k := zk_f (by (try simp only [i32_lt, i32_le, i32_e, z32_0, z32_1, z32N_1]); omega) k
                                          replace k := zk_gd k
                                          obtain ⟨_, k⟩ := k
                                          replace k := zk_f cc13 k
                                          replace k := zk_gd k
                                          obtain ⟨_, k⟩ := k
                                          replace k := zk_o2 k
                                          obtain ⟨mv97, mv98, mh99, k⟩ := k
                                          unfold f_X12_bodyKind at mh99
                                          unfold B_X12_bodyKind_0 at mh99
                                          rw [eu] at mh99
                                          obtain ⟨_, mh99⟩ := zk_gd mh99
                                          have mh99 := zk_t cc18 mh99
                                          obtain ⟨_, mh99⟩ := zk_gd mh99
                                          simp only [Option.some.injEq, Prod.mk.injEq] at mh99
                                          obtain ⟨rfl, _⟩ := mh99
                                          replace k := zk_o2 k
                                          obtain ⟨mv100, mv101, mh102, k⟩ := k
                                          obtain mq103 := iu_e2 (by first | exact hr | decide) (by omega) (by first | rfl | exact ek) ch21 mh102
                                          replace mq103 := mq103.symm
                                          subst mq103
                                          replace k := zk_t cc22 k
                                          replace h := Option.some.inj h
                                          replace k := Option.some.inj k
                                          subst h
                                          subst k
                                          try dsimp only
                                          all_goals first
                                          | (exfalso; omega)
                                          | rfl
                                          | exact ek.symm
                                      · replace h := zk_f cc22 h
                                        have cc22n := cc22
                                        (try simp only [i32_lt, i32_le, i32_e, z32_0, z32_1] at cc22n)
                                        first
                                        | (exfalso; omega)
                                        | obtain ⟨_, h⟩ := zk_gd h
                                          replace h := zk_o2 h
                                          obtain ⟨cv23, cv24, ch25, h⟩ := h
                                          unfold f_X7_bodyKind at ch25
                                          unfold B_X7_bodyKind_0 at ch25
                                          have ch25 := zk_t cc18 ch25
                                          simp only [Option.some.injEq, Prod.mk.injEq] at ch25
                                          obtain ⟨rfl, _⟩ := ch25
                                          have hjj := hj ⟨cc4, cc5⟩
                                          subst hjj
                                          obtain ⟨⟨hs1, hs2, hs3⟩, he, hd⟩ := id hP
                                          have em : mod_holds x1.toNatClampNeg = pl_suit := by rw [i32_e]; omega
                                          have hi : pl_suit.toNatClampNeg < court_suitCount.toInt.toNat := by rw [tcn]; omega
                                          have ek : mod_endKind pl_suit.toNatClampNeg = S_kind pl_suit.toNatClampNeg := (hK _ hi).symm
                                          have eu : mod_undoneFrom pl_suit.toNatClampNeg = S_undoneFrom pl_suit.toNatClampNeg := (hU _ hi).symm
                                          have hr := hR pl_suit.toNatClampNeg
                                          unfold B_X12_taken_0 at k
                                          rw [em] at k
                                          replace k := zk_o2 k
                                          obtain ⟨mv104, mv105, mh106, k⟩ := k
                                          unfold f_X12_isShelf at mh106
                                          unfold B_X12_isShelf_0 at mh106
                                          obtain ⟨mv107, mv108, mh109, mh106⟩ := zk_o2 mh106
                                          unfold f_X12_in at mh109
                                          unfold B_X12_in_0 at mh109
                                          have mh109 := zk_f cc4 mh109
                                          have mh109 := zk_f (by (try simp only [i32_lt, i32_le, i32_e, z32_0, z32_1, z32L_5]); omega) mh109
                                          simp only [Option.some.injEq, Prod.mk.injEq] at mh109
                                          obtain ⟨rfl, _⟩ := mh109
                                          obtain ⟨_, mh106⟩ := zk_gd mh106
                                          simp only [Option.some.injEq, Prod.mk.injEq] at mh106
                                          obtain ⟨rfl, _⟩ := mh106
                                          replace k := zk_f (by decide) k
                                          replace k := zk_o2 k
                                          obtain ⟨mv110, mv111, mh112, k⟩ := k
                                          unfold f_X12_in at mh112
                                          unfold B_X12_in_0 at mh112
                                          have mh112 := zk_f cc6 mh112
                                          have mh112 := zk_f (by (try simp only [i32_lt, i32_le, i32_e, z32_0, z32_1, z32L_6]); omega) mh112
                                          simp only [Option.some.injEq, Prod.mk.injEq] at mh112
                                          obtain ⟨rfl, _⟩ := mh112
                                          replace k := zk_f (by decide) k
                                          replace k := zk_gd k
                                          obtain ⟨_, k⟩ := k
                                          replace k := zk_f (by (try simp only [i32_lt, i32_le, i32_e, z32_0, z32_1, z32N_1]); omega) k
                                          replace k := zk_gd k
                                          obtain ⟨_, k⟩ := k
                                          replace k := zk_f cc13 k
                                          replace k := zk_gd k
                                          obtain ⟨_, k⟩ := k
                                          replace k := zk_o2 k
                                          obtain ⟨mv113, mv114, mh115, k⟩ := k
                                          unfold f_X12_bodyKind at mh115
                                          unfold B_X12_bodyKind_0 at mh115
                                          rw [eu] at mh115
                                          obtain ⟨_, mh115⟩ := zk_gd mh115
                                          have mh115 := zk_t cc18 mh115
                                          obtain ⟨_, mh115⟩ := zk_gd mh115
                                          simp only [Option.some.injEq, Prod.mk.injEq] at mh115
                                          obtain ⟨rfl, _⟩ := mh115
                                          replace k := zk_o2 k
                                          obtain ⟨mv116, mv117, mh118, k⟩ := k
                                          obtain mq119 := iu_e2 (by first | exact hr | decide) (by omega) (by first | rfl | exact ek) ch21 mh118
                                          replace mq119 := mq119.symm
                                          subst mq119
                                          replace k := zk_f cc22 k
                                          replace k := zk_gd k
                                          obtain ⟨_, k⟩ := k
                                          replace k := zk_o2 k
                                          obtain ⟨mv120, mv121, mh122, k⟩ := k
                                          unfold f_X12_bodyKind at mh122
                                          unfold B_X12_bodyKind_0 at mh122
                                          rw [eu] at mh122
                                          obtain ⟨_, mh122⟩ := zk_gd mh122
                                          have mh122 := zk_t cc18 mh122
                                          obtain ⟨_, mh122⟩ := zk_gd mh122
                                          simp only [Option.some.injEq, Prod.mk.injEq] at mh122
                                          obtain ⟨rfl, _⟩ := mh122
                                          replace h := Option.some.inj h
                                          replace k := Option.some.inj k
                                          subst h
                                          subst k
                                          try dsimp only
                                          all_goals first
                                          | (exfalso; omega)
                                          | rfl
                                          | exact ek.symm
                                  · have ch17 := zk_f cc18 ch17
                                    have cc18n := cc18
                                    (try simp only [i32_lt, i32_le, i32_e, z32_0, z32_1] at cc18n)
                                    first
                                    | (exfalso; omega)
                                    | simp only [Option.some.injEq, Prod.mk.injEq] at ch17
                                      obtain ⟨rfl, _⟩ := ch17
                                      replace h := zk_o2 h
                                      obtain ⟨cv26, cv27, ch28, h⟩ := h
                                      skip
                                      by_cases cc29 : cv26 = 0
                                      · replace h := zk_t cc29 h
                                        have cc29n := cc29
                                        (try simp only [i32_lt, i32_le, i32_e, z32_0, z32_1] at cc29n)
                                        first
                                        | (exfalso; omega)
                                        | have hjj := hj ⟨cc4, cc5⟩
                                          subst hjj
                                          obtain ⟨⟨hs1, hs2, hs3⟩, he, hd⟩ := id hP
                                          have em : mod_holds x1.toNatClampNeg = pl_suit := by rw [i32_e]; omega
                                          have hi : pl_suit.toNatClampNeg < court_suitCount.toInt.toNat := by rw [tcn]; omega
                                          have ek : mod_endKind pl_suit.toNatClampNeg = S_kind pl_suit.toNatClampNeg := (hK _ hi).symm
                                          have eu : mod_undoneFrom pl_suit.toNatClampNeg = S_undoneFrom pl_suit.toNatClampNeg := (hU _ hi).symm
                                          have hr := hR pl_suit.toNatClampNeg
                                          unfold B_X12_taken_0 at k
                                          rw [em] at k
                                          replace k := zk_o2 k
                                          obtain ⟨mv123, mv124, mh125, k⟩ := k
                                          unfold f_X12_isShelf at mh125
                                          unfold B_X12_isShelf_0 at mh125
                                          obtain ⟨mv126, mv127, mh128, mh125⟩ := zk_o2 mh125
                                          unfold f_X12_in at mh128
                                          unfold B_X12_in_0 at mh128
                                          have mh128 := zk_f cc4 mh128
                                          have mh128 := zk_f (by (try simp only [i32_lt, i32_le, i32_e, z32_0, z32_1, z32L_5]); omega) mh128
                                          simp only [Option.some.injEq, Prod.mk.injEq] at mh128
                                          obtain ⟨rfl, _⟩ := mh128
                                          obtain ⟨_, mh125⟩ := zk_gd mh125
                                          simp only [Option.some.injEq, Prod.mk.injEq] at mh125
                                          obtain ⟨rfl, _⟩ := mh125
                                          replace k := zk_f (by decide) k
                                          replace k := zk_o2 k
                                          obtain ⟨mv129, mv130, mh131, k⟩ := k
                                          unfold f_X12_in at mh131
                                          unfold B_X12_in_0 at mh131
                                          have mh131 := zk_f cc6 mh131
                                          have mh131 := zk_f (by (try simp only [i32_lt, i32_le, i32_e, z32_0, z32_1, z32L_6]); omega) mh131
                                          simp only [Option.some.injEq, Prod.mk.injEq] at mh131
                                          obtain ⟨rfl, _⟩ := mh131
                                          replace k := zk_f (by decide) k
                                          replace k := zk_gd k
                                          obtain ⟨_, k⟩ := k
                                          replace k := zk_f (by (try simp only [i32_lt, i32_le, i32_e, z32_0, z32_1, z32N_1]); omega) k
                                          replace k := zk_gd k
                                          obtain ⟨_, k⟩ := k
                                          replace k := zk_f cc13 k
                                          replace k := zk_gd k
                                          obtain ⟨_, k⟩ := k
                                          replace k := zk_o2 k
                                          obtain ⟨mv132, mv133, mh134, k⟩ := k
                                          unfold f_X12_bodyKind at mh134
                                          unfold B_X12_bodyKind_0 at mh134
                                          rw [eu] at mh134
                                          obtain ⟨_, mh134⟩ := zk_gd mh134
                                          have mh134 := zk_f cc18 mh134
                                          simp only [Option.some.injEq, Prod.mk.injEq] at mh134
                                          obtain ⟨rfl, _⟩ := mh134
                                          replace k := zk_o2 k
                                          obtain ⟨mv135, mv136, mh137, k⟩ := k
                                          obtain mq138 := iu_e2 (by first | exact hr | decide) (by omega) (by first | rfl | exact ek) ch28 mh137
                                          replace mq138 := mq138.symm
                                          subst mq138
                                          replace k := zk_t cc29 k
                                          replace h := Option.some.inj h
                                          replace k := Option.some.inj k
                                          subst h
                                          subst k
                                          try dsimp only
                                          all_goals first
                                          | (exfalso; omega)
                                          | rfl
                                          | exact ek.symm
                                      · replace h := zk_f cc29 h
                                        have cc29n := cc29
                                        (try simp only [i32_lt, i32_le, i32_e, z32_0, z32_1] at cc29n)
                                        first
                                        | (exfalso; omega)
                                        | obtain ⟨_, h⟩ := zk_gd h
                                          replace h := zk_o2 h
                                          obtain ⟨cv30, cv31, ch32, h⟩ := h
                                          unfold f_X7_bodyKind at ch32
                                          unfold B_X7_bodyKind_0 at ch32
                                          have ch32 := zk_f cc18 ch32
                                          simp only [Option.some.injEq, Prod.mk.injEq] at ch32
                                          obtain ⟨rfl, _⟩ := ch32
                                          have hjj := hj ⟨cc4, cc5⟩
                                          subst hjj
                                          obtain ⟨⟨hs1, hs2, hs3⟩, he, hd⟩ := id hP
                                          have em : mod_holds x1.toNatClampNeg = pl_suit := by rw [i32_e]; omega
                                          have hi : pl_suit.toNatClampNeg < court_suitCount.toInt.toNat := by rw [tcn]; omega
                                          have ek : mod_endKind pl_suit.toNatClampNeg = S_kind pl_suit.toNatClampNeg := (hK _ hi).symm
                                          have eu : mod_undoneFrom pl_suit.toNatClampNeg = S_undoneFrom pl_suit.toNatClampNeg := (hU _ hi).symm
                                          have hr := hR pl_suit.toNatClampNeg
                                          unfold B_X12_taken_0 at k
                                          rw [em] at k
                                          replace k := zk_o2 k
                                          obtain ⟨mv139, mv140, mh141, k⟩ := k
                                          unfold f_X12_isShelf at mh141
                                          unfold B_X12_isShelf_0 at mh141
                                          obtain ⟨mv142, mv143, mh144, mh141⟩ := zk_o2 mh141
                                          unfold f_X12_in at mh144
                                          unfold B_X12_in_0 at mh144
                                          have mh144 := zk_f cc4 mh144
                                          have mh144 := zk_f (by (try simp only [i32_lt, i32_le, i32_e, z32_0, z32_1, z32L_5]); omega) mh144
                                          simp only [Option.some.injEq, Prod.mk.injEq] at mh144
                                          obtain ⟨rfl, _⟩ := mh144
                                          obtain ⟨_, mh141⟩ := zk_gd mh141
                                          simp only [Option.some.injEq, Prod.mk.injEq] at mh141
                                          obtain ⟨rfl, _⟩ := mh141
                                          replace k := zk_f (by decide) k
                                          replace k := zk_o2 k
                                          obtain ⟨mv145, mv146, mh147, k⟩ := k
                                          unfold f_X12_in at mh147
                                          unfold B_X12_in_0 at mh147
                                          have mh147 := zk_f cc6 mh147
                                          have mh147 := zk_f (by (try simp only [i32_lt, i32_le, i32_e, z32_0, z32_1, z32L_6]); omega) mh147
                                          simp only [Option.some.injEq, Prod.mk.injEq] at mh147
                                          obtain ⟨rfl, _⟩ := mh147
                                          replace k := zk_f (by decide) k
                                          replace k := zk_gd k
                                          obtain ⟨_, k⟩ := k
                                          replace k := zk_f (by (try simp only [i32_lt, i32_le, i32_e, z32_0, z32_1, z32N_1]); omega) k
                                          replace k := zk_gd k
                                          obtain ⟨_, k⟩ := k
                                          replace k := zk_f cc13 k
                                          replace k := zk_gd k
                                          obtain ⟨_, k⟩ := k
                                          replace k := zk_o2 k
                                          obtain ⟨mv148, mv149, mh150, k⟩ := k
                                          unfold f_X12_bodyKind at mh150
                                          unfold B_X12_bodyKind_0 at mh150
                                          rw [eu] at mh150
                                          obtain ⟨_, mh150⟩ := zk_gd mh150
                                          have mh150 := zk_f cc18 mh150
                                          simp only [Option.some.injEq, Prod.mk.injEq] at mh150
                                          obtain ⟨rfl, _⟩ := mh150
                                          replace k := zk_o2 k
                                          obtain ⟨mv151, mv152, mh153, k⟩ := k
                                          obtain mq154 := iu_e2 (by first | exact hr | decide) (by omega) (by first | rfl | exact ek) ch28 mh153
                                          replace mq154 := mq154.symm
                                          subst mq154
                                          replace k := zk_f cc29 k
                                          replace k := zk_gd k
                                          obtain ⟨_, k⟩ := k
                                          replace k := zk_o2 k
                                          obtain ⟨mv155, mv156, mh157, k⟩ := k
                                          unfold f_X12_bodyKind at mh157
                                          unfold B_X12_bodyKind_0 at mh157
                                          rw [eu] at mh157
                                          obtain ⟨_, mh157⟩ := zk_gd mh157
                                          have mh157 := zk_f cc18 mh157
                                          simp only [Option.some.injEq, Prod.mk.injEq] at mh157
                                          obtain ⟨rfl, _⟩ := mh157
                                          replace h := Option.some.inj h
                                          replace k := Option.some.inj k
                                          subst h
                                          subst k
                                          try dsimp only
                                          all_goals first
                                          | (exfalso; omega)
                                          | rfl
                                          | exact ek.symm
                      · replace h := zk_f cc9 h
                        have cc9n := cc9
                        (try simp only [i32_lt, i32_le, i32_e, z32_0, z32_1, z32L_5] at cc9n)
                        first
                        | (exfalso; omega)
                        | have hjj := hj ⟨cc4, cc5⟩
                          subst hjj
                          obtain ⟨⟨hs1, hs2, hs3⟩, he, hd⟩ := id hP
                          unfold B_X12_taken_0 at k
                          replace k := zk_o2 k
                          obtain ⟨mv158, mv159, mh160, k⟩ := k
                          unfold f_X12_isShelf at mh160
                          unfold B_X12_isShelf_0 at mh160
                          obtain ⟨mv161, mv162, mh163, mh160⟩ := zk_o2 mh160
                          unfold f_X12_in at mh163
                          unfold B_X12_in_0 at mh163
                          have mh163 := zk_f cc4 mh163
                          have mh163 := zk_f (by (try simp only [i32_lt, i32_le, i32_e, z32_0, z32_1, z32L_5]); omega) mh163
                          simp only [Option.some.injEq, Prod.mk.injEq] at mh163
                          obtain ⟨rfl, _⟩ := mh163
                          obtain ⟨_, mh160⟩ := zk_gd mh160
                          simp only [Option.some.injEq, Prod.mk.injEq] at mh160
                          obtain ⟨rfl, _⟩ := mh160
                          replace k := zk_f (by decide) k
                          replace k := zk_o2 k
                          obtain ⟨mv164, mv165, mh166, k⟩ := k
                          unfold f_X12_in at mh166
                          unfold B_X12_in_0 at mh166
                          have mh166 := zk_f cc6 mh166
                          have mh166 := zk_f (by (try simp only [i32_lt, i32_le, i32_e, z32_0, z32_1, z32L_6]); omega) mh166
                          simp only [Option.some.injEq, Prod.mk.injEq] at mh166
                          obtain ⟨rfl, _⟩ := mh166
                          replace k := zk_f (by decide) k
                          replace k := zk_gd k
                          obtain ⟨_, k⟩ := k
                          by_cases mc167 : (mod_holds x1.toNatClampNeg) = (-1 : Int32)
                          · replace k := zk_t mc167 k
                            have mc167n := mc167
                            (try simp only [i32_lt, i32_le, i32_e, z32_0, z32_1, z32N_1] at mc167n)
                            first
                            | (exfalso; omega)
                            | have h := Option.some.inj h
                              replace k := Option.some.inj k
                              subst h
                              subst k
                              try dsimp only
                              all_goals first
                              | (exfalso; omega)
                              | rfl
                              | exact ek.symm
                          · replace k := zk_f mc167 k
                            have mc167n := mc167
                            (try simp only [i32_lt, i32_le, i32_e, z32_0, z32_1, z32N_1] at mc167n)
                            first
                            | (exfalso; omega)
                            | obtain ⟨_, k⟩ := zk_gd k
                              by_cases mc168 : (mod_holds x1.toNatClampNeg) < 0
                              · replace k := zk_t mc168 k
                                have mc168n := mc168
                                (try simp only [i32_lt, i32_le, i32_e, z32_0, z32_1] at mc168n)
                                first
                                | (exfalso; omega)
                                | have h := Option.some.inj h
                                  replace k := Option.some.inj k
                                  subst h
                                  subst k
                                  try dsimp only
                                  all_goals first
                                  | (exfalso; omega)
                                  | rfl
                                  | exact ek.symm
                              · replace k := zk_f mc168 k
                                have mc168n := mc168
                                (try simp only [i32_lt, i32_le, i32_e, z32_0, z32_1] at mc168n)
                                first
                                | (exfalso; omega)
                                | obtain ⟨_, k⟩ := zk_gd k
                                  replace k := zk_o2 k
                                  obtain ⟨mv169, mv170, mh171, k⟩ := k
                                  unfold f_X12_bodyKind at mh171
                                  unfold B_X12_bodyKind_0 at mh171
                                  obtain ⟨_, mh171⟩ := zk_gd mh171
                                  by_cases mc172 : (mod_undoneFrom (mod_holds x1.toNatClampNeg).toNatClampNeg) < 0
                                  · have mh171 := zk_t mc172 mh171
                                    have mc172n := mc172
                                    (try simp only [i32_lt, i32_le, i32_e, z32_0, z32_1] at mc172n)
                                    first
                                    | (exfalso; omega)
                                    | obtain ⟨_, mh171⟩ := zk_gd mh171
                                      simp only [Option.some.injEq, Prod.mk.injEq] at mh171
                                      obtain ⟨rfl, _⟩ := mh171
                                      replace k := zk_o2 k
                                      obtain ⟨mv173, mv174, mh175, k⟩ := k
                                      skip
                                      by_cases mc176 : mv173 = 0
                                      · replace k := zk_t mc176 k
                                        have mc176n := mc176
                                        (try simp only [i32_lt, i32_le, i32_e, z32_0, z32_1] at mc176n)
                                        first
                                        | (exfalso; omega)
                                        | have h := Option.some.inj h
                                          replace k := Option.some.inj k
                                          subst h
                                          subst k
                                          try dsimp only
                                          all_goals first
                                          | (exfalso; omega)
                                          | rfl
                                          | exact ek.symm
                                      · replace k := zk_f mc176 k
                                        have mc176n := mc176
                                        (try simp only [i32_lt, i32_le, i32_e, z32_0, z32_1] at mc176n)
                                        first
                                        | (exfalso; omega)
                                        | obtain ⟨_, k⟩ := zk_gd k
                                          replace k := zk_o2 k
                                          obtain ⟨mv177, mv178, mh179, k⟩ := k
                                          unfold f_X12_bodyKind at mh179
                                          unfold B_X12_bodyKind_0 at mh179
                                          obtain ⟨_, mh179⟩ := zk_gd mh179
                                          have mh179 := zk_t mc172 mh179
                                          obtain ⟨_, mh179⟩ := zk_gd mh179
                                          simp only [Option.some.injEq, Prod.mk.injEq] at mh179
                                          obtain ⟨rfl, _⟩ := mh179
                                          replace h := Option.some.inj h
                                          replace k := Option.some.inj k
                                          subst h
                                          subst k
                                          try dsimp only
                                          all_goals first
                                          | (exfalso; omega)
                                          | rfl
                                          | exact ek.symm
                                  · have mh171 := zk_f mc172 mh171
                                    have mc172n := mc172
                                    (try simp only [i32_lt, i32_le, i32_e, z32_0, z32_1] at mc172n)
                                    first
                                    | (exfalso; omega)
                                    | simp only [Option.some.injEq, Prod.mk.injEq] at mh171
                                      obtain ⟨rfl, _⟩ := mh171
                                      replace k := zk_o2 k
                                      obtain ⟨mv180, mv181, mh182, k⟩ := k
                                      skip
                                      by_cases mc183 : mv180 = 0
                                      · replace k := zk_t mc183 k
                                        have mc183n := mc183
                                        (try simp only [i32_lt, i32_le, i32_e, z32_0, z32_1] at mc183n)
                                        first
                                        | (exfalso; omega)
                                        | have h := Option.some.inj h
                                          replace k := Option.some.inj k
                                          subst h
                                          subst k
                                          try dsimp only
                                          all_goals first
                                          | (exfalso; omega)
                                          | rfl
                                          | exact ek.symm
                                      · replace k := zk_f mc183 k
                                        have mc183n := mc183
                                        (try simp only [i32_lt, i32_le, i32_e, z32_0, z32_1] at mc183n)
                                        first
                                        | (exfalso; omega)
                                        | obtain ⟨_, k⟩ := zk_gd k
                                          replace k := zk_o2 k
                                          obtain ⟨mv184, mv185, mh186, k⟩ := k
                                          unfold f_X12_bodyKind at mh186
                                          unfold B_X12_bodyKind_0 at mh186
                                          obtain ⟨_, mh186⟩ := zk_gd mh186
                                          have mh186 := zk_f mc172 mh186
                                          simp only [Option.some.injEq, Prod.mk.injEq] at mh186
                                          obtain ⟨rfl, _⟩ := mh186
                                          replace h := Option.some.inj h
                                          replace k := Option.some.inj k
                                          subst h
                                          subst k
                                          try dsimp only
                                          all_goals first
                                          | (exfalso; omega)
                                          | rfl
                                          | exact ek.symm
              · replace h := zk_f cc7 h
                have cc7n := cc7
                (try simp only [i32_lt, i32_le, i32_e, z32_0, z32_1, z32L_7] at cc7n)
                first
                | (exfalso; omega)
                | have hjj := hj ⟨cc4, cc5⟩
                  subst hjj
                  obtain ⟨⟨hs1, hs2, hs3⟩, he, hd⟩ := id hP
                  unfold B_X12_taken_0 at k
                  replace k := zk_o2 k
                  obtain ⟨mv187, mv188, mh189, k⟩ := k
                  unfold f_X12_isShelf at mh189
                  unfold B_X12_isShelf_0 at mh189
                  obtain ⟨mv190, mv191, mh192, mh189⟩ := zk_o2 mh189
                  unfold f_X12_in at mh192
                  unfold B_X12_in_0 at mh192
                  have mh192 := zk_f cc4 mh192
                  have mh192 := zk_f (by (try simp only [i32_lt, i32_le, i32_e, z32_0, z32_1, z32L_5]); omega) mh192
                  simp only [Option.some.injEq, Prod.mk.injEq] at mh192
                  obtain ⟨rfl, _⟩ := mh192
                  obtain ⟨_, mh189⟩ := zk_gd mh189
                  simp only [Option.some.injEq, Prod.mk.injEq] at mh189
                  obtain ⟨rfl, _⟩ := mh189
                  replace k := zk_f (by decide) k
                  replace k := zk_o2 k
                  obtain ⟨mv193, mv194, mh195, k⟩ := k
                  unfold f_X12_in at mh195
                  unfold B_X12_in_0 at mh195
                  have mh195 := zk_f cc6 mh195
                  have mh195 := zk_t (by (try simp only [i32_lt, i32_le, i32_e, z32_0, z32_1, z32L_6]); omega) mh195
                  simp only [Option.some.injEq, Prod.mk.injEq] at mh195
                  obtain ⟨rfl, _⟩ := mh195
                  replace k := zk_t rfl k
                  replace h := Option.some.inj h
                  replace k := Option.some.inj k
                  subst h
                  subst k
                  try dsimp only
                  all_goals first
                  | (exfalso; omega)
                  | rfl
                  | exact ek.symm

set_option maxHeartbeats 4000000 in
set_option maxRecDepth 20000 in
theorem bk8_e {su_who : Int32} {su_against : Int32} {su_kind : Int32} {su_won : Int32} {su_day : Int32} {su_land : Int32} {su_undoneFrom : Int32} {su_askedCount : Int32} {su_askedBits : Int32} {su_first : Int32} {su_foundSo : Int32} {su_foundNot : Int32} {su_fought : Int32} {su_needed : Int32} {r K : Int32} {u : Unit} (hB : (su_undoneFrom.toInt < 0 ∧ su_kind = K) ∨ (0 ≤ su_undoneFrom.toInt ∧ K = 5)) (h : f_X7_bodyKind su_who su_against su_kind su_won su_day su_land su_undoneFrom su_askedCount su_askedBits su_first su_foundSo su_foundNot su_fought su_needed = some (r, u)) : r = K := by
  unfold f_X7_bodyKind B_X7_bodyKind_0 at h
  by_cases c : su_undoneFrom < 0
  · replace h := (congrArg Prod.fst (Option.some.inj (zk_t c h))).symm
    rw [i32_lt, z32_0] at c
    rcases hB with ⟨_, b⟩ | ⟨b, _⟩
    · exact h.trans b
    · omega
  · replace h := (congrArg Prod.fst (Option.some.inj (zk_f c h))).symm
    rw [i32_lt, z32_0] at c
    rcases hB with ⟨b, _⟩ | ⟨_, b⟩
    · omega
    · exact h.trans b.symm
set_option maxHeartbeats 4000000 in
set_option maxRecDepth 20000 in
theorem bk12_e {mod_code : Int32} {court_shoeCount : Int32} {mod_claims : Int32} {ts : Int32} {at_ : Int32} {f : Int32} {court_suitCount : Int32} {mod_doneMany : Int32} {mod_undoneMany : Int32} {mod_open : Int32} {mod_laid : Int32} {mod_isBoth : Int32} {mod_wished : Int32} {mod_bestMany : Int32} {mod_bestRow : Int32} {mod_ringDigits : Int32} {mod_traces : Int32} {mod_endKind : Nat → Int32} {mod_undoneFrom : Nat → Int32} {x1 r K : Int32} {u : Unit} (hB : ((mod_undoneFrom x1.toNatClampNeg).toInt < 0 ∧ mod_endKind x1.toNatClampNeg = K) ∨ (0 ≤ (mod_undoneFrom x1.toNatClampNeg).toInt ∧ K = 5)) (h : f_X12_bodyKind x1 mod_code court_shoeCount mod_claims ts at_ f court_suitCount mod_doneMany mod_undoneMany mod_open mod_laid mod_isBoth mod_wished mod_bestMany mod_bestRow mod_ringDigits mod_traces mod_endKind mod_undoneFrom = some (r, u)) : r = K := by
  unfold f_X12_bodyKind B_X12_bodyKind_0 at h
  replace h := zk_gd h
  obtain ⟨_, h⟩ := h
  by_cases c : mod_undoneFrom x1.toNatClampNeg < 0
  · replace h := zk_t c h
    replace h := zk_gd h
    obtain ⟨_, h⟩ := h
    replace h := (congrArg Prod.fst (Option.some.inj h)).symm
    rw [i32_lt, z32_0] at c
    rcases hB with ⟨_, b⟩ | ⟨b, _⟩
    · exact h.trans b
    · omega
  · replace h := (congrArg Prod.fst (Option.some.inj (zk_f c h))).symm
    rw [i32_lt, z32_0] at c
    rcases hB with ⟨b, _⟩ | ⟨_, b⟩
    · omega
    · exact h.trans b.symm
set_option maxHeartbeats 4000000 in
set_option maxRecDepth 20000 in
theorem pw_act0 {mod_code : Int32} {court_shoeCount : Int32} {mod_claims : Int32} {ts : Int32} {at_ : Int32} {f : Int32} {court_suitCount : Int32} {mod_doneMany : Int32} {mod_undoneMany : Int32} {mod_open : Int32} {mod_laid : Int32} {mod_isBoth : Int32} {mod_wished : Int32} {mod_bestMany : Int32} {mod_bestRow : Int32} {mod_ringDigits : Int32} {mod_traces : Int32} {mod_askedMany : Nat → Int32} {mod_endKind : Nat → Int32} {mod_undoneFrom : Nat → Int32} {mod_traced : Nat → Int32} {court_claimCount : Int32} {court_suits : Nat → Option Nat} {S_who : Nat → Int32} {S_against : Nat → Int32} {S_kind : Nat → Int32} {S_won : Nat → Int32} {S_day : Nat → Int32} {S_land : Nat → Int32} {S_undoneFrom : Nat → Int32} {S_asked : Nat → Nat → Int32} {S_askedCount : Nat → Int32} {S_askedBits : Nat → Int32} {S_first : Nat → Int32} {S_foundSo : Nat → Int32} {S_foundNot : Nat → Int32} {S_fought : Nat → Int32} {S_needed : Nat → Int32} {acts_ran : Int32} {acts_kind : Int32} {acts_number : Int32} {acts_claims : Int32} {acts_bodies : Nat → Int32} {x1 x2 x3 : Int32} {R : Int32 × Int32 × Int32 × Int32 × Int32 × (Nat → Int32)} {Q : Int32 × Int32 × (Nat → Int32)} (hn : 0 ≤ court_suitCount.toInt ∧ court_suitCount.toInt ≤ 40) (hA : WU court_suitCount S_askedCount mod_askedMany) (hB8 : ((S_undoneFrom x1.toNatClampNeg).toInt < 0 ∧ S_kind x1.toNatClampNeg = (0 : Int32)) ∨ (0 ≤ (S_undoneFrom x1.toNatClampNeg).toInt ∧ (0 : Int32) = 5)) (hB12 : x1.toNatClampNeg < court_suitCount.toInt.toNat → ((mod_undoneFrom x1.toNatClampNeg).toInt < 0 ∧ mod_endKind x1.toNatClampNeg = (0 : Int32)) ∨ (0 ≤ (mod_undoneFrom x1.toNatClampNeg).toInt ∧ (0 : Int32) = 5)) (h : f_X11_act x1 x2 x3 court_shoeCount court_claimCount court_suitCount court_suits acts_ran acts_kind acts_number acts_claims acts_bodies S_who S_against S_kind S_won S_day S_land S_undoneFrom S_asked S_askedCount S_askedBits S_first S_foundSo S_foundNot S_fought S_needed = some R) (k : f_X12_act x1 x2 x3 mod_code court_shoeCount mod_claims ts at_ f court_suitCount mod_doneMany mod_undoneMany mod_open mod_laid mod_isBoth mod_wished mod_bestMany mod_bestRow mod_ringDigits mod_traces mod_endKind mod_undoneFrom mod_askedMany mod_traced = some Q) : R.1 = Q.1 ∧ R.2.1 = Q.2.1 ∧ (acts_bodies = mod_traced → R.2.2.2.2.2 = Q.2.2) := by
  have hn1 := i32_m1 (a := court_suitCount) (by omega)
  unfold f_X11_act at h
  unfold f_X12_act at k
  unfold B_X11_act_0 at h
  replace h := zk_o2 h
  obtain ⟨cv1, cv2, ch3, h⟩ := h
  unfold f_X2_suitAt at ch3
  unfold B_X2_suitAt_0 at ch3
  by_cases cc4 : x1 < 0
  · have ch3 := zk_t cc4 ch3
    have cc4n := cc4
    (try simp only [i32_lt, i32_le, i32_e, z32_0, z32_1] at cc4n)
    first
    | (exfalso; omega)
    | simp only [Option.some.injEq, Prod.mk.injEq] at ch3
      obtain ⟨rfl, _⟩ := ch3
      replace h := zk_t (by decide) h
      unfold B_X12_act_0 at k
      replace k := zk_o2 k
      obtain ⟨mv1, mv2, mh3, k⟩ := k
      unfold f_X12_isSuit at mh3
      unfold B_X12_isSuit_0 at mh3
      obtain ⟨mv4, mv5, mh6, mh3⟩ := zk_o2 mh3
      unfold f_X12_in at mh6
      unfold B_X12_in_0 at mh6
      have mh6 := zk_t cc4 mh6
      simp only [Option.some.injEq, Prod.mk.injEq] at mh6
      obtain ⟨rfl, _⟩ := mh6
      obtain ⟨_, mh3⟩ := zk_gd mh3
      simp only [Option.some.injEq, Prod.mk.injEq] at mh3
      obtain ⟨rfl, _⟩ := mh3
      replace k := zk_t rfl k
      replace h := Option.some.inj h
      replace k := Option.some.inj k
      subst h
      subst k
      try dsimp only
      all_goals first
      | (exfalso; omega)
      | exact ⟨rfl, rfl, fun e => by first | exact e | rw [e]⟩
      | exact ⟨rfl, rfl, fun e => by rw [e]; rfl⟩
  · have ch3 := zk_f cc4 ch3
    have cc4n := cc4
    (try simp only [i32_lt, i32_le, i32_e, z32_0, z32_1] at cc4n)
    first
    | (exfalso; omega)
    | by_cases cc5 : court_suitCount ≤ x1
      · have ch3 := zk_t cc5 ch3
        have cc5n := cc5
        (try simp only [i32_lt, i32_le, i32_e, z32_0, z32_1] at cc5n)
        first
        | (exfalso; omega)
        | simp only [Option.some.injEq, Prod.mk.injEq] at ch3
          obtain ⟨rfl, _⟩ := ch3
          replace h := zk_t (by decide) h
          unfold B_X12_act_0 at k
          replace k := zk_o2 k
          obtain ⟨mv7, mv8, mh9, k⟩ := k
          unfold f_X12_isSuit at mh9
          unfold B_X12_isSuit_0 at mh9
          obtain ⟨mv10, mv11, mh12, mh9⟩ := zk_o2 mh9
          unfold f_X12_in at mh12
          unfold B_X12_in_0 at mh12
          have mh12 := zk_f cc4 mh12
          have mh12 := zk_t (by (try simp only [i32_lt, i32_le, i32_e, z32_0, z32_1]); omega) mh12
          simp only [Option.some.injEq, Prod.mk.injEq] at mh12
          obtain ⟨rfl, _⟩ := mh12
          obtain ⟨_, mh9⟩ := zk_gd mh9
          simp only [Option.some.injEq, Prod.mk.injEq] at mh9
          obtain ⟨rfl, _⟩ := mh9
          replace k := zk_t rfl k
          replace h := Option.some.inj h
          replace k := Option.some.inj k
          subst h
          subst k
          try dsimp only
          all_goals first
          | (exfalso; omega)
          | exact ⟨rfl, rfl, fun e => by first | exact e | rw [e]⟩
          | exact ⟨rfl, rfl, fun e => by rw [e]; rfl⟩
      · have ch3 := zk_f cc5 ch3
        have cc5n := cc5
        (try simp only [i32_lt, i32_le, i32_e, z32_0, z32_1] at cc5n)
        first
        | (exfalso; omega)
        | obtain ⟨_, ch3⟩ := zk_gd ch3
          obtain ⟨_, ch3⟩ := zk_gd ch3
          obtain ⟨_, ch3⟩ := zk_gd ch3
          simp only [Option.some.injEq, Prod.mk.injEq] at ch3
          obtain ⟨rfl, _⟩ := ch3
          replace h := zk_f cc4 h
          replace h := zk_gd h
          obtain ⟨_, h⟩ := h
          replace h := zk_o2 h
          obtain ⟨cv6, cv7, ch8, h⟩ := h
          obtain cq9 := bk8_e hB8 ch8
          replace cq9 := cq9.symm
          subst cq9
          replace h := zk_gd h
          obtain ⟨_, h⟩ := h
          replace h := zk_o4 h
          obtain ⟨cv10, cv11, cv12, cv13, ch14, h⟩ := h
          unfold f_X0_begin at ch14
          unfold B_X0_begin_0 at ch14
          simp only [Option.some.injEq, Prod.mk.injEq] at ch14
          obtain ⟨rfl, rfl, rfl, rfl⟩ := ch14
          by_cases cc15 : x2 = (0 : Int32)
          · replace h := zk_t cc15 h
            have cc15n := cc15
            (try simp only [i32_lt, i32_le, i32_e, z32_0, z32_1] at cc15n)
            first
            | (exfalso; omega)
            | obtain ⟨cv16, cv17, cv18, ch19, h⟩ := zk_o3 h
              have ch19 : f_X0_closes (grp_grp138 6) (0 : Int32) x3 (0 : Int32) (0 : Int32) x1 (S_askedCount x1.toNatClampNeg) acts_bodies = some (cv16, cv17, cv18) := ch19
              unfold f_X0_closes at ch19
              unfold B_X0_closes_0 at ch19
              have ch19 := zk_f (by decide) ch19
              have ch19 := zk_f (by decide) ch19
              have ch19 := zk_f (by decide) ch19
              have ch19 := zk_f (by decide) ch19
              have ch19 := zk_f (by decide) ch19
              have ch19 := zk_f (by decide) ch19
              obtain ⟨cv20, cv21, ch22, ch19⟩ := zk_o2 ch19
              unfold f_X0_note at ch22
              unfold B_X0_note_0 at ch22
              have ch22 := zk_f (by decide) ch22
              obtain ⟨_, ch22⟩ := zk_gd ch22
              obtain ⟨cv23, ce24, ch22⟩ := zk_lt ch22
              subst ce24
              unfold B_X0_note_19 at ch22
              obtain ⟨cv25, ce26, ch22⟩ := zk_lt ch22
              subst ce26
              simp only [Option.some.injEq, Prod.mk.injEq] at ch22
              obtain ⟨rfl, rfl⟩ := ch22
              simp only [Option.some.injEq, Prod.mk.injEq] at ch19
              obtain ⟨rfl, rfl, rfl⟩ := ch19
              have hi : x1.toNatClampNeg < court_suitCount.toInt.toNat := by rw [tcn]; omega
              have ea : mod_askedMany x1.toNatClampNeg = S_askedCount x1.toNatClampNeg := (hA _ hi).symm
              unfold B_X12_act_0 at k
              replace k := zk_o2 k
              obtain ⟨mv13, mv14, mh15, k⟩ := k
              unfold f_X12_isSuit at mh15
              unfold B_X12_isSuit_0 at mh15
              obtain ⟨mv16, mv17, mh18, mh15⟩ := zk_o2 mh15
              unfold f_X12_in at mh18
              unfold B_X12_in_0 at mh18
              have mh18 := zk_f cc4 mh18
              have mh18 := zk_f (by (try simp only [i32_lt, i32_le, i32_e, z32_0, z32_1]); omega) mh18
              simp only [Option.some.injEq, Prod.mk.injEq] at mh18
              obtain ⟨rfl, _⟩ := mh18
              obtain ⟨_, mh15⟩ := zk_gd mh15
              simp only [Option.some.injEq, Prod.mk.injEq] at mh15
              obtain ⟨rfl, _⟩ := mh15
              replace k := zk_f (by decide) k
              replace k := zk_o2 k
              obtain ⟨mv19, mv20, mh21, k⟩ := k
              unfold f_X12_in at mh21
              unfold B_X12_in_0 at mh21
              have mh21 := zk_f (by (try simp only [i32_lt, i32_le, i32_e, z32_0, z32_1]); omega) mh21
              have mh21 := zk_f (by (try simp only [i32_lt, i32_le, i32_e, z32_0, z32_1, z32L_3]); omega) mh21
              simp only [Option.some.injEq, Prod.mk.injEq] at mh21
              obtain ⟨rfl, _⟩ := mh21
              replace k := zk_f (by decide) k
              replace k := zk_t cc15 k
              replace k := zk_o3 k
              obtain ⟨mv22, mv23, mv24, mh25, k⟩ := k
              unfold f_X12_closes at mh25
              unfold B_X12_closes_0 at mh25
              rw [ea] at mh25
              obtain ⟨mv26, mv27, mh28, mh25⟩ := zk_o2 mh25
              obtain mq29 := bk12_e (hB12 hi) mh28
              replace mq29 := mq29.symm
              subst mq29
              have mh25 := zk_f (by decide) mh25
              have mh25 := zk_f (by decide) mh25
              have mh25 := zk_f (by decide) mh25
              have mh25 := zk_f (by decide) mh25
              obtain ⟨mv30, mv31, mv32, mh33, mh25⟩ := zk_o3 mh25
              unfold f_X12_plainCloses at mh33
              unfold B_X12_plainCloses_0 at mh33
              obtain ⟨mv34, mv35, mh36, mh33⟩ := zk_o2 mh33
              unfold f_X12_ran at mh36
              unfold B_X12_ran_0 at mh36
              have mh36 := zk_f (by decide) mh36
              obtain ⟨_, mh36⟩ := zk_gd mh36
              obtain ⟨mv37, me38, mh36⟩ := zk_lt mh36
              subst me38
              unfold B_X12_ran_19 at mh36
              obtain ⟨mv39, me40, mh36⟩ := zk_lt mh36
              subst me40
              simp only [Option.some.injEq, Prod.mk.injEq] at mh36
              obtain ⟨rfl, rfl⟩ := mh36
              simp only [Option.some.injEq, Prod.mk.injEq] at mh33
              obtain ⟨rfl, rfl, rfl⟩ := mh33
              simp only [Option.some.injEq, Prod.mk.injEq] at mh25
              obtain ⟨rfl, rfl, rfl⟩ := mh25
              replace h := Option.some.inj h
              replace k := Option.some.inj k
              subst h
              subst k
              try dsimp only
              all_goals first
              | (exfalso; omega)
              | exact ⟨rfl, rfl, fun e => by first | exact e | rw [e]⟩
              | exact ⟨rfl, rfl, fun e => by rw [e]; rfl⟩
          · replace h := zk_f cc15 h
            have cc15n := cc15
            (try simp only [i32_lt, i32_le, i32_e, z32_0, z32_1] at cc15n)
            first
            | (exfalso; omega)
            | by_cases cc27 : x2 = (1 : Int32)
              · replace h := zk_t cc27 h
                have cc27n := cc27
                (try simp only [i32_lt, i32_le, i32_e, z32_0, z32_1] at cc27n)
                first
                | (exfalso; omega)
                | obtain ⟨cv28, cv29, cv30, ch31, h⟩ := zk_o3 h
                  have ch31 : f_X0_settles (grp_grp140 6) (0 : Int32) x3 (0 : Int32) (0 : Int32) x1 (S_askedCount x1.toNatClampNeg) acts_bodies = some (cv28, cv29, cv30) := ch31
                  unfold f_X0_settles at ch31
                  unfold B_X0_settles_0 at ch31
                  have ch31 := zk_f (by decide) ch31
                  have ch31 := zk_f (by decide) ch31
                  have ch31 := zk_f (by decide) ch31
                  have ch31 := zk_f (by decide) ch31
                  have ch31 := zk_f (by decide) ch31
                  have ch31 := zk_f (by decide) ch31
                  obtain ⟨cv32, cv33, ch34, ch31⟩ := zk_o2 ch31
                  unfold f_X0_note at ch34
                  unfold B_X0_note_0 at ch34
                  have ch34 := zk_f (by decide) ch34
                  obtain ⟨_, ch34⟩ := zk_gd ch34
                  obtain ⟨cv35, ce36, ch34⟩ := zk_lt ch34
                  subst ce36
                  unfold B_X0_note_19 at ch34
                  obtain ⟨cv37, ce38, ch34⟩ := zk_lt ch34
                  subst ce38
                  simp only [Option.some.injEq, Prod.mk.injEq] at ch34
                  obtain ⟨rfl, rfl⟩ := ch34
                  obtain ⟨cv39, cv40, cv41, ch42, ch31⟩ := zk_o3 ch31
                  have ch42 : f_X0_closes (grp_grp138 6) (0 : Int32) x3 ((0 : Int32) + (1 : Int32)) (0 : Int32) x1 (S_askedCount x1.toNatClampNeg) (upd acts_bodies (0 : Int32).toNatClampNeg (10 : Int32)) = some (cv39, cv40, cv41) := ch42
                  unfold f_X0_closes at ch42
                  unfold B_X0_closes_0 at ch42
                  have ch42 := zk_f (by decide) ch42
                  have ch42 := zk_f (by decide) ch42
                  have ch42 := zk_f (by decide) ch42
                  have ch42 := zk_f (by decide) ch42
                  have ch42 := zk_f (by decide) ch42
                  have ch42 := zk_f (by decide) ch42
                  obtain ⟨cv43, cv44, ch45, ch42⟩ := zk_o2 ch42
                  unfold f_X0_note at ch45
                  unfold B_X0_note_0 at ch45
                  have ch45 := zk_f (by decide) ch45
                  obtain ⟨_, ch45⟩ := zk_gd ch45
                  obtain ⟨cv46, ce47, ch45⟩ := zk_lt ch45
                  subst ce47
                  unfold B_X0_note_19 at ch45
                  obtain ⟨cv48, ce49, ch45⟩ := zk_lt ch45
                  subst ce49
                  simp only [Option.some.injEq, Prod.mk.injEq] at ch45
                  obtain ⟨rfl, rfl⟩ := ch45
                  simp only [Option.some.injEq, Prod.mk.injEq] at ch42
                  obtain ⟨rfl, rfl, rfl⟩ := ch42
                  simp only [Option.some.injEq, Prod.mk.injEq] at ch31
                  obtain ⟨rfl, rfl, rfl⟩ := ch31
                  have hi : x1.toNatClampNeg < court_suitCount.toInt.toNat := by rw [tcn]; omega
                  have ea : mod_askedMany x1.toNatClampNeg = S_askedCount x1.toNatClampNeg := (hA _ hi).symm
                  unfold B_X12_act_0 at k
                  replace k := zk_o2 k
                  obtain ⟨mv41, mv42, mh43, k⟩ := k
                  unfold f_X12_isSuit at mh43
                  unfold B_X12_isSuit_0 at mh43
                  obtain ⟨mv44, mv45, mh46, mh43⟩ := zk_o2 mh43
                  unfold f_X12_in at mh46
                  unfold B_X12_in_0 at mh46
                  have mh46 := zk_f cc4 mh46
                  have mh46 := zk_f (by (try simp only [i32_lt, i32_le, i32_e, z32_0, z32_1]); omega) mh46
                  simp only [Option.some.injEq, Prod.mk.injEq] at mh46
                  obtain ⟨rfl, _⟩ := mh46
                  obtain ⟨_, mh43⟩ := zk_gd mh43
                  simp only [Option.some.injEq, Prod.mk.injEq] at mh43
                  obtain ⟨rfl, _⟩ := mh43
                  replace k := zk_f (by decide) k
                  replace k := zk_o2 k
                  obtain ⟨mv47, mv48, mh49, k⟩ := k
                  unfold f_X12_in at mh49
                  unfold B_X12_in_0 at mh49
                  have mh49 := zk_f (by (try simp only [i32_lt, i32_le, i32_e, z32_0, z32_1]); omega) mh49
                  have mh49 := zk_f (by (try simp only [i32_lt, i32_le, i32_e, z32_0, z32_1, z32L_3]); omega) mh49
                  simp only [Option.some.injEq, Prod.mk.injEq] at mh49
                  obtain ⟨rfl, _⟩ := mh49
                  replace k := zk_f (by decide) k
                  replace k := zk_f cc15 k
                  replace k := zk_t cc27 k
                  replace k := zk_o3 k
                  obtain ⟨mv50, mv51, mv52, mh53, k⟩ := k
                  unfold f_X12_settles at mh53
                  unfold B_X12_settles_0 at mh53
                  obtain ⟨mv54, mv55, mh56, mh53⟩ := zk_o2 mh53
                  obtain mq57 := bk12_e (hB12 hi) mh56
                  replace mq57 := mq57.symm
                  subst mq57
                  have mh53 := zk_f (by decide) mh53
                  have mh53 := zk_f (by decide) mh53
                  have mh53 := zk_f (by decide) mh53
                  obtain ⟨mv58, mv59, mv60, mh61, mh53⟩ := zk_o3 mh53
                  unfold f_X12_plainSettles at mh61
                  unfold B_X12_plainSettles_0 at mh61
                  obtain ⟨mv62, mv63, mh64, mh61⟩ := zk_o2 mh61
                  unfold f_X12_ran at mh64
                  unfold B_X12_ran_0 at mh64
                  have mh64 := zk_f (by decide) mh64
                  obtain ⟨_, mh64⟩ := zk_gd mh64
                  obtain ⟨mv65, me66, mh64⟩ := zk_lt mh64
                  subst me66
                  unfold B_X12_ran_19 at mh64
                  obtain ⟨mv67, me68, mh64⟩ := zk_lt mh64
                  subst me68
                  simp only [Option.some.injEq, Prod.mk.injEq] at mh64
                  obtain ⟨rfl, rfl⟩ := mh64
                  obtain ⟨mv69, mv70, mv71, mh72, mh61⟩ := zk_o3 mh61
                  unfold f_X12_closes at mh72
                  unfold B_X12_closes_0 at mh72
                  rw [ea] at mh72
                  obtain ⟨mv73, mv74, mh75, mh72⟩ := zk_o2 mh72
                  obtain mq76 := bk12_e (hB12 hi) mh75
                  replace mq76 := mq76.symm
                  subst mq76
                  have mh72 := zk_f (by decide) mh72
                  have mh72 := zk_f (by decide) mh72
                  have mh72 := zk_f (by decide) mh72
                  have mh72 := zk_f (by decide) mh72
                  obtain ⟨mv77, mv78, mv79, mh80, mh72⟩ := zk_o3 mh72
                  unfold f_X12_plainCloses at mh80
                  unfold B_X12_plainCloses_0 at mh80
                  obtain ⟨mv81, mv82, mh83, mh80⟩ := zk_o2 mh80
                  unfold f_X12_ran at mh83
                  unfold B_X12_ran_0 at mh83
                  have mh83 := zk_f (by decide) mh83
                  obtain ⟨_, mh83⟩ := zk_gd mh83
                  obtain ⟨mv84, me85, mh83⟩ := zk_lt mh83
                  subst me85
                  unfold B_X12_ran_19 at mh83
                  obtain ⟨mv86, me87, mh83⟩ := zk_lt mh83
                  subst me87
                  simp only [Option.some.injEq, Prod.mk.injEq] at mh83
                  obtain ⟨rfl, rfl⟩ := mh83
                  simp only [Option.some.injEq, Prod.mk.injEq] at mh80
                  obtain ⟨rfl, rfl, rfl⟩ := mh80
                  simp only [Option.some.injEq, Prod.mk.injEq] at mh72
                  obtain ⟨rfl, rfl, rfl⟩ := mh72
                  simp only [Option.some.injEq, Prod.mk.injEq] at mh61
                  obtain ⟨rfl, rfl, rfl⟩ := mh61
                  simp only [Option.some.injEq, Prod.mk.injEq] at mh53
                  obtain ⟨rfl, rfl, rfl⟩ := mh53
                  replace h := Option.some.inj h
                  replace k := Option.some.inj k
                  subst h
                  subst k
                  try dsimp only
                  all_goals first
                  | (exfalso; omega)
                  | exact ⟨rfl, rfl, fun e => by first | exact e | rw [e]⟩
                  | exact ⟨rfl, rfl, fun e => by rw [e]; rfl⟩
              · replace h := zk_f cc27 h
                have cc27n := cc27
                (try simp only [i32_lt, i32_le, i32_e, z32_0, z32_1] at cc27n)
                first
                | (exfalso; omega)
                | by_cases cc50 : x2 = (2 : Int32)
                  · replace h := zk_t cc50 h
                    have cc50n := cc50
                    (try simp only [i32_lt, i32_le, i32_e, z32_0, z32_1, z32L_2] at cc50n)
                    first
                    | (exfalso; omega)
                    | obtain ⟨cv51, cv52, cv53, ch54, h⟩ := zk_o3 h
                      have ch54 : f_X0_binds (grp_grp139 6) (0 : Int32) x3 (0 : Int32) (0 : Int32) x1 (S_askedCount x1.toNatClampNeg) acts_bodies = some (cv51, cv52, cv53) := ch54
                      unfold f_X0_binds at ch54
                      unfold B_X0_binds_0 at ch54
                      have ch54 := zk_f (by decide) ch54
                      have ch54 := zk_t (Int32.le_refl _) ch54
                      obtain ⟨cv55, cv56, ch57, ch54⟩ := zk_o2 ch54
                      unfold f_X0_note at ch57
                      unfold B_X0_note_0 at ch57
                      have ch57 := zk_f (by decide) ch57
                      obtain ⟨_, ch57⟩ := zk_gd ch57
                      obtain ⟨cv58, ce59, ch57⟩ := zk_lt ch57
                      subst ce59
                      unfold B_X0_note_19 at ch57
                      obtain ⟨cv60, ce61, ch57⟩ := zk_lt ch57
                      subst ce61
                      simp only [Option.some.injEq, Prod.mk.injEq] at ch57
                      obtain ⟨rfl, rfl⟩ := ch57
                      simp only [Option.some.injEq, Prod.mk.injEq] at ch54
                      obtain ⟨rfl, rfl, rfl⟩ := ch54
                      have hi : x1.toNatClampNeg < court_suitCount.toInt.toNat := by rw [tcn]; omega
                      have ea : mod_askedMany x1.toNatClampNeg = S_askedCount x1.toNatClampNeg := (hA _ hi).symm
                      unfold B_X12_act_0 at k
                      replace k := zk_o2 k
                      obtain ⟨mv88, mv89, mh90, k⟩ := k
                      unfold f_X12_isSuit at mh90
                      unfold B_X12_isSuit_0 at mh90
                      obtain ⟨mv91, mv92, mh93, mh90⟩ := zk_o2 mh90
                      unfold f_X12_in at mh93
                      unfold B_X12_in_0 at mh93
                      have mh93 := zk_f cc4 mh93
                      have mh93 := zk_f (by (try simp only [i32_lt, i32_le, i32_e, z32_0, z32_1]); omega) mh93
                      simp only [Option.some.injEq, Prod.mk.injEq] at mh93
                      obtain ⟨rfl, _⟩ := mh93
                      obtain ⟨_, mh90⟩ := zk_gd mh90
                      simp only [Option.some.injEq, Prod.mk.injEq] at mh90
                      obtain ⟨rfl, _⟩ := mh90
                      replace k := zk_f (by decide) k
                      replace k := zk_o2 k
                      obtain ⟨mv94, mv95, mh96, k⟩ := k
                      unfold f_X12_in at mh96
                      unfold B_X12_in_0 at mh96
                      have mh96 := zk_f (by (try simp only [i32_lt, i32_le, i32_e, z32_0, z32_1]); omega) mh96
                      have mh96 := zk_f (by (try simp only [i32_lt, i32_le, i32_e, z32_0, z32_1, z32L_3]); omega) mh96
                      simp only [Option.some.injEq, Prod.mk.injEq] at mh96
                      obtain ⟨rfl, _⟩ := mh96
                      replace k := zk_f (by decide) k
                      replace k := zk_f cc15 k
                      replace k := zk_f cc27 k
                      replace k := zk_t cc50 k
                      replace k := zk_o3 k
                      obtain ⟨mv97, mv98, mv99, mh100, k⟩ := k
                      unfold f_X12_binds at mh100
                      unfold B_X12_binds_0 at mh100
                      obtain ⟨mv101, mv102, mh103, mh100⟩ := zk_o2 mh100
                      obtain mq104 := bk12_e (hB12 hi) mh103
                      replace mq104 := mq104.symm
                      subst mq104
                      obtain ⟨mv105, mv106, mh107, mh100⟩ := zk_o2 mh100
                      unfold f_X12_isUnder at mh107
                      unfold B_X12_isUnder_0 at mh107
                      have mh107 := zk_f (by decide) mh107
                      have mh107 := zk_f (by decide) mh107
                      have mh107 := zk_f (by decide) mh107
                      unfold B_X12_isUnder_19 at mh107
                      have mh107 := zk_t rfl mh107
                      have mh107 := zk_f (by decide) mh107
                      unfold B_X12_isUnder_29 at mh107
                      have mh107 := zk_f (by decide) mh107
                      simp only [Option.some.injEq, Prod.mk.injEq] at mh107
                      obtain ⟨rfl, _⟩ := mh107
                      have mh100 := zk_t rfl mh100
                      obtain ⟨mv108, mv109, mv110, mh111, mh100⟩ := zk_o3 mh100
                      unfold f_X12_plainBinds at mh111
                      unfold B_X12_plainBinds_0 at mh111
                      obtain ⟨mv112, mv113, mh114, mh111⟩ := zk_o2 mh111
                      unfold f_X12_ran at mh114
                      unfold B_X12_ran_0 at mh114
                      have mh114 := zk_f (by decide) mh114
                      obtain ⟨_, mh114⟩ := zk_gd mh114
                      obtain ⟨mv115, me116, mh114⟩ := zk_lt mh114
                      subst me116
                      unfold B_X12_ran_19 at mh114
                      obtain ⟨mv117, me118, mh114⟩ := zk_lt mh114
                      subst me118
                      simp only [Option.some.injEq, Prod.mk.injEq] at mh114
                      obtain ⟨rfl, rfl⟩ := mh114
                      simp only [Option.some.injEq, Prod.mk.injEq] at mh111
                      obtain ⟨rfl, rfl, rfl⟩ := mh111
                      simp only [Option.some.injEq, Prod.mk.injEq] at mh100
                      obtain ⟨rfl, rfl, rfl⟩ := mh100
                      replace h := Option.some.inj h
                      replace k := Option.some.inj k
                      subst h
                      subst k
                      try dsimp only
                      all_goals first
                      | (exfalso; omega)
                      | exact ⟨rfl, rfl, fun e => by first | exact e | rw [e]⟩
                      | exact ⟨rfl, rfl, fun e => by rw [e]; rfl⟩
                  · replace h := zk_f cc50 h
                    have cc50n := cc50
                    (try simp only [i32_lt, i32_le, i32_e, z32_0, z32_1, z32L_2] at cc50n)
                    first
                    | (exfalso; omega)
                    | by_cases cc62 : x2 = (3 : Int32)
                      · replace h := zk_t cc62 h
                        have cc62n := cc62
                        (try simp only [i32_lt, i32_le, i32_e, z32_0, z32_1, z32L_3] at cc62n)
                        first
                        | (exfalso; omega)
                        | obtain ⟨cv63, cv64, cv65, ch66, h⟩ := zk_o3 h
                          have ch66 : f_X0_tells (grp_grp141 6) (0 : Int32) x3 (0 : Int32) (0 : Int32) x1 (S_askedCount x1.toNatClampNeg) acts_bodies = some (cv63, cv64, cv65) := ch66
                          unfold f_X0_tells at ch66
                          unfold B_X0_tells_0 at ch66
                          have ch66 := zk_f (by decide) ch66
                          have ch66 := zk_t (Int32.le_refl _) ch66
                          obtain ⟨cv67, cv68, ch69, ch66⟩ := zk_o2 ch66
                          unfold f_X0_note at ch69
                          unfold B_X0_note_0 at ch69
                          have ch69 := zk_f (by decide) ch69
                          obtain ⟨_, ch69⟩ := zk_gd ch69
                          obtain ⟨cv70, ce71, ch69⟩ := zk_lt ch69
                          subst ce71
                          unfold B_X0_note_19 at ch69
                          obtain ⟨cv72, ce73, ch69⟩ := zk_lt ch69
                          subst ce73
                          simp only [Option.some.injEq, Prod.mk.injEq] at ch69
                          obtain ⟨rfl, rfl⟩ := ch69
                          obtain ⟨cv74, cv75, cv76, ch77, ch66⟩ := zk_o3 ch66
                          have ch77 : f_X0_settles (grp_grp140 6) (0 : Int32) x3 ((0 : Int32) + (1 : Int32)) (0 : Int32) x1 (S_askedCount x1.toNatClampNeg) (upd acts_bodies (0 : Int32).toNatClampNeg (2 : Int32)) = some (cv74, cv75, cv76) := ch77
                          unfold f_X0_settles at ch77
                          unfold B_X0_settles_0 at ch77
                          have ch77 := zk_f (by decide) ch77
                          have ch77 := zk_f (by decide) ch77
                          have ch77 := zk_f (by decide) ch77
                          have ch77 := zk_f (by decide) ch77
                          have ch77 := zk_f (by decide) ch77
                          have ch77 := zk_f (by decide) ch77
                          obtain ⟨cv78, cv79, ch80, ch77⟩ := zk_o2 ch77
                          unfold f_X0_note at ch80
                          unfold B_X0_note_0 at ch80
                          have ch80 := zk_f (by decide) ch80
                          obtain ⟨_, ch80⟩ := zk_gd ch80
                          obtain ⟨cv81, ce82, ch80⟩ := zk_lt ch80
                          subst ce82
                          unfold B_X0_note_19 at ch80
                          obtain ⟨cv83, ce84, ch80⟩ := zk_lt ch80
                          subst ce84
                          simp only [Option.some.injEq, Prod.mk.injEq] at ch80
                          obtain ⟨rfl, rfl⟩ := ch80
                          obtain ⟨cv85, cv86, cv87, ch88, ch77⟩ := zk_o3 ch77
                          have ch88 : f_X0_closes (grp_grp138 6) (0 : Int32) x3 (((0 : Int32) + (1 : Int32)) + (1 : Int32)) (0 : Int32) x1 (S_askedCount x1.toNatClampNeg) (upd (upd acts_bodies (0 : Int32).toNatClampNeg (2 : Int32)) ((0 : Int32) + (1 : Int32)).toNatClampNeg (10 : Int32)) = some (cv85, cv86, cv87) := ch88
                          unfold f_X0_closes at ch88
                          unfold B_X0_closes_0 at ch88
                          have ch88 := zk_f (by decide) ch88
                          have ch88 := zk_f (by decide) ch88
                          have ch88 := zk_f (by decide) ch88
                          have ch88 := zk_f (by decide) ch88
                          have ch88 := zk_f (by decide) ch88
                          have ch88 := zk_f (by decide) ch88
                          obtain ⟨cv89, cv90, ch91, ch88⟩ := zk_o2 ch88
                          unfold f_X0_note at ch91
                          unfold B_X0_note_0 at ch91
                          have ch91 := zk_f (by decide) ch91
                          obtain ⟨_, ch91⟩ := zk_gd ch91
                          obtain ⟨cv92, ce93, ch91⟩ := zk_lt ch91
                          subst ce93
                          unfold B_X0_note_19 at ch91
                          obtain ⟨cv94, ce95, ch91⟩ := zk_lt ch91
                          subst ce95
                          simp only [Option.some.injEq, Prod.mk.injEq] at ch91
                          obtain ⟨rfl, rfl⟩ := ch91
                          simp only [Option.some.injEq, Prod.mk.injEq] at ch88
                          obtain ⟨rfl, rfl, rfl⟩ := ch88
                          simp only [Option.some.injEq, Prod.mk.injEq] at ch77
                          obtain ⟨rfl, rfl, rfl⟩ := ch77
                          obtain ⟨cv96, cv97, cv98, ch99, ch66⟩ := zk_o3 ch66
                          have ch99 : f_X0_binds (grp_grp139 6) (0 : Int32) (1 : Int32) ((((0 : Int32) + (1 : Int32)) + (1 : Int32)) + (1 : Int32)) (0 : Int32) x1 (S_askedCount x1.toNatClampNeg) (upd (upd (upd acts_bodies (0 : Int32).toNatClampNeg (2 : Int32)) ((0 : Int32) + (1 : Int32)).toNatClampNeg (10 : Int32)) (((0 : Int32) + (1 : Int32)) + (1 : Int32)).toNatClampNeg (1 : Int32)) = some (cv96, cv97, cv98) := ch99
                          unfold f_X0_binds at ch99
                          unfold B_X0_binds_0 at ch99
                          have ch99 := zk_f (by decide) ch99
                          have ch99 := zk_t (Int32.le_refl _) ch99
                          obtain ⟨cv100, cv101, ch102, ch99⟩ := zk_o2 ch99
                          unfold f_X0_note at ch102
                          unfold B_X0_note_0 at ch102
                          have ch102 := zk_f (by decide) ch102
                          obtain ⟨_, ch102⟩ := zk_gd ch102
                          obtain ⟨cv103, ce104, ch102⟩ := zk_lt ch102
                          subst ce104
                          unfold B_X0_note_19 at ch102
                          obtain ⟨cv105, ce106, ch102⟩ := zk_lt ch102
                          subst ce106
                          simp only [Option.some.injEq, Prod.mk.injEq] at ch102
                          obtain ⟨rfl, rfl⟩ := ch102
                          simp only [Option.some.injEq, Prod.mk.injEq] at ch99
                          obtain ⟨rfl, rfl, rfl⟩ := ch99
                          simp only [Option.some.injEq, Prod.mk.injEq] at ch66
                          obtain ⟨rfl, rfl, rfl⟩ := ch66
                          have hi : x1.toNatClampNeg < court_suitCount.toInt.toNat := by rw [tcn]; omega
                          have ea : mod_askedMany x1.toNatClampNeg = S_askedCount x1.toNatClampNeg := (hA _ hi).symm
                          unfold B_X12_act_0 at k
                          replace k := zk_o2 k
                          obtain ⟨mv119, mv120, mh121, k⟩ := k
                          unfold f_X12_isSuit at mh121
                          unfold B_X12_isSuit_0 at mh121
                          obtain ⟨mv122, mv123, mh124, mh121⟩ := zk_o2 mh121
                          unfold f_X12_in at mh124
                          unfold B_X12_in_0 at mh124
                          have mh124 := zk_f cc4 mh124
                          have mh124 := zk_f (by (try simp only [i32_lt, i32_le, i32_e, z32_0, z32_1]); omega) mh124
                          simp only [Option.some.injEq, Prod.mk.injEq] at mh124
                          obtain ⟨rfl, _⟩ := mh124
                          obtain ⟨_, mh121⟩ := zk_gd mh121
                          simp only [Option.some.injEq, Prod.mk.injEq] at mh121
                          obtain ⟨rfl, _⟩ := mh121
                          replace k := zk_f (by decide) k
                          replace k := zk_o2 k
                          obtain ⟨mv125, mv126, mh127, k⟩ := k
                          unfold f_X12_in at mh127
                          unfold B_X12_in_0 at mh127
                          have mh127 := zk_f (by (try simp only [i32_lt, i32_le, i32_e, z32_0, z32_1]); omega) mh127
                          have mh127 := zk_f (by (try simp only [i32_lt, i32_le, i32_e, z32_0, z32_1, z32L_3]); omega) mh127
                          simp only [Option.some.injEq, Prod.mk.injEq] at mh127
                          obtain ⟨rfl, _⟩ := mh127
                          replace k := zk_f (by decide) k
                          replace k := zk_f cc15 k
                          replace k := zk_f cc27 k
                          replace k := zk_f cc50 k
                          replace k := zk_o3 k
                          obtain ⟨mv128, mv129, mv130, mh131, k⟩ := k
                          unfold f_X12_tells at mh131
                          unfold B_X12_tells_0 at mh131
                          obtain ⟨mv132, mv133, mh134, mh131⟩ := zk_o2 mh131
                          obtain mq135 := bk12_e (hB12 hi) mh134
                          replace mq135 := mq135.symm
                          subst mq135
                          have mh131 := zk_f (by decide) mh131
                          obtain ⟨mv136, mv137, mv138, mh139, mh131⟩ := zk_o3 mh131
                          unfold f_X12_plainTells at mh139
                          unfold B_X12_plainTells_0 at mh139
                          obtain ⟨mv140, mv141, mh142, mh139⟩ := zk_o2 mh139
                          unfold f_X12_ran at mh142
                          unfold B_X12_ran_0 at mh142
                          have mh142 := zk_f (by decide) mh142
                          obtain ⟨_, mh142⟩ := zk_gd mh142
                          obtain ⟨mv143, me144, mh142⟩ := zk_lt mh142
                          subst me144
                          unfold B_X12_ran_19 at mh142
                          obtain ⟨mv145, me146, mh142⟩ := zk_lt mh142
                          subst me146
                          simp only [Option.some.injEq, Prod.mk.injEq] at mh142
                          obtain ⟨rfl, rfl⟩ := mh142
                          obtain ⟨mv147, mv148, mv149, mh150, mh139⟩ := zk_o3 mh139
                          unfold f_X12_settles at mh150
                          unfold B_X12_settles_0 at mh150
                          obtain ⟨mv151, mv152, mh153, mh150⟩ := zk_o2 mh150
                          obtain mq154 := bk12_e (hB12 hi) mh153
                          replace mq154 := mq154.symm
                          subst mq154
                          have mh150 := zk_f (by decide) mh150
                          have mh150 := zk_f (by decide) mh150
                          have mh150 := zk_f (by decide) mh150
                          obtain ⟨mv155, mv156, mv157, mh158, mh150⟩ := zk_o3 mh150
                          unfold f_X12_plainSettles at mh158
                          unfold B_X12_plainSettles_0 at mh158
                          obtain ⟨mv159, mv160, mh161, mh158⟩ := zk_o2 mh158
                          unfold f_X12_ran at mh161
                          unfold B_X12_ran_0 at mh161
                          have mh161 := zk_f (by decide) mh161
                          obtain ⟨_, mh161⟩ := zk_gd mh161
                          obtain ⟨mv162, me163, mh161⟩ := zk_lt mh161
                          subst me163
                          unfold B_X12_ran_19 at mh161
                          obtain ⟨mv164, me165, mh161⟩ := zk_lt mh161
                          subst me165
                          simp only [Option.some.injEq, Prod.mk.injEq] at mh161
                          obtain ⟨rfl, rfl⟩ := mh161
                          obtain ⟨mv166, mv167, mv168, mh169, mh158⟩ := zk_o3 mh158
                          unfold f_X12_closes at mh169
                          unfold B_X12_closes_0 at mh169
                          rw [ea] at mh169
                          obtain ⟨mv170, mv171, mh172, mh169⟩ := zk_o2 mh169
                          obtain mq173 := bk12_e (hB12 hi) mh172
                          replace mq173 := mq173.symm
                          subst mq173
                          have mh169 := zk_f (by decide) mh169
                          have mh169 := zk_f (by decide) mh169
                          have mh169 := zk_f (by decide) mh169
                          have mh169 := zk_f (by decide) mh169
                          obtain ⟨mv174, mv175, mv176, mh177, mh169⟩ := zk_o3 mh169
                          unfold f_X12_plainCloses at mh177
                          unfold B_X12_plainCloses_0 at mh177
                          obtain ⟨mv178, mv179, mh180, mh177⟩ := zk_o2 mh177
                          unfold f_X12_ran at mh180
                          unfold B_X12_ran_0 at mh180
                          have mh180 := zk_f (by decide) mh180
                          obtain ⟨_, mh180⟩ := zk_gd mh180
                          obtain ⟨mv181, me182, mh180⟩ := zk_lt mh180
                          subst me182
                          unfold B_X12_ran_19 at mh180
                          obtain ⟨mv183, me184, mh180⟩ := zk_lt mh180
                          subst me184
                          simp only [Option.some.injEq, Prod.mk.injEq] at mh180
                          obtain ⟨rfl, rfl⟩ := mh180
                          simp only [Option.some.injEq, Prod.mk.injEq] at mh177
                          obtain ⟨rfl, rfl, rfl⟩ := mh177
                          simp only [Option.some.injEq, Prod.mk.injEq] at mh169
                          obtain ⟨rfl, rfl, rfl⟩ := mh169
                          simp only [Option.some.injEq, Prod.mk.injEq] at mh158
                          obtain ⟨rfl, rfl, rfl⟩ := mh158
                          simp only [Option.some.injEq, Prod.mk.injEq] at mh150
                          obtain ⟨rfl, rfl, rfl⟩ := mh150
                          obtain ⟨mv185, mv186, mv187, mh188, mh139⟩ := zk_o3 mh139
                          unfold f_X12_binds at mh188
                          unfold B_X12_binds_0 at mh188
                          obtain ⟨mv189, mv190, mh191, mh188⟩ := zk_o2 mh188
                          obtain mq192 := bk12_e (hB12 hi) mh191
                          replace mq192 := mq192.symm
                          subst mq192
                          obtain ⟨mv193, mv194, mh195, mh188⟩ := zk_o2 mh188
                          unfold f_X12_isUnder at mh195
                          unfold B_X12_isUnder_0 at mh195
                          have mh195 := zk_f (by decide) mh195
                          have mh195 := zk_f (by decide) mh195
                          have mh195 := zk_f (by decide) mh195
                          unfold B_X12_isUnder_19 at mh195
                          have mh195 := zk_t rfl mh195
                          have mh195 := zk_f (by decide) mh195
                          unfold B_X12_isUnder_29 at mh195
                          have mh195 := zk_f (by decide) mh195
                          simp only [Option.some.injEq, Prod.mk.injEq] at mh195
                          obtain ⟨rfl, _⟩ := mh195
                          have mh188 := zk_t rfl mh188
                          obtain ⟨mv196, mv197, mv198, mh199, mh188⟩ := zk_o3 mh188
                          unfold f_X12_plainBinds at mh199
                          unfold B_X12_plainBinds_0 at mh199
                          obtain ⟨mv200, mv201, mh202, mh199⟩ := zk_o2 mh199
                          unfold f_X12_ran at mh202
                          unfold B_X12_ran_0 at mh202
                          have mh202 := zk_f (by decide) mh202
                          obtain ⟨_, mh202⟩ := zk_gd mh202
                          obtain ⟨mv203, me204, mh202⟩ := zk_lt mh202
                          subst me204
                          unfold B_X12_ran_19 at mh202
                          obtain ⟨mv205, me206, mh202⟩ := zk_lt mh202
                          subst me206
                          simp only [Option.some.injEq, Prod.mk.injEq] at mh202
                          obtain ⟨rfl, rfl⟩ := mh202
                          simp only [Option.some.injEq, Prod.mk.injEq] at mh199
                          obtain ⟨rfl, rfl, rfl⟩ := mh199
                          simp only [Option.some.injEq, Prod.mk.injEq] at mh188
                          obtain ⟨rfl, rfl, rfl⟩ := mh188
                          simp only [Option.some.injEq, Prod.mk.injEq] at mh139
                          obtain ⟨rfl, rfl, rfl⟩ := mh139
                          simp only [Option.some.injEq, Prod.mk.injEq] at mh131
                          obtain ⟨rfl, rfl, rfl⟩ := mh131
                          replace h := Option.some.inj h
                          replace k := Option.some.inj k
                          subst h
                          subst k
                          try dsimp only
                          all_goals first
                          | (exfalso; omega)
                          | exact ⟨rfl, rfl, fun e => by first | exact e | rw [e]⟩
                          | exact ⟨rfl, rfl, fun e => by rw [e]; rfl⟩
                      · replace h := zk_f cc62 h
                        have cc62n := cc62
                        (try simp only [i32_lt, i32_le, i32_e, z32_0, z32_1, z32L_3] at cc62n)
                        first
                        | (exfalso; omega)
                        | have hi : x1.toNatClampNeg < court_suitCount.toInt.toNat := by rw [tcn]; omega
                          have ea : mod_askedMany x1.toNatClampNeg = S_askedCount x1.toNatClampNeg := (hA _ hi).symm
                          unfold B_X12_act_0 at k
                          replace k := zk_o2 k
                          obtain ⟨mv207, mv208, mh209, k⟩ := k
                          unfold f_X12_isSuit at mh209
                          unfold B_X12_isSuit_0 at mh209
                          obtain ⟨mv210, mv211, mh212, mh209⟩ := zk_o2 mh209
                          unfold f_X12_in at mh212
                          unfold B_X12_in_0 at mh212
                          have mh212 := zk_f cc4 mh212
                          have mh212 := zk_f (by (try simp only [i32_lt, i32_le, i32_e, z32_0, z32_1]); omega) mh212
                          simp only [Option.some.injEq, Prod.mk.injEq] at mh212
                          obtain ⟨rfl, _⟩ := mh212
                          obtain ⟨_, mh209⟩ := zk_gd mh209
                          simp only [Option.some.injEq, Prod.mk.injEq] at mh209
                          obtain ⟨rfl, _⟩ := mh209
                          replace k := zk_f (by decide) k
                          replace k := zk_o2 k
                          obtain ⟨mv213, mv214, mh215, k⟩ := k
                          unfold f_X12_in at mh215
                          unfold B_X12_in_0 at mh215
                          by_cases mc216 : x2 < (0 : Int32)
                          · have mh215 := zk_t mc216 mh215
                            have mc216n := mc216
                            (try simp only [i32_lt, i32_le, i32_e, z32_0, z32_1] at mc216n)
                            first
                            | (exfalso; omega)
                            | simp only [Option.some.injEq, Prod.mk.injEq] at mh215
                              obtain ⟨rfl, _⟩ := mh215
                              replace k := zk_t rfl k
                              replace h := Option.some.inj h
                              replace k := Option.some.inj k
                              subst h
                              subst k
                              try dsimp only
                              all_goals first
                              | (exfalso; omega)
                              | exact ⟨rfl, rfl, fun e => by first | exact e | rw [e]⟩
                              | exact ⟨rfl, rfl, fun e => by rw [e]; rfl⟩
                          · have mh215 := zk_f mc216 mh215
                            have mc216n := mc216
                            (try simp only [i32_lt, i32_le, i32_e, z32_0, z32_1] at mc216n)
                            first
                            | (exfalso; omega)
                            | by_cases mc217 : (3 : Int32) < x2
                              · have mh215 := zk_t mc217 mh215
                                have mc217n := mc217
                                (try simp only [i32_lt, i32_le, i32_e, z32_0, z32_1, z32L_3] at mc217n)
                                first
                                | (exfalso; omega)
                                | simp only [Option.some.injEq, Prod.mk.injEq] at mh215
                                  obtain ⟨rfl, _⟩ := mh215
                                  replace k := zk_t rfl k
                                  replace h := Option.some.inj h
                                  replace k := Option.some.inj k
                                  subst h
                                  subst k
                                  try dsimp only
                                  all_goals first
                                  | (exfalso; omega)
                                  | exact ⟨rfl, rfl, fun e => by first | exact e | rw [e]⟩
                                  | exact ⟨rfl, rfl, fun e => by rw [e]; rfl⟩
                              · have mh215 := zk_f mc217 mh215
                                have mc217n := mc217
                                (try simp only [i32_lt, i32_le, i32_e, z32_0, z32_1, z32L_3] at mc217n)
                                first
                                | (exfalso; omega)
                                | simp only [Option.some.injEq, Prod.mk.injEq] at mh215
                                  obtain ⟨rfl, _⟩ := mh215
                                  replace k := zk_f (by decide) k
                                  replace k := zk_f cc15 k
                                  replace k := zk_f cc27 k
                                  replace k := zk_f cc50 k
                                  replace k := zk_o3 k
                                  obtain ⟨mv218, mv219, mv220, mh221, k⟩ := k
                                  unfold f_X12_tells at mh221
                                  unfold B_X12_tells_0 at mh221
                                  obtain ⟨mv222, mv223, mh224, mh221⟩ := zk_o2 mh221
                                  obtain mq225 := bk12_e (hB12 hi) mh224
                                  replace mq225 := mq225.symm
                                  subst mq225
                                  have mh221 := zk_f (by decide) mh221
                                  obtain ⟨mv226, mv227, mv228, mh229, mh221⟩ := zk_o3 mh221
                                  unfold f_X12_plainTells at mh229
                                  unfold B_X12_plainTells_0 at mh229
                                  obtain ⟨mv230, mv231, mh232, mh229⟩ := zk_o2 mh229
                                  unfold f_X12_ran at mh232
                                  unfold B_X12_ran_0 at mh232
                                  have mh232 := zk_f (by decide) mh232
                                  obtain ⟨_, mh232⟩ := zk_gd mh232
                                  obtain ⟨mv233, me234, mh232⟩ := zk_lt mh232
                                  subst me234
                                  unfold B_X12_ran_19 at mh232
                                  obtain ⟨mv235, me236, mh232⟩ := zk_lt mh232
                                  subst me236
                                  simp only [Option.some.injEq, Prod.mk.injEq] at mh232
                                  obtain ⟨rfl, rfl⟩ := mh232
                                  obtain ⟨mv237, mv238, mv239, mh240, mh229⟩ := zk_o3 mh229
                                  unfold f_X12_settles at mh240
                                  unfold B_X12_settles_0 at mh240
                                  obtain ⟨mv241, mv242, mh243, mh240⟩ := zk_o2 mh240
                                  obtain mq244 := bk12_e (hB12 hi) mh243
                                  replace mq244 := mq244.symm
                                  subst mq244
                                  have mh240 := zk_f (by decide) mh240
                                  have mh240 := zk_f (by decide) mh240
                                  have mh240 := zk_f (by decide) mh240
                                  obtain ⟨mv245, mv246, mv247, mh248, mh240⟩ := zk_o3 mh240
                                  unfold f_X12_plainSettles at mh248
                                  unfold B_X12_plainSettles_0 at mh248
                                  obtain ⟨mv249, mv250, mh251, mh248⟩ := zk_o2 mh248
                                  unfold f_X12_ran at mh251
                                  unfold B_X12_ran_0 at mh251
                                  have mh251 := zk_f (by decide) mh251
                                  obtain ⟨_, mh251⟩ := zk_gd mh251
                                  obtain ⟨mv252, me253, mh251⟩ := zk_lt mh251
                                  subst me253
                                  unfold B_X12_ran_19 at mh251
                                  obtain ⟨mv254, me255, mh251⟩ := zk_lt mh251
                                  subst me255
                                  simp only [Option.some.injEq, Prod.mk.injEq] at mh251
                                  obtain ⟨rfl, rfl⟩ := mh251
                                  obtain ⟨mv256, mv257, mv258, mh259, mh248⟩ := zk_o3 mh248
                                  unfold f_X12_closes at mh259
                                  unfold B_X12_closes_0 at mh259
                                  rw [ea] at mh259
                                  obtain ⟨mv260, mv261, mh262, mh259⟩ := zk_o2 mh259
                                  obtain mq263 := bk12_e (hB12 hi) mh262
                                  replace mq263 := mq263.symm
                                  subst mq263
                                  have mh259 := zk_f (by decide) mh259
                                  have mh259 := zk_f (by decide) mh259
                                  have mh259 := zk_f (by decide) mh259
                                  have mh259 := zk_f (by decide) mh259
                                  obtain ⟨mv264, mv265, mv266, mh267, mh259⟩ := zk_o3 mh259
                                  unfold f_X12_plainCloses at mh267
                                  unfold B_X12_plainCloses_0 at mh267
                                  obtain ⟨mv268, mv269, mh270, mh267⟩ := zk_o2 mh267
                                  unfold f_X12_ran at mh270
                                  unfold B_X12_ran_0 at mh270
                                  have mh270 := zk_f (by decide) mh270
                                  obtain ⟨_, mh270⟩ := zk_gd mh270
                                  obtain ⟨mv271, me272, mh270⟩ := zk_lt mh270
                                  subst me272
                                  unfold B_X12_ran_19 at mh270
                                  obtain ⟨mv273, me274, mh270⟩ := zk_lt mh270
                                  subst me274
                                  simp only [Option.some.injEq, Prod.mk.injEq] at mh270
                                  obtain ⟨rfl, rfl⟩ := mh270
                                  simp only [Option.some.injEq, Prod.mk.injEq] at mh267
                                  obtain ⟨rfl, rfl, rfl⟩ := mh267
                                  simp only [Option.some.injEq, Prod.mk.injEq] at mh259
                                  obtain ⟨rfl, rfl, rfl⟩ := mh259
                                  simp only [Option.some.injEq, Prod.mk.injEq] at mh248
                                  obtain ⟨rfl, rfl, rfl⟩ := mh248
                                  simp only [Option.some.injEq, Prod.mk.injEq] at mh240
                                  obtain ⟨rfl, rfl, rfl⟩ := mh240
                                  obtain ⟨mv275, mv276, mv277, mh278, mh229⟩ := zk_o3 mh229
                                  unfold f_X12_binds at mh278
                                  unfold B_X12_binds_0 at mh278
                                  obtain ⟨mv279, mv280, mh281, mh278⟩ := zk_o2 mh278
                                  obtain mq282 := bk12_e (hB12 hi) mh281
                                  replace mq282 := mq282.symm
                                  subst mq282
                                  obtain ⟨mv283, mv284, mh285, mh278⟩ := zk_o2 mh278
                                  unfold f_X12_isUnder at mh285
                                  unfold B_X12_isUnder_0 at mh285
                                  have mh285 := zk_f (by decide) mh285
                                  have mh285 := zk_f (by decide) mh285
                                  have mh285 := zk_f (by decide) mh285
                                  unfold B_X12_isUnder_19 at mh285
                                  have mh285 := zk_t rfl mh285
                                  have mh285 := zk_f (by decide) mh285
                                  unfold B_X12_isUnder_29 at mh285
                                  have mh285 := zk_f (by decide) mh285
                                  simp only [Option.some.injEq, Prod.mk.injEq] at mh285
                                  obtain ⟨rfl, _⟩ := mh285
                                  have mh278 := zk_t rfl mh278
                                  obtain ⟨mv286, mv287, mv288, mh289, mh278⟩ := zk_o3 mh278
                                  unfold f_X12_plainBinds at mh289
                                  unfold B_X12_plainBinds_0 at mh289
                                  obtain ⟨mv290, mv291, mh292, mh289⟩ := zk_o2 mh289
                                  unfold f_X12_ran at mh292
                                  unfold B_X12_ran_0 at mh292
                                  have mh292 := zk_f (by decide) mh292
                                  obtain ⟨_, mh292⟩ := zk_gd mh292
                                  obtain ⟨mv293, me294, mh292⟩ := zk_lt mh292
                                  subst me294
                                  unfold B_X12_ran_19 at mh292
                                  obtain ⟨mv295, me296, mh292⟩ := zk_lt mh292
                                  subst me296
                                  simp only [Option.some.injEq, Prod.mk.injEq] at mh292
                                  obtain ⟨rfl, rfl⟩ := mh292
                                  simp only [Option.some.injEq, Prod.mk.injEq] at mh289
                                  obtain ⟨rfl, rfl, rfl⟩ := mh289
                                  simp only [Option.some.injEq, Prod.mk.injEq] at mh278
                                  obtain ⟨rfl, rfl, rfl⟩ := mh278
                                  simp only [Option.some.injEq, Prod.mk.injEq] at mh229
                                  obtain ⟨rfl, rfl, rfl⟩ := mh229
                                  simp only [Option.some.injEq, Prod.mk.injEq] at mh221
                                  obtain ⟨rfl, rfl, rfl⟩ := mh221
                                  replace h := Option.some.inj h
                                  replace k := Option.some.inj k
                                  subst h
                                  subst k
                                  try dsimp only
                                  all_goals first
                                  | (exfalso; omega)
                                  | exact ⟨rfl, rfl, fun e => by first | exact e | rw [e]⟩
                                  | exact ⟨rfl, rfl, fun e => by rw [e]; rfl⟩

set_option maxHeartbeats 4000000 in
set_option maxRecDepth 20000 in
theorem pw_act1 {mod_code : Int32} {court_shoeCount : Int32} {mod_claims : Int32} {ts : Int32} {at_ : Int32} {f : Int32} {court_suitCount : Int32} {mod_doneMany : Int32} {mod_undoneMany : Int32} {mod_open : Int32} {mod_laid : Int32} {mod_isBoth : Int32} {mod_wished : Int32} {mod_bestMany : Int32} {mod_bestRow : Int32} {mod_ringDigits : Int32} {mod_traces : Int32} {mod_askedMany : Nat → Int32} {mod_endKind : Nat → Int32} {mod_undoneFrom : Nat → Int32} {mod_traced : Nat → Int32} {court_claimCount : Int32} {court_suits : Nat → Option Nat} {S_who : Nat → Int32} {S_against : Nat → Int32} {S_kind : Nat → Int32} {S_won : Nat → Int32} {S_day : Nat → Int32} {S_land : Nat → Int32} {S_undoneFrom : Nat → Int32} {S_asked : Nat → Nat → Int32} {S_askedCount : Nat → Int32} {S_askedBits : Nat → Int32} {S_first : Nat → Int32} {S_foundSo : Nat → Int32} {S_foundNot : Nat → Int32} {S_fought : Nat → Int32} {S_needed : Nat → Int32} {acts_ran : Int32} {acts_kind : Int32} {acts_number : Int32} {acts_claims : Int32} {acts_bodies : Nat → Int32} {x1 x2 x3 : Int32} {R : Int32 × Int32 × Int32 × Int32 × Int32 × (Nat → Int32)} {Q : Int32 × Int32 × (Nat → Int32)} (hn : 0 ≤ court_suitCount.toInt ∧ court_suitCount.toInt ≤ 40) (hA : WU court_suitCount S_askedCount mod_askedMany) (hB8 : ((S_undoneFrom x1.toNatClampNeg).toInt < 0 ∧ S_kind x1.toNatClampNeg = (1 : Int32)) ∨ (0 ≤ (S_undoneFrom x1.toNatClampNeg).toInt ∧ (1 : Int32) = 5)) (hB12 : x1.toNatClampNeg < court_suitCount.toInt.toNat → ((mod_undoneFrom x1.toNatClampNeg).toInt < 0 ∧ mod_endKind x1.toNatClampNeg = (1 : Int32)) ∨ (0 ≤ (mod_undoneFrom x1.toNatClampNeg).toInt ∧ (1 : Int32) = 5)) (h : f_X11_act x1 x2 x3 court_shoeCount court_claimCount court_suitCount court_suits acts_ran acts_kind acts_number acts_claims acts_bodies S_who S_against S_kind S_won S_day S_land S_undoneFrom S_asked S_askedCount S_askedBits S_first S_foundSo S_foundNot S_fought S_needed = some R) (k : f_X12_act x1 x2 x3 mod_code court_shoeCount mod_claims ts at_ f court_suitCount mod_doneMany mod_undoneMany mod_open mod_laid mod_isBoth mod_wished mod_bestMany mod_bestRow mod_ringDigits mod_traces mod_endKind mod_undoneFrom mod_askedMany mod_traced = some Q) : R.1 = Q.1 ∧ R.2.1 = Q.2.1 ∧ (acts_bodies = mod_traced → R.2.2.2.2.2 = Q.2.2) := by
  have hn1 := i32_m1 (a := court_suitCount) (by omega)
  unfold f_X11_act at h
  unfold f_X12_act at k
  unfold B_X11_act_0 at h
  replace h := zk_o2 h
  obtain ⟨cv1, cv2, ch3, h⟩ := h
  unfold f_X2_suitAt at ch3
  unfold B_X2_suitAt_0 at ch3
  by_cases cc4 : x1 < 0
  · have ch3 := zk_t cc4 ch3
    have cc4n := cc4
    (try simp only [i32_lt, i32_le, i32_e, z32_0, z32_1] at cc4n)
    first
    | (exfalso; omega)
    | simp only [Option.some.injEq, Prod.mk.injEq] at ch3
      obtain ⟨rfl, _⟩ := ch3
      replace h := zk_t (by decide) h
      unfold B_X12_act_0 at k
      replace k := zk_o2 k
      obtain ⟨mv1, mv2, mh3, k⟩ := k
      unfold f_X12_isSuit at mh3
      unfold B_X12_isSuit_0 at mh3
      obtain ⟨mv4, mv5, mh6, mh3⟩ := zk_o2 mh3
      unfold f_X12_in at mh6
      unfold B_X12_in_0 at mh6
      have mh6 := zk_t cc4 mh6
      simp only [Option.some.injEq, Prod.mk.injEq] at mh6
      obtain ⟨rfl, _⟩ := mh6
      obtain ⟨_, mh3⟩ := zk_gd mh3
      simp only [Option.some.injEq, Prod.mk.injEq] at mh3
      obtain ⟨rfl, _⟩ := mh3
      replace k := zk_t rfl k
      replace h := Option.some.inj h
      replace k := Option.some.inj k
      subst h
      subst k
      try dsimp only
      all_goals first
      | (exfalso; omega)
      | exact ⟨rfl, rfl, fun e => by first | exact e | rw [e]⟩
      | exact ⟨rfl, rfl, fun e => by rw [e]; rfl⟩
  · have ch3 := zk_f cc4 ch3
    have cc4n := cc4
    (try simp only [i32_lt, i32_le, i32_e, z32_0, z32_1] at cc4n)
    first
    | (exfalso; omega)
    | by_cases cc5 : court_suitCount ≤ x1
      · have ch3 := zk_t cc5 ch3
        have cc5n := cc5
        (try simp only [i32_lt, i32_le, i32_e, z32_0, z32_1] at cc5n)
        first
        | (exfalso; omega)
        | simp only [Option.some.injEq, Prod.mk.injEq] at ch3
          obtain ⟨rfl, _⟩ := ch3
          replace h := zk_t (by decide) h
          unfold B_X12_act_0 at k
          replace k := zk_o2 k
          obtain ⟨mv7, mv8, mh9, k⟩ := k
          unfold f_X12_isSuit at mh9
          unfold B_X12_isSuit_0 at mh9
          obtain ⟨mv10, mv11, mh12, mh9⟩ := zk_o2 mh9
          unfold f_X12_in at mh12
          unfold B_X12_in_0 at mh12
          have mh12 := zk_f cc4 mh12
          have mh12 := zk_t (by (try simp only [i32_lt, i32_le, i32_e, z32_0, z32_1]); omega) mh12
          simp only [Option.some.injEq, Prod.mk.injEq] at mh12
          obtain ⟨rfl, _⟩ := mh12
          obtain ⟨_, mh9⟩ := zk_gd mh9
          simp only [Option.some.injEq, Prod.mk.injEq] at mh9
          obtain ⟨rfl, _⟩ := mh9
          replace k := zk_t rfl k
          replace h := Option.some.inj h
          replace k := Option.some.inj k
          subst h
          subst k
          try dsimp only
          all_goals first
          | (exfalso; omega)
          | exact ⟨rfl, rfl, fun e => by first | exact e | rw [e]⟩
          | exact ⟨rfl, rfl, fun e => by rw [e]; rfl⟩
      · have ch3 := zk_f cc5 ch3
        have cc5n := cc5
        (try simp only [i32_lt, i32_le, i32_e, z32_0, z32_1] at cc5n)
        first
        | (exfalso; omega)
        | obtain ⟨_, ch3⟩ := zk_gd ch3
          obtain ⟨_, ch3⟩ := zk_gd ch3
          obtain ⟨_, ch3⟩ := zk_gd ch3
          simp only [Option.some.injEq, Prod.mk.injEq] at ch3
          obtain ⟨rfl, _⟩ := ch3
          replace h := zk_f cc4 h
          replace h := zk_gd h
          obtain ⟨_, h⟩ := h
          replace h := zk_o2 h
          obtain ⟨cv6, cv7, ch8, h⟩ := h
          obtain cq9 := bk8_e hB8 ch8
          replace cq9 := cq9.symm
          subst cq9
          replace h := zk_gd h
          obtain ⟨_, h⟩ := h
          replace h := zk_o4 h
          obtain ⟨cv10, cv11, cv12, cv13, ch14, h⟩ := h
          unfold f_X0_begin at ch14
          unfold B_X0_begin_0 at ch14
          simp only [Option.some.injEq, Prod.mk.injEq] at ch14
          obtain ⟨rfl, rfl, rfl, rfl⟩ := ch14
          by_cases cc15 : x2 = (0 : Int32)
          · replace h := zk_t cc15 h
            have cc15n := cc15
            (try simp only [i32_lt, i32_le, i32_e, z32_0, z32_1] at cc15n)
            first
            | (exfalso; omega)
            | obtain ⟨cv16, cv17, cv18, ch19, h⟩ := zk_o3 h
              have ch19 : f_X0_closes (grp_grp138 6) (1 : Int32) x3 (0 : Int32) (1 : Int32) x1 (S_askedCount x1.toNatClampNeg) acts_bodies = some (cv16, cv17, cv18) := ch19
              unfold f_X0_closes at ch19
              unfold B_X0_closes_0 at ch19
              have ch19 := zk_t rfl ch19
              obtain ⟨cv20, cv21, ch22, ch19⟩ := zk_o2 ch19
              unfold f_X0_above at ch22
              unfold B_X0_above_0 at ch22
              have ch22 := zk_f (by decide) ch22
              have ch22 := zk_f (by decide) ch22
              have ch22 := zk_f (by decide) ch22
              simp only [Option.some.injEq, Prod.mk.injEq] at ch22
              obtain ⟨rfl, _⟩ := ch22
              obtain ⟨cv23, cv24, cv25, ch26, ch19⟩ := zk_o3 ch19
              have ch26 : f_X0_closes (grp_grp138 5) (0 : Int32) x3 (0 : Int32) (1 : Int32) x1 (S_askedCount x1.toNatClampNeg) acts_bodies = some (cv23, cv24, cv25) := ch26
              unfold f_X0_closes at ch26
              unfold B_X0_closes_0 at ch26
              have ch26 := zk_f (by decide) ch26
              have ch26 := zk_f (by decide) ch26
              have ch26 := zk_f (by decide) ch26
              have ch26 := zk_f (by decide) ch26
              have ch26 := zk_f (by decide) ch26
              have ch26 := zk_f (by decide) ch26
              obtain ⟨cv27, cv28, ch29, ch26⟩ := zk_o2 ch26
              unfold f_X0_note at ch29
              unfold B_X0_note_0 at ch29
              have ch29 := zk_f (by decide) ch29
              obtain ⟨_, ch29⟩ := zk_gd ch29
              obtain ⟨cv30, ce31, ch29⟩ := zk_lt ch29
              subst ce31
              unfold B_X0_note_19 at ch29
              obtain ⟨cv32, ce33, ch29⟩ := zk_lt ch29
              subst ce33
              simp only [Option.some.injEq, Prod.mk.injEq] at ch29
              obtain ⟨rfl, rfl⟩ := ch29
              simp only [Option.some.injEq, Prod.mk.injEq] at ch26
              obtain ⟨rfl, rfl, rfl⟩ := ch26
              simp only [Option.some.injEq, Prod.mk.injEq] at ch19
              obtain ⟨rfl, rfl, rfl⟩ := ch19
              have hi : x1.toNatClampNeg < court_suitCount.toInt.toNat := by rw [tcn]; omega
              have ea : mod_askedMany x1.toNatClampNeg = S_askedCount x1.toNatClampNeg := (hA _ hi).symm
              unfold B_X12_act_0 at k
              replace k := zk_o2 k
              obtain ⟨mv13, mv14, mh15, k⟩ := k
              unfold f_X12_isSuit at mh15
              unfold B_X12_isSuit_0 at mh15
              obtain ⟨mv16, mv17, mh18, mh15⟩ := zk_o2 mh15
              unfold f_X12_in at mh18
              unfold B_X12_in_0 at mh18
              have mh18 := zk_f cc4 mh18
              have mh18 := zk_f (by (try simp only [i32_lt, i32_le, i32_e, z32_0, z32_1]); omega) mh18
              simp only [Option.some.injEq, Prod.mk.injEq] at mh18
              obtain ⟨rfl, _⟩ := mh18
              obtain ⟨_, mh15⟩ := zk_gd mh15
              simp only [Option.some.injEq, Prod.mk.injEq] at mh15
              obtain ⟨rfl, _⟩ := mh15
              replace k := zk_f (by decide) k
              replace k := zk_o2 k
              obtain ⟨mv19, mv20, mh21, k⟩ := k
              unfold f_X12_in at mh21
              unfold B_X12_in_0 at mh21
              have mh21 := zk_f (by (try simp only [i32_lt, i32_le, i32_e, z32_0, z32_1]); omega) mh21
              have mh21 := zk_f (by (try simp only [i32_lt, i32_le, i32_e, z32_0, z32_1, z32L_3]); omega) mh21
              simp only [Option.some.injEq, Prod.mk.injEq] at mh21
              obtain ⟨rfl, _⟩ := mh21
              replace k := zk_f (by decide) k
              replace k := zk_t cc15 k
              replace k := zk_o3 k
              obtain ⟨mv22, mv23, mv24, mh25, k⟩ := k
              unfold f_X12_closes at mh25
              unfold B_X12_closes_0 at mh25
              rw [ea] at mh25
              obtain ⟨mv26, mv27, mh28, mh25⟩ := zk_o2 mh25
              obtain mq29 := bk12_e (hB12 hi) mh28
              replace mq29 := mq29.symm
              subst mq29
              have mh25 := zk_f (by decide) mh25
              have mh25 := zk_f (by decide) mh25
              have mh25 := zk_f (by decide) mh25
              have mh25 := zk_f (by decide) mh25
              obtain ⟨mv30, mv31, mv32, mh33, mh25⟩ := zk_o3 mh25
              unfold f_X12_plainCloses at mh33
              unfold B_X12_plainCloses_0 at mh33
              obtain ⟨mv34, mv35, mh36, mh33⟩ := zk_o2 mh33
              unfold f_X12_ran at mh36
              unfold B_X12_ran_0 at mh36
              have mh36 := zk_f (by decide) mh36
              obtain ⟨_, mh36⟩ := zk_gd mh36
              obtain ⟨mv37, me38, mh36⟩ := zk_lt mh36
              subst me38
              unfold B_X12_ran_19 at mh36
              obtain ⟨mv39, me40, mh36⟩ := zk_lt mh36
              subst me40
              simp only [Option.some.injEq, Prod.mk.injEq] at mh36
              obtain ⟨rfl, rfl⟩ := mh36
              simp only [Option.some.injEq, Prod.mk.injEq] at mh33
              obtain ⟨rfl, rfl, rfl⟩ := mh33
              simp only [Option.some.injEq, Prod.mk.injEq] at mh25
              obtain ⟨rfl, rfl, rfl⟩ := mh25
              replace h := Option.some.inj h
              replace k := Option.some.inj k
              subst h
              subst k
              try dsimp only
              all_goals first
              | (exfalso; omega)
              | exact ⟨rfl, rfl, fun e => by first | exact e | rw [e]⟩
              | exact ⟨rfl, rfl, fun e => by rw [e]; rfl⟩
          · replace h := zk_f cc15 h
            have cc15n := cc15
            (try simp only [i32_lt, i32_le, i32_e, z32_0, z32_1] at cc15n)
            first
            | (exfalso; omega)
            | by_cases cc34 : x2 = (1 : Int32)
              · replace h := zk_t cc34 h
                have cc34n := cc34
                (try simp only [i32_lt, i32_le, i32_e, z32_0, z32_1] at cc34n)
                first
                | (exfalso; omega)
                | obtain ⟨cv35, cv36, cv37, ch38, h⟩ := zk_o3 h
                  have ch38 : f_X0_settles (grp_grp140 6) (1 : Int32) x3 (0 : Int32) (1 : Int32) x1 (S_askedCount x1.toNatClampNeg) acts_bodies = some (cv35, cv36, cv37) := ch38
                  unfold f_X0_settles at ch38
                  unfold B_X0_settles_0 at ch38
                  have ch38 := zk_t rfl ch38
                  obtain ⟨cv39, cv40, ch41, ch38⟩ := zk_o2 ch38
                  unfold f_X0_note at ch41
                  unfold B_X0_note_0 at ch41
                  have ch41 := zk_f (by decide) ch41
                  obtain ⟨_, ch41⟩ := zk_gd ch41
                  obtain ⟨cv42, ce43, ch41⟩ := zk_lt ch41
                  subst ce43
                  unfold B_X0_note_19 at ch41
                  obtain ⟨cv44, ce45, ch41⟩ := zk_lt ch41
                  subst ce45
                  simp only [Option.some.injEq, Prod.mk.injEq] at ch41
                  obtain ⟨rfl, rfl⟩ := ch41
                  obtain ⟨cv46, cv47, ch48, ch38⟩ := zk_o2 ch38
                  unfold f_X0_above at ch48
                  unfold B_X0_above_0 at ch48
                  have ch48 := zk_f (by decide) ch48
                  have ch48 := zk_f (by decide) ch48
                  have ch48 := zk_f (by decide) ch48
                  simp only [Option.some.injEq, Prod.mk.injEq] at ch48
                  obtain ⟨rfl, _⟩ := ch48
                  obtain ⟨cv49, cv50, cv51, ch52, ch38⟩ := zk_o3 ch38
                  have ch52 : f_X0_settles (grp_grp140 5) (0 : Int32) x3 ((0 : Int32) + (1 : Int32)) (1 : Int32) x1 (S_askedCount x1.toNatClampNeg) (upd acts_bodies (0 : Int32).toNatClampNeg (20 : Int32)) = some (cv49, cv50, cv51) := ch52
                  unfold f_X0_settles at ch52
                  unfold B_X0_settles_0 at ch52
                  have ch52 := zk_f (by decide) ch52
                  have ch52 := zk_f (by decide) ch52
                  have ch52 := zk_f (by decide) ch52
                  have ch52 := zk_f (by decide) ch52
                  have ch52 := zk_f (by decide) ch52
                  have ch52 := zk_f (by decide) ch52
                  obtain ⟨cv53, cv54, ch55, ch52⟩ := zk_o2 ch52
                  unfold f_X0_note at ch55
                  unfold B_X0_note_0 at ch55
                  have ch55 := zk_f (by decide) ch55
                  obtain ⟨_, ch55⟩ := zk_gd ch55
                  obtain ⟨cv56, ce57, ch55⟩ := zk_lt ch55
                  subst ce57
                  unfold B_X0_note_19 at ch55
                  obtain ⟨cv58, ce59, ch55⟩ := zk_lt ch55
                  subst ce59
                  simp only [Option.some.injEq, Prod.mk.injEq] at ch55
                  obtain ⟨rfl, rfl⟩ := ch55
                  obtain ⟨cv60, cv61, cv62, ch63, ch52⟩ := zk_o3 ch52
                  have ch63 : f_X0_closes (grp_grp138 6) (1 : Int32) x3 (((0 : Int32) + (1 : Int32)) + (1 : Int32)) (1 : Int32) x1 (S_askedCount x1.toNatClampNeg) (upd (upd acts_bodies (0 : Int32).toNatClampNeg (20 : Int32)) ((0 : Int32) + (1 : Int32)).toNatClampNeg (10 : Int32)) = some (cv60, cv61, cv62) := ch63
                  unfold f_X0_closes at ch63
                  unfold B_X0_closes_0 at ch63
                  have ch63 := zk_t rfl ch63
                  obtain ⟨cv64, cv65, ch66, ch63⟩ := zk_o2 ch63
                  unfold f_X0_above at ch66
                  unfold B_X0_above_0 at ch66
                  have ch66 := zk_f (by decide) ch66
                  have ch66 := zk_f (by decide) ch66
                  have ch66 := zk_f (by decide) ch66
                  simp only [Option.some.injEq, Prod.mk.injEq] at ch66
                  obtain ⟨rfl, _⟩ := ch66
                  obtain ⟨cv67, cv68, cv69, ch70, ch63⟩ := zk_o3 ch63
                  have ch70 : f_X0_closes (grp_grp138 5) (0 : Int32) x3 (((0 : Int32) + (1 : Int32)) + (1 : Int32)) (1 : Int32) x1 (S_askedCount x1.toNatClampNeg) (upd (upd acts_bodies (0 : Int32).toNatClampNeg (20 : Int32)) ((0 : Int32) + (1 : Int32)).toNatClampNeg (10 : Int32)) = some (cv67, cv68, cv69) := ch70
                  unfold f_X0_closes at ch70
                  unfold B_X0_closes_0 at ch70
                  have ch70 := zk_f (by decide) ch70
                  have ch70 := zk_f (by decide) ch70
                  have ch70 := zk_f (by decide) ch70
                  have ch70 := zk_f (by decide) ch70
                  have ch70 := zk_f (by decide) ch70
                  have ch70 := zk_f (by decide) ch70
                  obtain ⟨cv71, cv72, ch73, ch70⟩ := zk_o2 ch70
                  unfold f_X0_note at ch73
                  unfold B_X0_note_0 at ch73
                  have ch73 := zk_f (by decide) ch73
                  obtain ⟨_, ch73⟩ := zk_gd ch73
                  obtain ⟨cv74, ce75, ch73⟩ := zk_lt ch73
                  subst ce75
                  unfold B_X0_note_19 at ch73
                  obtain ⟨cv76, ce77, ch73⟩ := zk_lt ch73
                  subst ce77
                  simp only [Option.some.injEq, Prod.mk.injEq] at ch73
                  obtain ⟨rfl, rfl⟩ := ch73
                  simp only [Option.some.injEq, Prod.mk.injEq] at ch70
                  obtain ⟨rfl, rfl, rfl⟩ := ch70
                  simp only [Option.some.injEq, Prod.mk.injEq] at ch63
                  obtain ⟨rfl, rfl, rfl⟩ := ch63
                  simp only [Option.some.injEq, Prod.mk.injEq] at ch52
                  obtain ⟨rfl, rfl, rfl⟩ := ch52
                  simp only [Option.some.injEq, Prod.mk.injEq] at ch38
                  obtain ⟨rfl, rfl, rfl⟩ := ch38
                  have hi : x1.toNatClampNeg < court_suitCount.toInt.toNat := by rw [tcn]; omega
                  have ea : mod_askedMany x1.toNatClampNeg = S_askedCount x1.toNatClampNeg := (hA _ hi).symm
                  unfold B_X12_act_0 at k
                  replace k := zk_o2 k
                  obtain ⟨mv41, mv42, mh43, k⟩ := k
                  unfold f_X12_isSuit at mh43
                  unfold B_X12_isSuit_0 at mh43
                  obtain ⟨mv44, mv45, mh46, mh43⟩ := zk_o2 mh43
                  unfold f_X12_in at mh46
                  unfold B_X12_in_0 at mh46
                  have mh46 := zk_f cc4 mh46
                  have mh46 := zk_f (by (try simp only [i32_lt, i32_le, i32_e, z32_0, z32_1]); omega) mh46
                  simp only [Option.some.injEq, Prod.mk.injEq] at mh46
                  obtain ⟨rfl, _⟩ := mh46
                  obtain ⟨_, mh43⟩ := zk_gd mh43
                  simp only [Option.some.injEq, Prod.mk.injEq] at mh43
                  obtain ⟨rfl, _⟩ := mh43
                  replace k := zk_f (by decide) k
                  replace k := zk_o2 k
                  obtain ⟨mv47, mv48, mh49, k⟩ := k
                  unfold f_X12_in at mh49
                  unfold B_X12_in_0 at mh49
                  have mh49 := zk_f (by (try simp only [i32_lt, i32_le, i32_e, z32_0, z32_1]); omega) mh49
                  have mh49 := zk_f (by (try simp only [i32_lt, i32_le, i32_e, z32_0, z32_1, z32L_3]); omega) mh49
                  simp only [Option.some.injEq, Prod.mk.injEq] at mh49
                  obtain ⟨rfl, _⟩ := mh49
                  replace k := zk_f (by decide) k
                  replace k := zk_f cc15 k
                  replace k := zk_t cc34 k
                  replace k := zk_o3 k
                  obtain ⟨mv50, mv51, mv52, mh53, k⟩ := k
                  unfold f_X12_settles at mh53
                  unfold B_X12_settles_0 at mh53
                  obtain ⟨mv54, mv55, mh56, mh53⟩ := zk_o2 mh53
                  obtain mq57 := bk12_e (hB12 hi) mh56
                  replace mq57 := mq57.symm
                  subst mq57
                  have mh53 := zk_f (by decide) mh53
                  have mh53 := zk_f (by decide) mh53
                  have mh53 := zk_t rfl mh53
                  obtain ⟨mv58, mv59, mv60, mh61, mh53⟩ := zk_o3 mh53
                  unfold f_X12_meritsSettles at mh61
                  unfold B_X12_meritsSettles_0 at mh61
                  rw [ea] at mh61
                  obtain ⟨mv62, mv63, mh64, mh61⟩ := zk_o2 mh61
                  unfold f_X12_ran at mh64
                  unfold B_X12_ran_0 at mh64
                  have mh64 := zk_f (by decide) mh64
                  obtain ⟨_, mh64⟩ := zk_gd mh64
                  obtain ⟨mv65, me66, mh64⟩ := zk_lt mh64
                  subst me66
                  unfold B_X12_ran_19 at mh64
                  obtain ⟨mv67, me68, mh64⟩ := zk_lt mh64
                  subst me68
                  simp only [Option.some.injEq, Prod.mk.injEq] at mh64
                  obtain ⟨rfl, rfl⟩ := mh64
                  obtain ⟨mv69, mv70, mv71, mh72, mh61⟩ := zk_o3 mh61
                  unfold f_X12_plainSettles at mh72
                  unfold B_X12_plainSettles_0 at mh72
                  obtain ⟨mv73, mv74, mh75, mh72⟩ := zk_o2 mh72
                  unfold f_X12_ran at mh75
                  unfold B_X12_ran_0 at mh75
                  have mh75 := zk_f (by decide) mh75
                  obtain ⟨_, mh75⟩ := zk_gd mh75
                  obtain ⟨mv76, me77, mh75⟩ := zk_lt mh75
                  subst me77
                  unfold B_X12_ran_19 at mh75
                  obtain ⟨mv78, me79, mh75⟩ := zk_lt mh75
                  subst me79
                  simp only [Option.some.injEq, Prod.mk.injEq] at mh75
                  obtain ⟨rfl, rfl⟩ := mh75
                  obtain ⟨mv80, mv81, mv82, mh83, mh72⟩ := zk_o3 mh72
                  unfold f_X12_closes at mh83
                  unfold B_X12_closes_0 at mh83
                  rw [ea] at mh83
                  obtain ⟨mv84, mv85, mh86, mh83⟩ := zk_o2 mh83
                  obtain mq87 := bk12_e (hB12 hi) mh86
                  replace mq87 := mq87.symm
                  subst mq87
                  have mh83 := zk_f (by decide) mh83
                  have mh83 := zk_f (by decide) mh83
                  have mh83 := zk_f (by decide) mh83
                  have mh83 := zk_f (by decide) mh83
                  obtain ⟨mv88, mv89, mv90, mh91, mh83⟩ := zk_o3 mh83
                  unfold f_X12_plainCloses at mh91
                  unfold B_X12_plainCloses_0 at mh91
                  obtain ⟨mv92, mv93, mh94, mh91⟩ := zk_o2 mh91
                  unfold f_X12_ran at mh94
                  unfold B_X12_ran_0 at mh94
                  have mh94 := zk_f (by decide) mh94
                  obtain ⟨_, mh94⟩ := zk_gd mh94
                  obtain ⟨mv95, me96, mh94⟩ := zk_lt mh94
                  subst me96
                  unfold B_X12_ran_19 at mh94
                  obtain ⟨mv97, me98, mh94⟩ := zk_lt mh94
                  subst me98
                  simp only [Option.some.injEq, Prod.mk.injEq] at mh94
                  obtain ⟨rfl, rfl⟩ := mh94
                  simp only [Option.some.injEq, Prod.mk.injEq] at mh91
                  obtain ⟨rfl, rfl, rfl⟩ := mh91
                  simp only [Option.some.injEq, Prod.mk.injEq] at mh83
                  obtain ⟨rfl, rfl, rfl⟩ := mh83
                  simp only [Option.some.injEq, Prod.mk.injEq] at mh72
                  obtain ⟨rfl, rfl, rfl⟩ := mh72
                  obtain ⟨_, mh61⟩ := zk_gd mh61
                  simp only [Option.some.injEq, Prod.mk.injEq] at mh61
                  obtain ⟨rfl, rfl, rfl⟩ := mh61
                  simp only [Option.some.injEq, Prod.mk.injEq] at mh53
                  obtain ⟨rfl, rfl, rfl⟩ := mh53
                  replace h := Option.some.inj h
                  replace k := Option.some.inj k
                  subst h
                  subst k
                  try dsimp only
                  all_goals first
                  | (exfalso; omega)
                  | exact ⟨rfl, rfl, fun e => by first | exact e | rw [e]⟩
                  | exact ⟨rfl, rfl, fun e => by rw [e]; rfl⟩
              · replace h := zk_f cc34 h
                have cc34n := cc34
                (try simp only [i32_lt, i32_le, i32_e, z32_0, z32_1] at cc34n)
                first
                | (exfalso; omega)
                | by_cases cc78 : x2 = (2 : Int32)
                  · replace h := zk_t cc78 h
                    have cc78n := cc78
                    (try simp only [i32_lt, i32_le, i32_e, z32_0, z32_1, z32L_2] at cc78n)
                    first
                    | (exfalso; omega)
                    | obtain ⟨cv79, cv80, cv81, ch82, h⟩ := zk_o3 h
                      have ch82 : f_X0_binds (grp_grp139 6) (1 : Int32) x3 (0 : Int32) (1 : Int32) x1 (S_askedCount x1.toNatClampNeg) acts_bodies = some (cv79, cv80, cv81) := ch82
                      unfold f_X0_binds at ch82
                      unfold B_X0_binds_0 at ch82
                      have ch82 := zk_f (by decide) ch82
                      have ch82 := zk_f (by decide) ch82
                      obtain ⟨cv83, cv84, ch85, ch82⟩ := zk_o2 ch82
                      unfold f_X0_above at ch85
                      unfold B_X0_above_0 at ch85
                      have ch85 := zk_f (by decide) ch85
                      have ch85 := zk_f (by decide) ch85
                      have ch85 := zk_f (by decide) ch85
                      simp only [Option.some.injEq, Prod.mk.injEq] at ch85
                      obtain ⟨rfl, _⟩ := ch85
                      obtain ⟨cv86, cv87, cv88, ch89, ch82⟩ := zk_o3 ch82
                      have ch89 : f_X0_binds (grp_grp139 5) (0 : Int32) x3 (0 : Int32) (1 : Int32) x1 (S_askedCount x1.toNatClampNeg) acts_bodies = some (cv86, cv87, cv88) := ch89
                      unfold f_X0_binds at ch89
                      unfold B_X0_binds_0 at ch89
                      have ch89 := zk_f (by decide) ch89
                      have ch89 := zk_t (Int32.le_refl _) ch89
                      obtain ⟨cv90, cv91, ch92, ch89⟩ := zk_o2 ch89
                      unfold f_X0_note at ch92
                      unfold B_X0_note_0 at ch92
                      have ch92 := zk_f (by decide) ch92
                      obtain ⟨_, ch92⟩ := zk_gd ch92
                      obtain ⟨cv93, ce94, ch92⟩ := zk_lt ch92
                      subst ce94
                      unfold B_X0_note_19 at ch92
                      obtain ⟨cv95, ce96, ch92⟩ := zk_lt ch92
                      subst ce96
                      simp only [Option.some.injEq, Prod.mk.injEq] at ch92
                      obtain ⟨rfl, rfl⟩ := ch92
                      simp only [Option.some.injEq, Prod.mk.injEq] at ch89
                      obtain ⟨rfl, rfl, rfl⟩ := ch89
                      simp only [Option.some.injEq, Prod.mk.injEq] at ch82
                      obtain ⟨rfl, rfl, rfl⟩ := ch82
                      have hi : x1.toNatClampNeg < court_suitCount.toInt.toNat := by rw [tcn]; omega
                      have ea : mod_askedMany x1.toNatClampNeg = S_askedCount x1.toNatClampNeg := (hA _ hi).symm
                      unfold B_X12_act_0 at k
                      replace k := zk_o2 k
                      obtain ⟨mv99, mv100, mh101, k⟩ := k
                      unfold f_X12_isSuit at mh101
                      unfold B_X12_isSuit_0 at mh101
                      obtain ⟨mv102, mv103, mh104, mh101⟩ := zk_o2 mh101
                      unfold f_X12_in at mh104
                      unfold B_X12_in_0 at mh104
                      have mh104 := zk_f cc4 mh104
                      have mh104 := zk_f (by (try simp only [i32_lt, i32_le, i32_e, z32_0, z32_1]); omega) mh104
                      simp only [Option.some.injEq, Prod.mk.injEq] at mh104
                      obtain ⟨rfl, _⟩ := mh104
                      obtain ⟨_, mh101⟩ := zk_gd mh101
                      simp only [Option.some.injEq, Prod.mk.injEq] at mh101
                      obtain ⟨rfl, _⟩ := mh101
                      replace k := zk_f (by decide) k
                      replace k := zk_o2 k
                      obtain ⟨mv105, mv106, mh107, k⟩ := k
                      unfold f_X12_in at mh107
                      unfold B_X12_in_0 at mh107
                      have mh107 := zk_f (by (try simp only [i32_lt, i32_le, i32_e, z32_0, z32_1]); omega) mh107
                      have mh107 := zk_f (by (try simp only [i32_lt, i32_le, i32_e, z32_0, z32_1, z32L_3]); omega) mh107
                      simp only [Option.some.injEq, Prod.mk.injEq] at mh107
                      obtain ⟨rfl, _⟩ := mh107
                      replace k := zk_f (by decide) k
                      replace k := zk_f cc15 k
                      replace k := zk_f cc34 k
                      replace k := zk_t cc78 k
                      replace k := zk_o3 k
                      obtain ⟨mv108, mv109, mv110, mh111, k⟩ := k
                      unfold f_X12_binds at mh111
                      unfold B_X12_binds_0 at mh111
                      obtain ⟨mv112, mv113, mh114, mh111⟩ := zk_o2 mh111
                      obtain mq115 := bk12_e (hB12 hi) mh114
                      replace mq115 := mq115.symm
                      subst mq115
                      obtain ⟨mv116, mv117, mh118, mh111⟩ := zk_o2 mh111
                      unfold f_X12_isUnder at mh118
                      unfold B_X12_isUnder_0 at mh118
                      have mh118 := zk_f (by decide) mh118
                      have mh118 := zk_f (by decide) mh118
                      have mh118 := zk_f (by decide) mh118
                      unfold B_X12_isUnder_19 at mh118
                      have mh118 := zk_t rfl mh118
                      have mh118 := zk_f (by decide) mh118
                      unfold B_X12_isUnder_29 at mh118
                      have mh118 := zk_f (by decide) mh118
                      simp only [Option.some.injEq, Prod.mk.injEq] at mh118
                      obtain ⟨rfl, _⟩ := mh118
                      have mh111 := zk_t rfl mh111
                      obtain ⟨mv119, mv120, mv121, mh122, mh111⟩ := zk_o3 mh111
                      unfold f_X12_plainBinds at mh122
                      unfold B_X12_plainBinds_0 at mh122
                      obtain ⟨mv123, mv124, mh125, mh122⟩ := zk_o2 mh122
                      unfold f_X12_ran at mh125
                      unfold B_X12_ran_0 at mh125
                      have mh125 := zk_f (by decide) mh125
                      obtain ⟨_, mh125⟩ := zk_gd mh125
                      obtain ⟨mv126, me127, mh125⟩ := zk_lt mh125
                      subst me127
                      unfold B_X12_ran_19 at mh125
                      obtain ⟨mv128, me129, mh125⟩ := zk_lt mh125
                      subst me129
                      simp only [Option.some.injEq, Prod.mk.injEq] at mh125
                      obtain ⟨rfl, rfl⟩ := mh125
                      simp only [Option.some.injEq, Prod.mk.injEq] at mh122
                      obtain ⟨rfl, rfl, rfl⟩ := mh122
                      simp only [Option.some.injEq, Prod.mk.injEq] at mh111
                      obtain ⟨rfl, rfl, rfl⟩ := mh111
                      replace h := Option.some.inj h
                      replace k := Option.some.inj k
                      subst h
                      subst k
                      try dsimp only
                      all_goals first
                      | (exfalso; omega)
                      | exact ⟨rfl, rfl, fun e => by first | exact e | rw [e]⟩
                      | exact ⟨rfl, rfl, fun e => by rw [e]; rfl⟩
                  · replace h := zk_f cc78 h
                    have cc78n := cc78
                    (try simp only [i32_lt, i32_le, i32_e, z32_0, z32_1, z32L_2] at cc78n)
                    first
                    | (exfalso; omega)
                    | by_cases cc97 : x2 = (3 : Int32)
                      · replace h := zk_t cc97 h
                        have cc97n := cc97
                        (try simp only [i32_lt, i32_le, i32_e, z32_0, z32_1, z32L_3] at cc97n)
                        first
                        | (exfalso; omega)
                        | obtain ⟨cv98, cv99, cv100, ch101, h⟩ := zk_o3 h
                          have ch101 : f_X0_tells (grp_grp141 6) (1 : Int32) x3 (0 : Int32) (1 : Int32) x1 (S_askedCount x1.toNatClampNeg) acts_bodies = some (cv98, cv99, cv100) := ch101
                          unfold f_X0_tells at ch101
                          unfold B_X0_tells_0 at ch101
                          have ch101 := zk_f (by decide) ch101
                          have ch101 := zk_f (by decide) ch101
                          obtain ⟨cv102, cv103, ch104, ch101⟩ := zk_o2 ch101
                          unfold f_X0_above at ch104
                          unfold B_X0_above_0 at ch104
                          have ch104 := zk_f (by decide) ch104
                          have ch104 := zk_f (by decide) ch104
                          have ch104 := zk_f (by decide) ch104
                          simp only [Option.some.injEq, Prod.mk.injEq] at ch104
                          obtain ⟨rfl, _⟩ := ch104
                          obtain ⟨cv105, cv106, cv107, ch108, ch101⟩ := zk_o3 ch101
                          have ch108 : f_X0_tells (grp_grp141 5) (0 : Int32) x3 (0 : Int32) (1 : Int32) x1 (S_askedCount x1.toNatClampNeg) acts_bodies = some (cv105, cv106, cv107) := ch108
                          unfold f_X0_tells at ch108
                          unfold B_X0_tells_0 at ch108
                          have ch108 := zk_f (by decide) ch108
                          have ch108 := zk_t (Int32.le_refl _) ch108
                          obtain ⟨cv109, cv110, ch111, ch108⟩ := zk_o2 ch108
                          unfold f_X0_note at ch111
                          unfold B_X0_note_0 at ch111
                          have ch111 := zk_f (by decide) ch111
                          obtain ⟨_, ch111⟩ := zk_gd ch111
                          obtain ⟨cv112, ce113, ch111⟩ := zk_lt ch111
                          subst ce113
                          unfold B_X0_note_19 at ch111
                          obtain ⟨cv114, ce115, ch111⟩ := zk_lt ch111
                          subst ce115
                          simp only [Option.some.injEq, Prod.mk.injEq] at ch111
                          obtain ⟨rfl, rfl⟩ := ch111
                          obtain ⟨cv116, cv117, cv118, ch119, ch108⟩ := zk_o3 ch108
                          have ch119 : f_X0_settles (grp_grp140 6) (1 : Int32) x3 ((0 : Int32) + (1 : Int32)) (1 : Int32) x1 (S_askedCount x1.toNatClampNeg) (upd acts_bodies (0 : Int32).toNatClampNeg (2 : Int32)) = some (cv116, cv117, cv118) := ch119
                          unfold f_X0_settles at ch119
                          unfold B_X0_settles_0 at ch119
                          have ch119 := zk_t rfl ch119
                          obtain ⟨cv120, cv121, ch122, ch119⟩ := zk_o2 ch119
                          unfold f_X0_note at ch122
                          unfold B_X0_note_0 at ch122
                          have ch122 := zk_f (by decide) ch122
                          obtain ⟨_, ch122⟩ := zk_gd ch122
                          obtain ⟨cv123, ce124, ch122⟩ := zk_lt ch122
                          subst ce124
                          unfold B_X0_note_19 at ch122
                          obtain ⟨cv125, ce126, ch122⟩ := zk_lt ch122
                          subst ce126
                          simp only [Option.some.injEq, Prod.mk.injEq] at ch122
                          obtain ⟨rfl, rfl⟩ := ch122
                          obtain ⟨cv127, cv128, ch129, ch119⟩ := zk_o2 ch119
                          unfold f_X0_above at ch129
                          unfold B_X0_above_0 at ch129
                          have ch129 := zk_f (by decide) ch129
                          have ch129 := zk_f (by decide) ch129
                          have ch129 := zk_f (by decide) ch129
                          simp only [Option.some.injEq, Prod.mk.injEq] at ch129
                          obtain ⟨rfl, _⟩ := ch129
                          obtain ⟨cv130, cv131, cv132, ch133, ch119⟩ := zk_o3 ch119
                          have ch133 : f_X0_settles (grp_grp140 5) (0 : Int32) x3 (((0 : Int32) + (1 : Int32)) + (1 : Int32)) (1 : Int32) x1 (S_askedCount x1.toNatClampNeg) (upd (upd acts_bodies (0 : Int32).toNatClampNeg (2 : Int32)) ((0 : Int32) + (1 : Int32)).toNatClampNeg (20 : Int32)) = some (cv130, cv131, cv132) := ch133
                          unfold f_X0_settles at ch133
                          unfold B_X0_settles_0 at ch133
                          have ch133 := zk_f (by decide) ch133
                          have ch133 := zk_f (by decide) ch133
                          have ch133 := zk_f (by decide) ch133
                          have ch133 := zk_f (by decide) ch133
                          have ch133 := zk_f (by decide) ch133
                          have ch133 := zk_f (by decide) ch133
                          obtain ⟨cv134, cv135, ch136, ch133⟩ := zk_o2 ch133
                          unfold f_X0_note at ch136
                          unfold B_X0_note_0 at ch136
                          have ch136 := zk_f (by decide) ch136
                          obtain ⟨_, ch136⟩ := zk_gd ch136
                          obtain ⟨cv137, ce138, ch136⟩ := zk_lt ch136
                          subst ce138
                          unfold B_X0_note_19 at ch136
                          obtain ⟨cv139, ce140, ch136⟩ := zk_lt ch136
                          subst ce140
                          simp only [Option.some.injEq, Prod.mk.injEq] at ch136
                          obtain ⟨rfl, rfl⟩ := ch136
                          obtain ⟨cv141, cv142, cv143, ch144, ch133⟩ := zk_o3 ch133
                          have ch144 : f_X0_closes (grp_grp138 6) (1 : Int32) x3 ((((0 : Int32) + (1 : Int32)) + (1 : Int32)) + (1 : Int32)) (1 : Int32) x1 (S_askedCount x1.toNatClampNeg) (upd (upd (upd acts_bodies (0 : Int32).toNatClampNeg (2 : Int32)) ((0 : Int32) + (1 : Int32)).toNatClampNeg (20 : Int32)) (((0 : Int32) + (1 : Int32)) + (1 : Int32)).toNatClampNeg (10 : Int32)) = some (cv141, cv142, cv143) := ch144
                          unfold f_X0_closes at ch144
                          unfold B_X0_closes_0 at ch144
                          have ch144 := zk_t rfl ch144
                          obtain ⟨cv145, cv146, ch147, ch144⟩ := zk_o2 ch144
                          unfold f_X0_above at ch147
                          unfold B_X0_above_0 at ch147
                          have ch147 := zk_f (by decide) ch147
                          have ch147 := zk_f (by decide) ch147
                          have ch147 := zk_f (by decide) ch147
                          simp only [Option.some.injEq, Prod.mk.injEq] at ch147
                          obtain ⟨rfl, _⟩ := ch147
                          obtain ⟨cv148, cv149, cv150, ch151, ch144⟩ := zk_o3 ch144
                          have ch151 : f_X0_closes (grp_grp138 5) (0 : Int32) x3 ((((0 : Int32) + (1 : Int32)) + (1 : Int32)) + (1 : Int32)) (1 : Int32) x1 (S_askedCount x1.toNatClampNeg) (upd (upd (upd acts_bodies (0 : Int32).toNatClampNeg (2 : Int32)) ((0 : Int32) + (1 : Int32)).toNatClampNeg (20 : Int32)) (((0 : Int32) + (1 : Int32)) + (1 : Int32)).toNatClampNeg (10 : Int32)) = some (cv148, cv149, cv150) := ch151
                          unfold f_X0_closes at ch151
                          unfold B_X0_closes_0 at ch151
                          have ch151 := zk_f (by decide) ch151
                          have ch151 := zk_f (by decide) ch151
                          have ch151 := zk_f (by decide) ch151
                          have ch151 := zk_f (by decide) ch151
                          have ch151 := zk_f (by decide) ch151
                          have ch151 := zk_f (by decide) ch151
                          obtain ⟨cv152, cv153, ch154, ch151⟩ := zk_o2 ch151
                          unfold f_X0_note at ch154
                          unfold B_X0_note_0 at ch154
                          have ch154 := zk_f (by decide) ch154
                          obtain ⟨_, ch154⟩ := zk_gd ch154
                          obtain ⟨cv155, ce156, ch154⟩ := zk_lt ch154
                          subst ce156
                          unfold B_X0_note_19 at ch154
                          obtain ⟨cv157, ce158, ch154⟩ := zk_lt ch154
                          subst ce158
                          simp only [Option.some.injEq, Prod.mk.injEq] at ch154
                          obtain ⟨rfl, rfl⟩ := ch154
                          simp only [Option.some.injEq, Prod.mk.injEq] at ch151
                          obtain ⟨rfl, rfl, rfl⟩ := ch151
                          simp only [Option.some.injEq, Prod.mk.injEq] at ch144
                          obtain ⟨rfl, rfl, rfl⟩ := ch144
                          simp only [Option.some.injEq, Prod.mk.injEq] at ch133
                          obtain ⟨rfl, rfl, rfl⟩ := ch133
                          simp only [Option.some.injEq, Prod.mk.injEq] at ch119
                          obtain ⟨rfl, rfl, rfl⟩ := ch119
                          obtain ⟨cv159, cv160, cv161, ch162, ch108⟩ := zk_o3 ch108
                          have ch162 : f_X0_binds (grp_grp139 6) (1 : Int32) (1 : Int32) (((((0 : Int32) + (1 : Int32)) + (1 : Int32)) + (1 : Int32)) + (1 : Int32)) (1 : Int32) x1 (S_askedCount x1.toNatClampNeg) (upd (upd (upd (upd acts_bodies (0 : Int32).toNatClampNeg (2 : Int32)) ((0 : Int32) + (1 : Int32)).toNatClampNeg (20 : Int32)) (((0 : Int32) + (1 : Int32)) + (1 : Int32)).toNatClampNeg (10 : Int32)) ((((0 : Int32) + (1 : Int32)) + (1 : Int32)) + (1 : Int32)).toNatClampNeg (1 : Int32)) = some (cv159, cv160, cv161) := ch162
                          unfold f_X0_binds at ch162
                          unfold B_X0_binds_0 at ch162
                          have ch162 := zk_f (by decide) ch162
                          have ch162 := zk_f (by decide) ch162
                          obtain ⟨cv163, cv164, ch165, ch162⟩ := zk_o2 ch162
                          unfold f_X0_above at ch165
                          unfold B_X0_above_0 at ch165
                          have ch165 := zk_f (by decide) ch165
                          have ch165 := zk_f (by decide) ch165
                          have ch165 := zk_f (by decide) ch165
                          simp only [Option.some.injEq, Prod.mk.injEq] at ch165
                          obtain ⟨rfl, _⟩ := ch165
                          obtain ⟨cv166, cv167, cv168, ch169, ch162⟩ := zk_o3 ch162
                          have ch169 : f_X0_binds (grp_grp139 5) (0 : Int32) (1 : Int32) (((((0 : Int32) + (1 : Int32)) + (1 : Int32)) + (1 : Int32)) + (1 : Int32)) (1 : Int32) x1 (S_askedCount x1.toNatClampNeg) (upd (upd (upd (upd acts_bodies (0 : Int32).toNatClampNeg (2 : Int32)) ((0 : Int32) + (1 : Int32)).toNatClampNeg (20 : Int32)) (((0 : Int32) + (1 : Int32)) + (1 : Int32)).toNatClampNeg (10 : Int32)) ((((0 : Int32) + (1 : Int32)) + (1 : Int32)) + (1 : Int32)).toNatClampNeg (1 : Int32)) = some (cv166, cv167, cv168) := ch169
                          unfold f_X0_binds at ch169
                          unfold B_X0_binds_0 at ch169
                          have ch169 := zk_f (by decide) ch169
                          have ch169 := zk_t (Int32.le_refl _) ch169
                          obtain ⟨cv170, cv171, ch172, ch169⟩ := zk_o2 ch169
                          unfold f_X0_note at ch172
                          unfold B_X0_note_0 at ch172
                          have ch172 := zk_f (by decide) ch172
                          obtain ⟨_, ch172⟩ := zk_gd ch172
                          obtain ⟨cv173, ce174, ch172⟩ := zk_lt ch172
                          subst ce174
                          unfold B_X0_note_19 at ch172
                          obtain ⟨cv175, ce176, ch172⟩ := zk_lt ch172
                          subst ce176
                          simp only [Option.some.injEq, Prod.mk.injEq] at ch172
                          obtain ⟨rfl, rfl⟩ := ch172
                          simp only [Option.some.injEq, Prod.mk.injEq] at ch169
                          obtain ⟨rfl, rfl, rfl⟩ := ch169
                          simp only [Option.some.injEq, Prod.mk.injEq] at ch162
                          obtain ⟨rfl, rfl, rfl⟩ := ch162
                          simp only [Option.some.injEq, Prod.mk.injEq] at ch108
                          obtain ⟨rfl, rfl, rfl⟩ := ch108
                          simp only [Option.some.injEq, Prod.mk.injEq] at ch101
                          obtain ⟨rfl, rfl, rfl⟩ := ch101
                          have hi : x1.toNatClampNeg < court_suitCount.toInt.toNat := by rw [tcn]; omega
                          have ea : mod_askedMany x1.toNatClampNeg = S_askedCount x1.toNatClampNeg := (hA _ hi).symm
                          unfold B_X12_act_0 at k
                          replace k := zk_o2 k
                          obtain ⟨mv130, mv131, mh132, k⟩ := k
                          unfold f_X12_isSuit at mh132
                          unfold B_X12_isSuit_0 at mh132
                          obtain ⟨mv133, mv134, mh135, mh132⟩ := zk_o2 mh132
                          unfold f_X12_in at mh135
                          unfold B_X12_in_0 at mh135
                          have mh135 := zk_f cc4 mh135
                          have mh135 := zk_f (by (try simp only [i32_lt, i32_le, i32_e, z32_0, z32_1]); omega) mh135
                          simp only [Option.some.injEq, Prod.mk.injEq] at mh135
                          obtain ⟨rfl, _⟩ := mh135
                          obtain ⟨_, mh132⟩ := zk_gd mh132
                          simp only [Option.some.injEq, Prod.mk.injEq] at mh132
                          obtain ⟨rfl, _⟩ := mh132
                          replace k := zk_f (by decide) k
                          replace k := zk_o2 k
                          obtain ⟨mv136, mv137, mh138, k⟩ := k
                          unfold f_X12_in at mh138
                          unfold B_X12_in_0 at mh138
                          have mh138 := zk_f (by (try simp only [i32_lt, i32_le, i32_e, z32_0, z32_1]); omega) mh138
                          have mh138 := zk_f (by (try simp only [i32_lt, i32_le, i32_e, z32_0, z32_1, z32L_3]); omega) mh138
                          simp only [Option.some.injEq, Prod.mk.injEq] at mh138
                          obtain ⟨rfl, _⟩ := mh138
                          replace k := zk_f (by decide) k
                          replace k := zk_f cc15 k
                          replace k := zk_f cc34 k
                          replace k := zk_f cc78 k
                          replace k := zk_o3 k
                          obtain ⟨mv139, mv140, mv141, mh142, k⟩ := k
                          unfold f_X12_tells at mh142
                          unfold B_X12_tells_0 at mh142
                          obtain ⟨mv143, mv144, mh145, mh142⟩ := zk_o2 mh142
                          obtain mq146 := bk12_e (hB12 hi) mh145
                          replace mq146 := mq146.symm
                          subst mq146
                          have mh142 := zk_f (by decide) mh142
                          obtain ⟨mv147, mv148, mv149, mh150, mh142⟩ := zk_o3 mh142
                          unfold f_X12_plainTells at mh150
                          unfold B_X12_plainTells_0 at mh150
                          obtain ⟨mv151, mv152, mh153, mh150⟩ := zk_o2 mh150
                          unfold f_X12_ran at mh153
                          unfold B_X12_ran_0 at mh153
                          have mh153 := zk_f (by decide) mh153
                          obtain ⟨_, mh153⟩ := zk_gd mh153
                          obtain ⟨mv154, me155, mh153⟩ := zk_lt mh153
                          subst me155
                          unfold B_X12_ran_19 at mh153
                          obtain ⟨mv156, me157, mh153⟩ := zk_lt mh153
                          subst me157
                          simp only [Option.some.injEq, Prod.mk.injEq] at mh153
                          obtain ⟨rfl, rfl⟩ := mh153
                          obtain ⟨mv158, mv159, mv160, mh161, mh150⟩ := zk_o3 mh150
                          unfold f_X12_settles at mh161
                          unfold B_X12_settles_0 at mh161
                          obtain ⟨mv162, mv163, mh164, mh161⟩ := zk_o2 mh161
                          obtain mq165 := bk12_e (hB12 hi) mh164
                          replace mq165 := mq165.symm
                          subst mq165
                          have mh161 := zk_f (by decide) mh161
                          have mh161 := zk_f (by decide) mh161
                          have mh161 := zk_t rfl mh161
                          obtain ⟨mv166, mv167, mv168, mh169, mh161⟩ := zk_o3 mh161
                          unfold f_X12_meritsSettles at mh169
                          unfold B_X12_meritsSettles_0 at mh169
                          rw [ea] at mh169
                          obtain ⟨mv170, mv171, mh172, mh169⟩ := zk_o2 mh169
                          unfold f_X12_ran at mh172
                          unfold B_X12_ran_0 at mh172
                          have mh172 := zk_f (by decide) mh172
                          obtain ⟨_, mh172⟩ := zk_gd mh172
                          obtain ⟨mv173, me174, mh172⟩ := zk_lt mh172
                          subst me174
                          unfold B_X12_ran_19 at mh172
                          obtain ⟨mv175, me176, mh172⟩ := zk_lt mh172
                          subst me176
                          simp only [Option.some.injEq, Prod.mk.injEq] at mh172
                          obtain ⟨rfl, rfl⟩ := mh172
                          obtain ⟨mv177, mv178, mv179, mh180, mh169⟩ := zk_o3 mh169
                          unfold f_X12_plainSettles at mh180
                          unfold B_X12_plainSettles_0 at mh180
                          obtain ⟨mv181, mv182, mh183, mh180⟩ := zk_o2 mh180
                          unfold f_X12_ran at mh183
                          unfold B_X12_ran_0 at mh183
                          have mh183 := zk_f (by decide) mh183
                          obtain ⟨_, mh183⟩ := zk_gd mh183
                          obtain ⟨mv184, me185, mh183⟩ := zk_lt mh183
                          subst me185
                          unfold B_X12_ran_19 at mh183
                          obtain ⟨mv186, me187, mh183⟩ := zk_lt mh183
                          subst me187
                          simp only [Option.some.injEq, Prod.mk.injEq] at mh183
                          obtain ⟨rfl, rfl⟩ := mh183
                          obtain ⟨mv188, mv189, mv190, mh191, mh180⟩ := zk_o3 mh180
                          unfold f_X12_closes at mh191
                          unfold B_X12_closes_0 at mh191
                          rw [ea] at mh191
                          obtain ⟨mv192, mv193, mh194, mh191⟩ := zk_o2 mh191
                          obtain mq195 := bk12_e (hB12 hi) mh194
                          replace mq195 := mq195.symm
                          subst mq195
                          have mh191 := zk_f (by decide) mh191
                          have mh191 := zk_f (by decide) mh191
                          have mh191 := zk_f (by decide) mh191
                          have mh191 := zk_f (by decide) mh191
                          obtain ⟨mv196, mv197, mv198, mh199, mh191⟩ := zk_o3 mh191
                          unfold f_X12_plainCloses at mh199
                          unfold B_X12_plainCloses_0 at mh199
                          obtain ⟨mv200, mv201, mh202, mh199⟩ := zk_o2 mh199
                          unfold f_X12_ran at mh202
                          unfold B_X12_ran_0 at mh202
                          have mh202 := zk_f (by decide) mh202
                          obtain ⟨_, mh202⟩ := zk_gd mh202
                          obtain ⟨mv203, me204, mh202⟩ := zk_lt mh202
                          subst me204
                          unfold B_X12_ran_19 at mh202
                          obtain ⟨mv205, me206, mh202⟩ := zk_lt mh202
                          subst me206
                          simp only [Option.some.injEq, Prod.mk.injEq] at mh202
                          obtain ⟨rfl, rfl⟩ := mh202
                          simp only [Option.some.injEq, Prod.mk.injEq] at mh199
                          obtain ⟨rfl, rfl, rfl⟩ := mh199
                          simp only [Option.some.injEq, Prod.mk.injEq] at mh191
                          obtain ⟨rfl, rfl, rfl⟩ := mh191
                          simp only [Option.some.injEq, Prod.mk.injEq] at mh180
                          obtain ⟨rfl, rfl, rfl⟩ := mh180
                          obtain ⟨_, mh169⟩ := zk_gd mh169
                          simp only [Option.some.injEq, Prod.mk.injEq] at mh169
                          obtain ⟨rfl, rfl, rfl⟩ := mh169
                          simp only [Option.some.injEq, Prod.mk.injEq] at mh161
                          obtain ⟨rfl, rfl, rfl⟩ := mh161
                          obtain ⟨mv207, mv208, mv209, mh210, mh150⟩ := zk_o3 mh150
                          unfold f_X12_binds at mh210
                          unfold B_X12_binds_0 at mh210
                          obtain ⟨mv211, mv212, mh213, mh210⟩ := zk_o2 mh210
                          obtain mq214 := bk12_e (hB12 hi) mh213
                          replace mq214 := mq214.symm
                          subst mq214
                          obtain ⟨mv215, mv216, mh217, mh210⟩ := zk_o2 mh210
                          unfold f_X12_isUnder at mh217
                          unfold B_X12_isUnder_0 at mh217
                          have mh217 := zk_f (by decide) mh217
                          have mh217 := zk_f (by decide) mh217
                          have mh217 := zk_f (by decide) mh217
                          unfold B_X12_isUnder_19 at mh217
                          have mh217 := zk_t rfl mh217
                          have mh217 := zk_f (by decide) mh217
                          unfold B_X12_isUnder_29 at mh217
                          have mh217 := zk_f (by decide) mh217
                          simp only [Option.some.injEq, Prod.mk.injEq] at mh217
                          obtain ⟨rfl, _⟩ := mh217
                          have mh210 := zk_t rfl mh210
                          obtain ⟨mv218, mv219, mv220, mh221, mh210⟩ := zk_o3 mh210
                          unfold f_X12_plainBinds at mh221
                          unfold B_X12_plainBinds_0 at mh221
                          obtain ⟨mv222, mv223, mh224, mh221⟩ := zk_o2 mh221
                          unfold f_X12_ran at mh224
                          unfold B_X12_ran_0 at mh224
                          have mh224 := zk_f (by decide) mh224
                          obtain ⟨_, mh224⟩ := zk_gd mh224
                          obtain ⟨mv225, me226, mh224⟩ := zk_lt mh224
                          subst me226
                          unfold B_X12_ran_19 at mh224
                          obtain ⟨mv227, me228, mh224⟩ := zk_lt mh224
                          subst me228
                          simp only [Option.some.injEq, Prod.mk.injEq] at mh224
                          obtain ⟨rfl, rfl⟩ := mh224
                          simp only [Option.some.injEq, Prod.mk.injEq] at mh221
                          obtain ⟨rfl, rfl, rfl⟩ := mh221
                          simp only [Option.some.injEq, Prod.mk.injEq] at mh210
                          obtain ⟨rfl, rfl, rfl⟩ := mh210
                          simp only [Option.some.injEq, Prod.mk.injEq] at mh150
                          obtain ⟨rfl, rfl, rfl⟩ := mh150
                          simp only [Option.some.injEq, Prod.mk.injEq] at mh142
                          obtain ⟨rfl, rfl, rfl⟩ := mh142
                          replace h := Option.some.inj h
                          replace k := Option.some.inj k
                          subst h
                          subst k
                          try dsimp only
                          all_goals first
                          | (exfalso; omega)
                          | exact ⟨rfl, rfl, fun e => by first | exact e | rw [e]⟩
                          | exact ⟨rfl, rfl, fun e => by rw [e]; rfl⟩
                      · replace h := zk_f cc97 h
                        have cc97n := cc97
                        (try simp only [i32_lt, i32_le, i32_e, z32_0, z32_1, z32L_3] at cc97n)
                        first
                        | (exfalso; omega)
                        | have hi : x1.toNatClampNeg < court_suitCount.toInt.toNat := by rw [tcn]; omega
                          have ea : mod_askedMany x1.toNatClampNeg = S_askedCount x1.toNatClampNeg := (hA _ hi).symm
                          unfold B_X12_act_0 at k
                          replace k := zk_o2 k
                          obtain ⟨mv229, mv230, mh231, k⟩ := k
                          unfold f_X12_isSuit at mh231
                          unfold B_X12_isSuit_0 at mh231
                          obtain ⟨mv232, mv233, mh234, mh231⟩ := zk_o2 mh231
                          unfold f_X12_in at mh234
                          unfold B_X12_in_0 at mh234
                          have mh234 := zk_f cc4 mh234
                          have mh234 := zk_f (by (try simp only [i32_lt, i32_le, i32_e, z32_0, z32_1]); omega) mh234
                          simp only [Option.some.injEq, Prod.mk.injEq] at mh234
                          obtain ⟨rfl, _⟩ := mh234
                          obtain ⟨_, mh231⟩ := zk_gd mh231
                          simp only [Option.some.injEq, Prod.mk.injEq] at mh231
                          obtain ⟨rfl, _⟩ := mh231
                          replace k := zk_f (by decide) k
                          replace k := zk_o2 k
                          obtain ⟨mv235, mv236, mh237, k⟩ := k
                          unfold f_X12_in at mh237
                          unfold B_X12_in_0 at mh237
                          by_cases mc238 : x2 < (0 : Int32)
                          · have mh237 := zk_t mc238 mh237
                            have mc238n := mc238
                            (try simp only [i32_lt, i32_le, i32_e, z32_0, z32_1] at mc238n)
                            first
                            | (exfalso; omega)
                            | simp only [Option.some.injEq, Prod.mk.injEq] at mh237
                              obtain ⟨rfl, _⟩ := mh237
                              replace k := zk_t rfl k
                              replace h := Option.some.inj h
                              replace k := Option.some.inj k
                              subst h
                              subst k
                              try dsimp only
                              all_goals first
                              | (exfalso; omega)
                              | exact ⟨rfl, rfl, fun e => by first | exact e | rw [e]⟩
                              | exact ⟨rfl, rfl, fun e => by rw [e]; rfl⟩
                          · have mh237 := zk_f mc238 mh237
                            have mc238n := mc238
                            (try simp only [i32_lt, i32_le, i32_e, z32_0, z32_1] at mc238n)
                            first
                            | (exfalso; omega)
                            | by_cases mc239 : (3 : Int32) < x2
                              · have mh237 := zk_t mc239 mh237
                                have mc239n := mc239
                                (try simp only [i32_lt, i32_le, i32_e, z32_0, z32_1, z32L_3] at mc239n)
                                first
                                | (exfalso; omega)
                                | simp only [Option.some.injEq, Prod.mk.injEq] at mh237
                                  obtain ⟨rfl, _⟩ := mh237
                                  replace k := zk_t rfl k
                                  replace h := Option.some.inj h
                                  replace k := Option.some.inj k
                                  subst h
                                  subst k
                                  try dsimp only
                                  all_goals first
                                  | (exfalso; omega)
                                  | exact ⟨rfl, rfl, fun e => by first | exact e | rw [e]⟩
                                  | exact ⟨rfl, rfl, fun e => by rw [e]; rfl⟩
                              · have mh237 := zk_f mc239 mh237
                                have mc239n := mc239
                                (try simp only [i32_lt, i32_le, i32_e, z32_0, z32_1, z32L_3] at mc239n)
                                first
                                | (exfalso; omega)
                                | simp only [Option.some.injEq, Prod.mk.injEq] at mh237
                                  obtain ⟨rfl, _⟩ := mh237
                                  replace k := zk_f (by decide) k
                                  replace k := zk_f cc15 k
                                  replace k := zk_f cc34 k
                                  replace k := zk_f cc78 k
                                  replace k := zk_o3 k
                                  obtain ⟨mv240, mv241, mv242, mh243, k⟩ := k
                                  unfold f_X12_tells at mh243
                                  unfold B_X12_tells_0 at mh243
                                  obtain ⟨mv244, mv245, mh246, mh243⟩ := zk_o2 mh243
                                  obtain mq247 := bk12_e (hB12 hi) mh246
                                  replace mq247 := mq247.symm
                                  subst mq247
                                  have mh243 := zk_f (by decide) mh243
                                  obtain ⟨mv248, mv249, mv250, mh251, mh243⟩ := zk_o3 mh243
                                  unfold f_X12_plainTells at mh251
                                  unfold B_X12_plainTells_0 at mh251
                                  obtain ⟨mv252, mv253, mh254, mh251⟩ := zk_o2 mh251
                                  unfold f_X12_ran at mh254
                                  unfold B_X12_ran_0 at mh254
                                  have mh254 := zk_f (by decide) mh254
                                  obtain ⟨_, mh254⟩ := zk_gd mh254
                                  obtain ⟨mv255, me256, mh254⟩ := zk_lt mh254
                                  subst me256
                                  unfold B_X12_ran_19 at mh254
                                  obtain ⟨mv257, me258, mh254⟩ := zk_lt mh254
                                  subst me258
                                  simp only [Option.some.injEq, Prod.mk.injEq] at mh254
                                  obtain ⟨rfl, rfl⟩ := mh254
                                  obtain ⟨mv259, mv260, mv261, mh262, mh251⟩ := zk_o3 mh251
                                  unfold f_X12_settles at mh262
                                  unfold B_X12_settles_0 at mh262
                                  obtain ⟨mv263, mv264, mh265, mh262⟩ := zk_o2 mh262
                                  obtain mq266 := bk12_e (hB12 hi) mh265
                                  replace mq266 := mq266.symm
                                  subst mq266
                                  have mh262 := zk_f (by decide) mh262
                                  have mh262 := zk_f (by decide) mh262
                                  have mh262 := zk_t rfl mh262
                                  obtain ⟨mv267, mv268, mv269, mh270, mh262⟩ := zk_o3 mh262
                                  unfold f_X12_meritsSettles at mh270
                                  unfold B_X12_meritsSettles_0 at mh270
                                  rw [ea] at mh270
                                  obtain ⟨mv271, mv272, mh273, mh270⟩ := zk_o2 mh270
                                  unfold f_X12_ran at mh273
                                  unfold B_X12_ran_0 at mh273
                                  have mh273 := zk_f (by decide) mh273
                                  obtain ⟨_, mh273⟩ := zk_gd mh273
                                  obtain ⟨mv274, me275, mh273⟩ := zk_lt mh273
                                  subst me275
                                  unfold B_X12_ran_19 at mh273
                                  obtain ⟨mv276, me277, mh273⟩ := zk_lt mh273
                                  subst me277
                                  simp only [Option.some.injEq, Prod.mk.injEq] at mh273
                                  obtain ⟨rfl, rfl⟩ := mh273
                                  obtain ⟨mv278, mv279, mv280, mh281, mh270⟩ := zk_o3 mh270
                                  unfold f_X12_plainSettles at mh281
                                  unfold B_X12_plainSettles_0 at mh281
                                  obtain ⟨mv282, mv283, mh284, mh281⟩ := zk_o2 mh281
                                  unfold f_X12_ran at mh284
                                  unfold B_X12_ran_0 at mh284
                                  have mh284 := zk_f (by decide) mh284
                                  obtain ⟨_, mh284⟩ := zk_gd mh284
                                  obtain ⟨mv285, me286, mh284⟩ := zk_lt mh284
                                  subst me286
                                  unfold B_X12_ran_19 at mh284
                                  obtain ⟨mv287, me288, mh284⟩ := zk_lt mh284
                                  subst me288
                                  simp only [Option.some.injEq, Prod.mk.injEq] at mh284
                                  obtain ⟨rfl, rfl⟩ := mh284
                                  obtain ⟨mv289, mv290, mv291, mh292, mh281⟩ := zk_o3 mh281
                                  unfold f_X12_closes at mh292
                                  unfold B_X12_closes_0 at mh292
                                  rw [ea] at mh292
                                  obtain ⟨mv293, mv294, mh295, mh292⟩ := zk_o2 mh292
                                  obtain mq296 := bk12_e (hB12 hi) mh295
                                  replace mq296 := mq296.symm
                                  subst mq296
                                  have mh292 := zk_f (by decide) mh292
                                  have mh292 := zk_f (by decide) mh292
                                  have mh292 := zk_f (by decide) mh292
                                  have mh292 := zk_f (by decide) mh292
                                  obtain ⟨mv297, mv298, mv299, mh300, mh292⟩ := zk_o3 mh292
                                  unfold f_X12_plainCloses at mh300
                                  unfold B_X12_plainCloses_0 at mh300
                                  obtain ⟨mv301, mv302, mh303, mh300⟩ := zk_o2 mh300
                                  unfold f_X12_ran at mh303
                                  unfold B_X12_ran_0 at mh303
                                  have mh303 := zk_f (by decide) mh303
                                  obtain ⟨_, mh303⟩ := zk_gd mh303
                                  obtain ⟨mv304, me305, mh303⟩ := zk_lt mh303
                                  subst me305
                                  unfold B_X12_ran_19 at mh303
                                  obtain ⟨mv306, me307, mh303⟩ := zk_lt mh303
                                  subst me307
                                  simp only [Option.some.injEq, Prod.mk.injEq] at mh303
                                  obtain ⟨rfl, rfl⟩ := mh303
                                  simp only [Option.some.injEq, Prod.mk.injEq] at mh300
                                  obtain ⟨rfl, rfl, rfl⟩ := mh300
                                  simp only [Option.some.injEq, Prod.mk.injEq] at mh292
                                  obtain ⟨rfl, rfl, rfl⟩ := mh292
                                  simp only [Option.some.injEq, Prod.mk.injEq] at mh281
                                  obtain ⟨rfl, rfl, rfl⟩ := mh281
                                  obtain ⟨_, mh270⟩ := zk_gd mh270
                                  simp only [Option.some.injEq, Prod.mk.injEq] at mh270
                                  obtain ⟨rfl, rfl, rfl⟩ := mh270
                                  simp only [Option.some.injEq, Prod.mk.injEq] at mh262
                                  obtain ⟨rfl, rfl, rfl⟩ := mh262
                                  obtain ⟨mv308, mv309, mv310, mh311, mh251⟩ := zk_o3 mh251
                                  unfold f_X12_binds at mh311
                                  unfold B_X12_binds_0 at mh311
                                  obtain ⟨mv312, mv313, mh314, mh311⟩ := zk_o2 mh311
                                  obtain mq315 := bk12_e (hB12 hi) mh314
                                  replace mq315 := mq315.symm
                                  subst mq315
                                  obtain ⟨mv316, mv317, mh318, mh311⟩ := zk_o2 mh311
                                  unfold f_X12_isUnder at mh318
                                  unfold B_X12_isUnder_0 at mh318
                                  have mh318 := zk_f (by decide) mh318
                                  have mh318 := zk_f (by decide) mh318
                                  have mh318 := zk_f (by decide) mh318
                                  unfold B_X12_isUnder_19 at mh318
                                  have mh318 := zk_t rfl mh318
                                  have mh318 := zk_f (by decide) mh318
                                  unfold B_X12_isUnder_29 at mh318
                                  have mh318 := zk_f (by decide) mh318
                                  simp only [Option.some.injEq, Prod.mk.injEq] at mh318
                                  obtain ⟨rfl, _⟩ := mh318
                                  have mh311 := zk_t rfl mh311
                                  obtain ⟨mv319, mv320, mv321, mh322, mh311⟩ := zk_o3 mh311
                                  unfold f_X12_plainBinds at mh322
                                  unfold B_X12_plainBinds_0 at mh322
                                  obtain ⟨mv323, mv324, mh325, mh322⟩ := zk_o2 mh322
                                  unfold f_X12_ran at mh325
                                  unfold B_X12_ran_0 at mh325
                                  have mh325 := zk_f (by decide) mh325
                                  obtain ⟨_, mh325⟩ := zk_gd mh325
                                  obtain ⟨mv326, me327, mh325⟩ := zk_lt mh325
                                  subst me327
                                  unfold B_X12_ran_19 at mh325
                                  obtain ⟨mv328, me329, mh325⟩ := zk_lt mh325
                                  subst me329
                                  simp only [Option.some.injEq, Prod.mk.injEq] at mh325
                                  obtain ⟨rfl, rfl⟩ := mh325
                                  simp only [Option.some.injEq, Prod.mk.injEq] at mh322
                                  obtain ⟨rfl, rfl, rfl⟩ := mh322
                                  simp only [Option.some.injEq, Prod.mk.injEq] at mh311
                                  obtain ⟨rfl, rfl, rfl⟩ := mh311
                                  simp only [Option.some.injEq, Prod.mk.injEq] at mh251
                                  obtain ⟨rfl, rfl, rfl⟩ := mh251
                                  simp only [Option.some.injEq, Prod.mk.injEq] at mh243
                                  obtain ⟨rfl, rfl, rfl⟩ := mh243
                                  replace h := Option.some.inj h
                                  replace k := Option.some.inj k
                                  subst h
                                  subst k
                                  try dsimp only
                                  all_goals first
                                  | (exfalso; omega)
                                  | exact ⟨rfl, rfl, fun e => by first | exact e | rw [e]⟩
                                  | exact ⟨rfl, rfl, fun e => by rw [e]; rfl⟩

set_option maxHeartbeats 4000000 in
set_option maxRecDepth 20000 in
theorem pw_act2 {mod_code : Int32} {court_shoeCount : Int32} {mod_claims : Int32} {ts : Int32} {at_ : Int32} {f : Int32} {court_suitCount : Int32} {mod_doneMany : Int32} {mod_undoneMany : Int32} {mod_open : Int32} {mod_laid : Int32} {mod_isBoth : Int32} {mod_wished : Int32} {mod_bestMany : Int32} {mod_bestRow : Int32} {mod_ringDigits : Int32} {mod_traces : Int32} {mod_askedMany : Nat → Int32} {mod_endKind : Nat → Int32} {mod_undoneFrom : Nat → Int32} {mod_traced : Nat → Int32} {court_claimCount : Int32} {court_suits : Nat → Option Nat} {S_who : Nat → Int32} {S_against : Nat → Int32} {S_kind : Nat → Int32} {S_won : Nat → Int32} {S_day : Nat → Int32} {S_land : Nat → Int32} {S_undoneFrom : Nat → Int32} {S_asked : Nat → Nat → Int32} {S_askedCount : Nat → Int32} {S_askedBits : Nat → Int32} {S_first : Nat → Int32} {S_foundSo : Nat → Int32} {S_foundNot : Nat → Int32} {S_fought : Nat → Int32} {S_needed : Nat → Int32} {acts_ran : Int32} {acts_kind : Int32} {acts_number : Int32} {acts_claims : Int32} {acts_bodies : Nat → Int32} {x1 x2 x3 : Int32} {R : Int32 × Int32 × Int32 × Int32 × Int32 × (Nat → Int32)} {Q : Int32 × Int32 × (Nat → Int32)} (hn : 0 ≤ court_suitCount.toInt ∧ court_suitCount.toInt ≤ 40) (hA : WU court_suitCount S_askedCount mod_askedMany) (hB8 : ((S_undoneFrom x1.toNatClampNeg).toInt < 0 ∧ S_kind x1.toNatClampNeg = (2 : Int32)) ∨ (0 ≤ (S_undoneFrom x1.toNatClampNeg).toInt ∧ (2 : Int32) = 5)) (hB12 : x1.toNatClampNeg < court_suitCount.toInt.toNat → ((mod_undoneFrom x1.toNatClampNeg).toInt < 0 ∧ mod_endKind x1.toNatClampNeg = (2 : Int32)) ∨ (0 ≤ (mod_undoneFrom x1.toNatClampNeg).toInt ∧ (2 : Int32) = 5)) (h : f_X11_act x1 x2 x3 court_shoeCount court_claimCount court_suitCount court_suits acts_ran acts_kind acts_number acts_claims acts_bodies S_who S_against S_kind S_won S_day S_land S_undoneFrom S_asked S_askedCount S_askedBits S_first S_foundSo S_foundNot S_fought S_needed = some R) (k : f_X12_act x1 x2 x3 mod_code court_shoeCount mod_claims ts at_ f court_suitCount mod_doneMany mod_undoneMany mod_open mod_laid mod_isBoth mod_wished mod_bestMany mod_bestRow mod_ringDigits mod_traces mod_endKind mod_undoneFrom mod_askedMany mod_traced = some Q) : R.1 = Q.1 ∧ R.2.1 = Q.2.1 ∧ (acts_bodies = mod_traced → R.2.2.2.2.2 = Q.2.2) := by
  have hn1 := i32_m1 (a := court_suitCount) (by omega)
  unfold f_X11_act at h
  unfold f_X12_act at k
  unfold B_X11_act_0 at h
  replace h := zk_o2 h
  obtain ⟨cv1, cv2, ch3, h⟩ := h
  unfold f_X2_suitAt at ch3
  unfold B_X2_suitAt_0 at ch3
  by_cases cc4 : x1 < 0
  · have ch3 := zk_t cc4 ch3
    have cc4n := cc4
    (try simp only [i32_lt, i32_le, i32_e, z32_0, z32_1] at cc4n)
    first
    | (exfalso; omega)
    | simp only [Option.some.injEq, Prod.mk.injEq] at ch3
      obtain ⟨rfl, _⟩ := ch3
      replace h := zk_t (by decide) h
      unfold B_X12_act_0 at k
      replace k := zk_o2 k
      obtain ⟨mv1, mv2, mh3, k⟩ := k
      unfold f_X12_isSuit at mh3
      unfold B_X12_isSuit_0 at mh3
      obtain ⟨mv4, mv5, mh6, mh3⟩ := zk_o2 mh3
      unfold f_X12_in at mh6
      unfold B_X12_in_0 at mh6
      have mh6 := zk_t cc4 mh6
      simp only [Option.some.injEq, Prod.mk.injEq] at mh6
      obtain ⟨rfl, _⟩ := mh6
      obtain ⟨_, mh3⟩ := zk_gd mh3
      simp only [Option.some.injEq, Prod.mk.injEq] at mh3
      obtain ⟨rfl, _⟩ := mh3
      replace k := zk_t rfl k
      replace h := Option.some.inj h
      replace k := Option.some.inj k
      subst h
      subst k
      try dsimp only
      all_goals first
      | (exfalso; omega)
      | exact ⟨rfl, rfl, fun e => by first | exact e | rw [e]⟩
      | exact ⟨rfl, rfl, fun e => by rw [e]; rfl⟩
  · have ch3 := zk_f cc4 ch3
    have cc4n := cc4
    (try simp only [i32_lt, i32_le, i32_e, z32_0, z32_1] at cc4n)
    first
    | (exfalso; omega)
    | by_cases cc5 : court_suitCount ≤ x1
      · have ch3 := zk_t cc5 ch3
        have cc5n := cc5
        (try simp only [i32_lt, i32_le, i32_e, z32_0, z32_1] at cc5n)
        first
        | (exfalso; omega)
        | simp only [Option.some.injEq, Prod.mk.injEq] at ch3
          obtain ⟨rfl, _⟩ := ch3
          replace h := zk_t (by decide) h
          unfold B_X12_act_0 at k
          replace k := zk_o2 k
          obtain ⟨mv7, mv8, mh9, k⟩ := k
          unfold f_X12_isSuit at mh9
          unfold B_X12_isSuit_0 at mh9
          obtain ⟨mv10, mv11, mh12, mh9⟩ := zk_o2 mh9
          unfold f_X12_in at mh12
          unfold B_X12_in_0 at mh12
          have mh12 := zk_f cc4 mh12
          have mh12 := zk_t (by (try simp only [i32_lt, i32_le, i32_e, z32_0, z32_1]); omega) mh12
          simp only [Option.some.injEq, Prod.mk.injEq] at mh12
          obtain ⟨rfl, _⟩ := mh12
          obtain ⟨_, mh9⟩ := zk_gd mh9
          simp only [Option.some.injEq, Prod.mk.injEq] at mh9
          obtain ⟨rfl, _⟩ := mh9
          replace k := zk_t rfl k
          replace h := Option.some.inj h
          replace k := Option.some.inj k
          subst h
          subst k
          try dsimp only
          all_goals first
          | (exfalso; omega)
          | exact ⟨rfl, rfl, fun e => by first | exact e | rw [e]⟩
          | exact ⟨rfl, rfl, fun e => by rw [e]; rfl⟩
      · have ch3 := zk_f cc5 ch3
        have cc5n := cc5
        (try simp only [i32_lt, i32_le, i32_e, z32_0, z32_1] at cc5n)
        first
        | (exfalso; omega)
        | obtain ⟨_, ch3⟩ := zk_gd ch3
          obtain ⟨_, ch3⟩ := zk_gd ch3
          obtain ⟨_, ch3⟩ := zk_gd ch3
          simp only [Option.some.injEq, Prod.mk.injEq] at ch3
          obtain ⟨rfl, _⟩ := ch3
          replace h := zk_f cc4 h
          replace h := zk_gd h
          obtain ⟨_, h⟩ := h
          replace h := zk_o2 h
          obtain ⟨cv6, cv7, ch8, h⟩ := h
          obtain cq9 := bk8_e hB8 ch8
          replace cq9 := cq9.symm
          subst cq9
          replace h := zk_gd h
          obtain ⟨_, h⟩ := h
          replace h := zk_o4 h
          obtain ⟨cv10, cv11, cv12, cv13, ch14, h⟩ := h
          unfold f_X0_begin at ch14
          unfold B_X0_begin_0 at ch14
          simp only [Option.some.injEq, Prod.mk.injEq] at ch14
          obtain ⟨rfl, rfl, rfl, rfl⟩ := ch14
          by_cases cc15 : x2 = (0 : Int32)
          · replace h := zk_t cc15 h
            have cc15n := cc15
            (try simp only [i32_lt, i32_le, i32_e, z32_0, z32_1] at cc15n)
            first
            | (exfalso; omega)
            | obtain ⟨cv16, cv17, cv18, ch19, h⟩ := zk_o3 h
              have ch19 : f_X0_closes (grp_grp138 6) (2 : Int32) x3 (0 : Int32) (2 : Int32) x1 (S_askedCount x1.toNatClampNeg) acts_bodies = some (cv16, cv17, cv18) := ch19
              unfold f_X0_closes at ch19
              unfold B_X0_closes_0 at ch19
              have ch19 := zk_f (by decide) ch19
              have ch19 := zk_t rfl ch19
              obtain ⟨cv20, cv21, ch22, ch19⟩ := zk_o2 ch19
              unfold f_X0_above at ch22
              unfold B_X0_above_0 at ch22
              have ch22 := zk_f (by decide) ch22
              have ch22 := zk_f (by decide) ch22
              have ch22 := zk_f (by decide) ch22
              simp only [Option.some.injEq, Prod.mk.injEq] at ch22
              obtain ⟨rfl, _⟩ := ch22
              obtain ⟨cv23, cv24, cv25, ch26, ch19⟩ := zk_o3 ch19
              have ch26 : f_X0_closes (grp_grp138 5) (0 : Int32) x3 (0 : Int32) (2 : Int32) x1 (S_askedCount x1.toNatClampNeg) acts_bodies = some (cv23, cv24, cv25) := ch26
              unfold f_X0_closes at ch26
              unfold B_X0_closes_0 at ch26
              have ch26 := zk_f (by decide) ch26
              have ch26 := zk_f (by decide) ch26
              have ch26 := zk_f (by decide) ch26
              have ch26 := zk_f (by decide) ch26
              have ch26 := zk_f (by decide) ch26
              have ch26 := zk_f (by decide) ch26
              obtain ⟨cv27, cv28, ch29, ch26⟩ := zk_o2 ch26
              unfold f_X0_note at ch29
              unfold B_X0_note_0 at ch29
              have ch29 := zk_f (by decide) ch29
              obtain ⟨_, ch29⟩ := zk_gd ch29
              obtain ⟨cv30, ce31, ch29⟩ := zk_lt ch29
              subst ce31
              unfold B_X0_note_19 at ch29
              obtain ⟨cv32, ce33, ch29⟩ := zk_lt ch29
              subst ce33
              simp only [Option.some.injEq, Prod.mk.injEq] at ch29
              obtain ⟨rfl, rfl⟩ := ch29
              simp only [Option.some.injEq, Prod.mk.injEq] at ch26
              obtain ⟨rfl, rfl, rfl⟩ := ch26
              simp only [Option.some.injEq, Prod.mk.injEq] at ch19
              obtain ⟨rfl, rfl, rfl⟩ := ch19
              have hi : x1.toNatClampNeg < court_suitCount.toInt.toNat := by rw [tcn]; omega
              have ea : mod_askedMany x1.toNatClampNeg = S_askedCount x1.toNatClampNeg := (hA _ hi).symm
              unfold B_X12_act_0 at k
              replace k := zk_o2 k
              obtain ⟨mv13, mv14, mh15, k⟩ := k
              unfold f_X12_isSuit at mh15
              unfold B_X12_isSuit_0 at mh15
              obtain ⟨mv16, mv17, mh18, mh15⟩ := zk_o2 mh15
              unfold f_X12_in at mh18
              unfold B_X12_in_0 at mh18
              have mh18 := zk_f cc4 mh18
              have mh18 := zk_f (by (try simp only [i32_lt, i32_le, i32_e, z32_0, z32_1]); omega) mh18
              simp only [Option.some.injEq, Prod.mk.injEq] at mh18
              obtain ⟨rfl, _⟩ := mh18
              obtain ⟨_, mh15⟩ := zk_gd mh15
              simp only [Option.some.injEq, Prod.mk.injEq] at mh15
              obtain ⟨rfl, _⟩ := mh15
              replace k := zk_f (by decide) k
              replace k := zk_o2 k
              obtain ⟨mv19, mv20, mh21, k⟩ := k
              unfold f_X12_in at mh21
              unfold B_X12_in_0 at mh21
              have mh21 := zk_f (by (try simp only [i32_lt, i32_le, i32_e, z32_0, z32_1]); omega) mh21
              have mh21 := zk_f (by (try simp only [i32_lt, i32_le, i32_e, z32_0, z32_1, z32L_3]); omega) mh21
              simp only [Option.some.injEq, Prod.mk.injEq] at mh21
              obtain ⟨rfl, _⟩ := mh21
              replace k := zk_f (by decide) k
              replace k := zk_t cc15 k
              replace k := zk_o3 k
              obtain ⟨mv22, mv23, mv24, mh25, k⟩ := k
              unfold f_X12_closes at mh25
              unfold B_X12_closes_0 at mh25
              rw [ea] at mh25
              obtain ⟨mv26, mv27, mh28, mh25⟩ := zk_o2 mh25
              obtain mq29 := bk12_e (hB12 hi) mh28
              replace mq29 := mq29.symm
              subst mq29
              have mh25 := zk_f (by decide) mh25
              have mh25 := zk_f (by decide) mh25
              have mh25 := zk_f (by decide) mh25
              have mh25 := zk_f (by decide) mh25
              obtain ⟨mv30, mv31, mv32, mh33, mh25⟩ := zk_o3 mh25
              unfold f_X12_plainCloses at mh33
              unfold B_X12_plainCloses_0 at mh33
              obtain ⟨mv34, mv35, mh36, mh33⟩ := zk_o2 mh33
              unfold f_X12_ran at mh36
              unfold B_X12_ran_0 at mh36
              have mh36 := zk_f (by decide) mh36
              obtain ⟨_, mh36⟩ := zk_gd mh36
              obtain ⟨mv37, me38, mh36⟩ := zk_lt mh36
              subst me38
              unfold B_X12_ran_19 at mh36
              obtain ⟨mv39, me40, mh36⟩ := zk_lt mh36
              subst me40
              simp only [Option.some.injEq, Prod.mk.injEq] at mh36
              obtain ⟨rfl, rfl⟩ := mh36
              simp only [Option.some.injEq, Prod.mk.injEq] at mh33
              obtain ⟨rfl, rfl, rfl⟩ := mh33
              simp only [Option.some.injEq, Prod.mk.injEq] at mh25
              obtain ⟨rfl, rfl, rfl⟩ := mh25
              replace h := Option.some.inj h
              replace k := Option.some.inj k
              subst h
              subst k
              try dsimp only
              all_goals first
              | (exfalso; omega)
              | exact ⟨rfl, rfl, fun e => by first | exact e | rw [e]⟩
              | exact ⟨rfl, rfl, fun e => by rw [e]; rfl⟩
          · replace h := zk_f cc15 h
            have cc15n := cc15
            (try simp only [i32_lt, i32_le, i32_e, z32_0, z32_1] at cc15n)
            first
            | (exfalso; omega)
            | by_cases cc34 : x2 = (1 : Int32)
              · replace h := zk_t cc34 h
                have cc34n := cc34
                (try simp only [i32_lt, i32_le, i32_e, z32_0, z32_1] at cc34n)
                first
                | (exfalso; omega)
                | obtain ⟨cv35, cv36, cv37, ch38, h⟩ := zk_o3 h
                  have ch38 : f_X0_settles (grp_grp140 6) (2 : Int32) x3 (0 : Int32) (2 : Int32) x1 (S_askedCount x1.toNatClampNeg) acts_bodies = some (cv35, cv36, cv37) := ch38
                  unfold f_X0_settles at ch38
                  unfold B_X0_settles_0 at ch38
                  have ch38 := zk_f (by decide) ch38
                  have ch38 := zk_t rfl ch38
                  obtain ⟨cv39, cv40, ch41, ch38⟩ := zk_o2 ch38
                  unfold f_X0_above at ch41
                  unfold B_X0_above_0 at ch41
                  have ch41 := zk_f (by decide) ch41
                  have ch41 := zk_f (by decide) ch41
                  have ch41 := zk_f (by decide) ch41
                  simp only [Option.some.injEq, Prod.mk.injEq] at ch41
                  obtain ⟨rfl, _⟩ := ch41
                  obtain ⟨cv42, cv43, cv44, ch45, ch38⟩ := zk_o3 ch38
                  have ch45 : f_X0_settles (grp_grp140 5) (0 : Int32) x3 (0 : Int32) (2 : Int32) x1 (S_askedCount x1.toNatClampNeg) acts_bodies = some (cv42, cv43, cv44) := ch45
                  unfold f_X0_settles at ch45
                  unfold B_X0_settles_0 at ch45
                  have ch45 := zk_f (by decide) ch45
                  have ch45 := zk_f (by decide) ch45
                  have ch45 := zk_f (by decide) ch45
                  have ch45 := zk_f (by decide) ch45
                  have ch45 := zk_f (by decide) ch45
                  have ch45 := zk_f (by decide) ch45
                  obtain ⟨cv46, cv47, ch48, ch45⟩ := zk_o2 ch45
                  unfold f_X0_note at ch48
                  unfold B_X0_note_0 at ch48
                  have ch48 := zk_f (by decide) ch48
                  obtain ⟨_, ch48⟩ := zk_gd ch48
                  obtain ⟨cv49, ce50, ch48⟩ := zk_lt ch48
                  subst ce50
                  unfold B_X0_note_19 at ch48
                  obtain ⟨cv51, ce52, ch48⟩ := zk_lt ch48
                  subst ce52
                  simp only [Option.some.injEq, Prod.mk.injEq] at ch48
                  obtain ⟨rfl, rfl⟩ := ch48
                  obtain ⟨cv53, cv54, cv55, ch56, ch45⟩ := zk_o3 ch45
                  have ch56 : f_X0_closes (grp_grp138 6) (2 : Int32) x3 ((0 : Int32) + (1 : Int32)) (2 : Int32) x1 (S_askedCount x1.toNatClampNeg) (upd acts_bodies (0 : Int32).toNatClampNeg (10 : Int32)) = some (cv53, cv54, cv55) := ch56
                  unfold f_X0_closes at ch56
                  unfold B_X0_closes_0 at ch56
                  have ch56 := zk_f (by decide) ch56
                  have ch56 := zk_t rfl ch56
                  obtain ⟨cv57, cv58, ch59, ch56⟩ := zk_o2 ch56
                  unfold f_X0_above at ch59
                  unfold B_X0_above_0 at ch59
                  have ch59 := zk_f (by decide) ch59
                  have ch59 := zk_f (by decide) ch59
                  have ch59 := zk_f (by decide) ch59
                  simp only [Option.some.injEq, Prod.mk.injEq] at ch59
                  obtain ⟨rfl, _⟩ := ch59
                  obtain ⟨cv60, cv61, cv62, ch63, ch56⟩ := zk_o3 ch56
                  have ch63 : f_X0_closes (grp_grp138 5) (0 : Int32) x3 ((0 : Int32) + (1 : Int32)) (2 : Int32) x1 (S_askedCount x1.toNatClampNeg) (upd acts_bodies (0 : Int32).toNatClampNeg (10 : Int32)) = some (cv60, cv61, cv62) := ch63
                  unfold f_X0_closes at ch63
                  unfold B_X0_closes_0 at ch63
                  have ch63 := zk_f (by decide) ch63
                  have ch63 := zk_f (by decide) ch63
                  have ch63 := zk_f (by decide) ch63
                  have ch63 := zk_f (by decide) ch63
                  have ch63 := zk_f (by decide) ch63
                  have ch63 := zk_f (by decide) ch63
                  obtain ⟨cv64, cv65, ch66, ch63⟩ := zk_o2 ch63
                  unfold f_X0_note at ch66
                  unfold B_X0_note_0 at ch66
                  have ch66 := zk_f (by decide) ch66
                  obtain ⟨_, ch66⟩ := zk_gd ch66
                  obtain ⟨cv67, ce68, ch66⟩ := zk_lt ch66
                  subst ce68
                  unfold B_X0_note_19 at ch66
                  obtain ⟨cv69, ce70, ch66⟩ := zk_lt ch66
                  subst ce70
                  simp only [Option.some.injEq, Prod.mk.injEq] at ch66
                  obtain ⟨rfl, rfl⟩ := ch66
                  simp only [Option.some.injEq, Prod.mk.injEq] at ch63
                  obtain ⟨rfl, rfl, rfl⟩ := ch63
                  simp only [Option.some.injEq, Prod.mk.injEq] at ch56
                  obtain ⟨rfl, rfl, rfl⟩ := ch56
                  simp only [Option.some.injEq, Prod.mk.injEq] at ch45
                  obtain ⟨rfl, rfl, rfl⟩ := ch45
                  simp only [Option.some.injEq, Prod.mk.injEq] at ch38
                  obtain ⟨rfl, rfl, rfl⟩ := ch38
                  have hi : x1.toNatClampNeg < court_suitCount.toInt.toNat := by rw [tcn]; omega
                  have ea : mod_askedMany x1.toNatClampNeg = S_askedCount x1.toNatClampNeg := (hA _ hi).symm
                  unfold B_X12_act_0 at k
                  replace k := zk_o2 k
                  obtain ⟨mv41, mv42, mh43, k⟩ := k
                  unfold f_X12_isSuit at mh43
                  unfold B_X12_isSuit_0 at mh43
                  obtain ⟨mv44, mv45, mh46, mh43⟩ := zk_o2 mh43
                  unfold f_X12_in at mh46
                  unfold B_X12_in_0 at mh46
                  have mh46 := zk_f cc4 mh46
                  have mh46 := zk_f (by (try simp only [i32_lt, i32_le, i32_e, z32_0, z32_1]); omega) mh46
                  simp only [Option.some.injEq, Prod.mk.injEq] at mh46
                  obtain ⟨rfl, _⟩ := mh46
                  obtain ⟨_, mh43⟩ := zk_gd mh43
                  simp only [Option.some.injEq, Prod.mk.injEq] at mh43
                  obtain ⟨rfl, _⟩ := mh43
                  replace k := zk_f (by decide) k
                  replace k := zk_o2 k
                  obtain ⟨mv47, mv48, mh49, k⟩ := k
                  unfold f_X12_in at mh49
                  unfold B_X12_in_0 at mh49
                  have mh49 := zk_f (by (try simp only [i32_lt, i32_le, i32_e, z32_0, z32_1]); omega) mh49
                  have mh49 := zk_f (by (try simp only [i32_lt, i32_le, i32_e, z32_0, z32_1, z32L_3]); omega) mh49
                  simp only [Option.some.injEq, Prod.mk.injEq] at mh49
                  obtain ⟨rfl, _⟩ := mh49
                  replace k := zk_f (by decide) k
                  replace k := zk_f cc15 k
                  replace k := zk_t cc34 k
                  replace k := zk_o3 k
                  obtain ⟨mv50, mv51, mv52, mh53, k⟩ := k
                  unfold f_X12_settles at mh53
                  unfold B_X12_settles_0 at mh53
                  obtain ⟨mv54, mv55, mh56, mh53⟩ := zk_o2 mh53
                  obtain mq57 := bk12_e (hB12 hi) mh56
                  replace mq57 := mq57.symm
                  subst mq57
                  have mh53 := zk_f (by decide) mh53
                  have mh53 := zk_f (by decide) mh53
                  have mh53 := zk_f (by decide) mh53
                  obtain ⟨mv58, mv59, mv60, mh61, mh53⟩ := zk_o3 mh53
                  unfold f_X12_plainSettles at mh61
                  unfold B_X12_plainSettles_0 at mh61
                  obtain ⟨mv62, mv63, mh64, mh61⟩ := zk_o2 mh61
                  unfold f_X12_ran at mh64
                  unfold B_X12_ran_0 at mh64
                  have mh64 := zk_f (by decide) mh64
                  obtain ⟨_, mh64⟩ := zk_gd mh64
                  obtain ⟨mv65, me66, mh64⟩ := zk_lt mh64
                  subst me66
                  unfold B_X12_ran_19 at mh64
                  obtain ⟨mv67, me68, mh64⟩ := zk_lt mh64
                  subst me68
                  simp only [Option.some.injEq, Prod.mk.injEq] at mh64
                  obtain ⟨rfl, rfl⟩ := mh64
                  obtain ⟨mv69, mv70, mv71, mh72, mh61⟩ := zk_o3 mh61
                  unfold f_X12_closes at mh72
                  unfold B_X12_closes_0 at mh72
                  rw [ea] at mh72
                  obtain ⟨mv73, mv74, mh75, mh72⟩ := zk_o2 mh72
                  obtain mq76 := bk12_e (hB12 hi) mh75
                  replace mq76 := mq76.symm
                  subst mq76
                  have mh72 := zk_f (by decide) mh72
                  have mh72 := zk_f (by decide) mh72
                  have mh72 := zk_f (by decide) mh72
                  have mh72 := zk_f (by decide) mh72
                  obtain ⟨mv77, mv78, mv79, mh80, mh72⟩ := zk_o3 mh72
                  unfold f_X12_plainCloses at mh80
                  unfold B_X12_plainCloses_0 at mh80
                  obtain ⟨mv81, mv82, mh83, mh80⟩ := zk_o2 mh80
                  unfold f_X12_ran at mh83
                  unfold B_X12_ran_0 at mh83
                  have mh83 := zk_f (by decide) mh83
                  obtain ⟨_, mh83⟩ := zk_gd mh83
                  obtain ⟨mv84, me85, mh83⟩ := zk_lt mh83
                  subst me85
                  unfold B_X12_ran_19 at mh83
                  obtain ⟨mv86, me87, mh83⟩ := zk_lt mh83
                  subst me87
                  simp only [Option.some.injEq, Prod.mk.injEq] at mh83
                  obtain ⟨rfl, rfl⟩ := mh83
                  simp only [Option.some.injEq, Prod.mk.injEq] at mh80
                  obtain ⟨rfl, rfl, rfl⟩ := mh80
                  simp only [Option.some.injEq, Prod.mk.injEq] at mh72
                  obtain ⟨rfl, rfl, rfl⟩ := mh72
                  simp only [Option.some.injEq, Prod.mk.injEq] at mh61
                  obtain ⟨rfl, rfl, rfl⟩ := mh61
                  simp only [Option.some.injEq, Prod.mk.injEq] at mh53
                  obtain ⟨rfl, rfl, rfl⟩ := mh53
                  replace h := Option.some.inj h
                  replace k := Option.some.inj k
                  subst h
                  subst k
                  try dsimp only
                  all_goals first
                  | (exfalso; omega)
                  | exact ⟨rfl, rfl, fun e => by first | exact e | rw [e]⟩
                  | exact ⟨rfl, rfl, fun e => by rw [e]; rfl⟩
              · replace h := zk_f cc34 h
                have cc34n := cc34
                (try simp only [i32_lt, i32_le, i32_e, z32_0, z32_1] at cc34n)
                first
                | (exfalso; omega)
                | by_cases cc71 : x2 = (2 : Int32)
                  · replace h := zk_t cc71 h
                    have cc71n := cc71
                    (try simp only [i32_lt, i32_le, i32_e, z32_0, z32_1, z32L_2] at cc71n)
                    first
                    | (exfalso; omega)
                    | obtain ⟨cv72, cv73, cv74, ch75, h⟩ := zk_o3 h
                      have ch75 : f_X0_binds (grp_grp139 6) (2 : Int32) x3 (0 : Int32) (2 : Int32) x1 (S_askedCount x1.toNatClampNeg) acts_bodies = some (cv72, cv73, cv74) := ch75
                      unfold f_X0_binds at ch75
                      unfold B_X0_binds_0 at ch75
                      have ch75 := zk_t rfl ch75
                      obtain ⟨cv76, cv77, ch78, ch75⟩ := zk_o2 ch75
                      unfold f_X0_note at ch78
                      unfold B_X0_note_0 at ch78
                      have ch78 := zk_f (by decide) ch78
                      obtain ⟨_, ch78⟩ := zk_gd ch78
                      obtain ⟨cv79, ce80, ch78⟩ := zk_lt ch78
                      subst ce80
                      unfold B_X0_note_19 at ch78
                      obtain ⟨cv81, ce82, ch78⟩ := zk_lt ch78
                      subst ce82
                      simp only [Option.some.injEq, Prod.mk.injEq] at ch78
                      obtain ⟨rfl, rfl⟩ := ch78
                      obtain ⟨cv83, cv84, ch85, ch75⟩ := zk_o2 ch75
                      unfold f_X0_above at ch85
                      unfold B_X0_above_0 at ch85
                      have ch85 := zk_f (by decide) ch85
                      have ch85 := zk_f (by decide) ch85
                      have ch85 := zk_f (by decide) ch85
                      simp only [Option.some.injEq, Prod.mk.injEq] at ch85
                      obtain ⟨rfl, _⟩ := ch85
                      obtain ⟨cv86, cv87, cv88, ch89, ch75⟩ := zk_o3 ch75
                      have ch89 : f_X0_binds (grp_grp139 5) (0 : Int32) x3 ((0 : Int32) + (1 : Int32)) (2 : Int32) x1 (S_askedCount x1.toNatClampNeg) (upd acts_bodies (0 : Int32).toNatClampNeg (30 : Int32)) = some (cv86, cv87, cv88) := ch89
                      unfold f_X0_binds at ch89
                      unfold B_X0_binds_0 at ch89
                      have ch89 := zk_f (by decide) ch89
                      have ch89 := zk_t (Int32.le_refl _) ch89
                      obtain ⟨cv90, cv91, ch92, ch89⟩ := zk_o2 ch89
                      unfold f_X0_note at ch92
                      unfold B_X0_note_0 at ch92
                      have ch92 := zk_f (by decide) ch92
                      obtain ⟨_, ch92⟩ := zk_gd ch92
                      obtain ⟨cv93, ce94, ch92⟩ := zk_lt ch92
                      subst ce94
                      unfold B_X0_note_19 at ch92
                      obtain ⟨cv95, ce96, ch92⟩ := zk_lt ch92
                      subst ce96
                      simp only [Option.some.injEq, Prod.mk.injEq] at ch92
                      obtain ⟨rfl, rfl⟩ := ch92
                      simp only [Option.some.injEq, Prod.mk.injEq] at ch89
                      obtain ⟨rfl, rfl, rfl⟩ := ch89
                      simp only [Option.some.injEq, Prod.mk.injEq] at ch75
                      obtain ⟨rfl, rfl, rfl⟩ := ch75
                      have hi : x1.toNatClampNeg < court_suitCount.toInt.toNat := by rw [tcn]; omega
                      have ea : mod_askedMany x1.toNatClampNeg = S_askedCount x1.toNatClampNeg := (hA _ hi).symm
                      unfold B_X12_act_0 at k
                      replace k := zk_o2 k
                      obtain ⟨mv88, mv89, mh90, k⟩ := k
                      unfold f_X12_isSuit at mh90
                      unfold B_X12_isSuit_0 at mh90
                      obtain ⟨mv91, mv92, mh93, mh90⟩ := zk_o2 mh90
                      unfold f_X12_in at mh93
                      unfold B_X12_in_0 at mh93
                      have mh93 := zk_f cc4 mh93
                      have mh93 := zk_f (by (try simp only [i32_lt, i32_le, i32_e, z32_0, z32_1]); omega) mh93
                      simp only [Option.some.injEq, Prod.mk.injEq] at mh93
                      obtain ⟨rfl, _⟩ := mh93
                      obtain ⟨_, mh90⟩ := zk_gd mh90
                      simp only [Option.some.injEq, Prod.mk.injEq] at mh90
                      obtain ⟨rfl, _⟩ := mh90
                      replace k := zk_f (by decide) k
                      replace k := zk_o2 k
                      obtain ⟨mv94, mv95, mh96, k⟩ := k
                      unfold f_X12_in at mh96
                      unfold B_X12_in_0 at mh96
                      have mh96 := zk_f (by (try simp only [i32_lt, i32_le, i32_e, z32_0, z32_1]); omega) mh96
                      have mh96 := zk_f (by (try simp only [i32_lt, i32_le, i32_e, z32_0, z32_1, z32L_3]); omega) mh96
                      simp only [Option.some.injEq, Prod.mk.injEq] at mh96
                      obtain ⟨rfl, _⟩ := mh96
                      replace k := zk_f (by decide) k
                      replace k := zk_f cc15 k
                      replace k := zk_f cc34 k
                      replace k := zk_t cc71 k
                      replace k := zk_o3 k
                      obtain ⟨mv97, mv98, mv99, mh100, k⟩ := k
                      unfold f_X12_binds at mh100
                      unfold B_X12_binds_0 at mh100
                      obtain ⟨mv101, mv102, mh103, mh100⟩ := zk_o2 mh100
                      obtain mq104 := bk12_e (hB12 hi) mh103
                      replace mq104 := mq104.symm
                      subst mq104
                      obtain ⟨mv105, mv106, mh107, mh100⟩ := zk_o2 mh100
                      unfold f_X12_isUnder at mh107
                      unfold B_X12_isUnder_0 at mh107
                      have mh107 := zk_f (by decide) mh107
                      have mh107 := zk_t rfl mh107
                      unfold B_X12_isUnder_40 at mh107
                      simp only [Option.some.injEq, Prod.mk.injEq] at mh107
                      obtain ⟨rfl, _⟩ := mh107
                      have mh100 := zk_f (by decide) mh100
                      obtain ⟨mv108, mv109, mh110, mh100⟩ := zk_o2 mh100
                      unfold f_X12_ran at mh110
                      unfold B_X12_ran_0 at mh110
                      have mh110 := zk_f (by decide) mh110
                      obtain ⟨_, mh110⟩ := zk_gd mh110
                      obtain ⟨mv111, me112, mh110⟩ := zk_lt mh110
                      subst me112
                      unfold B_X12_ran_19 at mh110
                      obtain ⟨mv113, me114, mh110⟩ := zk_lt mh110
                      subst me114
                      simp only [Option.some.injEq, Prod.mk.injEq] at mh110
                      obtain ⟨rfl, rfl⟩ := mh110
                      obtain ⟨mv115, mv116, mv117, mh118, mh100⟩ := zk_o3 mh100
                      unfold f_X12_plainBinds at mh118
                      unfold B_X12_plainBinds_0 at mh118
                      obtain ⟨mv119, mv120, mh121, mh118⟩ := zk_o2 mh118
                      unfold f_X12_ran at mh121
                      unfold B_X12_ran_0 at mh121
                      have mh121 := zk_f (by decide) mh121
                      obtain ⟨_, mh121⟩ := zk_gd mh121
                      obtain ⟨mv122, me123, mh121⟩ := zk_lt mh121
                      subst me123
                      unfold B_X12_ran_19 at mh121
                      obtain ⟨mv124, me125, mh121⟩ := zk_lt mh121
                      subst me125
                      simp only [Option.some.injEq, Prod.mk.injEq] at mh121
                      obtain ⟨rfl, rfl⟩ := mh121
                      simp only [Option.some.injEq, Prod.mk.injEq] at mh118
                      obtain ⟨rfl, rfl, rfl⟩ := mh118
                      simp only [Option.some.injEq, Prod.mk.injEq] at mh100
                      obtain ⟨rfl, rfl, rfl⟩ := mh100
                      replace h := Option.some.inj h
                      replace k := Option.some.inj k
                      subst h
                      subst k
                      try dsimp only
                      all_goals first
                      | (exfalso; omega)
                      | exact ⟨rfl, rfl, fun e => by first | exact e | rw [e]⟩
                      | exact ⟨rfl, rfl, fun e => by rw [e]; rfl⟩
                  · replace h := zk_f cc71 h
                    have cc71n := cc71
                    (try simp only [i32_lt, i32_le, i32_e, z32_0, z32_1, z32L_2] at cc71n)
                    first
                    | (exfalso; omega)
                    | by_cases cc97 : x2 = (3 : Int32)
                      · replace h := zk_t cc97 h
                        have cc97n := cc97
                        (try simp only [i32_lt, i32_le, i32_e, z32_0, z32_1, z32L_3] at cc97n)
                        first
                        | (exfalso; omega)
                        | obtain ⟨cv98, cv99, cv100, ch101, h⟩ := zk_o3 h
                          have ch101 : f_X0_tells (grp_grp141 6) (2 : Int32) x3 (0 : Int32) (2 : Int32) x1 (S_askedCount x1.toNatClampNeg) acts_bodies = some (cv98, cv99, cv100) := ch101
                          unfold f_X0_tells at ch101
                          unfold B_X0_tells_0 at ch101
                          have ch101 := zk_f (by decide) ch101
                          have ch101 := zk_f (by decide) ch101
                          obtain ⟨cv102, cv103, ch104, ch101⟩ := zk_o2 ch101
                          unfold f_X0_above at ch104
                          unfold B_X0_above_0 at ch104
                          have ch104 := zk_f (by decide) ch104
                          have ch104 := zk_f (by decide) ch104
                          have ch104 := zk_f (by decide) ch104
                          simp only [Option.some.injEq, Prod.mk.injEq] at ch104
                          obtain ⟨rfl, _⟩ := ch104
                          obtain ⟨cv105, cv106, cv107, ch108, ch101⟩ := zk_o3 ch101
                          have ch108 : f_X0_tells (grp_grp141 5) (0 : Int32) x3 (0 : Int32) (2 : Int32) x1 (S_askedCount x1.toNatClampNeg) acts_bodies = some (cv105, cv106, cv107) := ch108
                          unfold f_X0_tells at ch108
                          unfold B_X0_tells_0 at ch108
                          have ch108 := zk_f (by decide) ch108
                          have ch108 := zk_t (Int32.le_refl _) ch108
                          obtain ⟨cv109, cv110, ch111, ch108⟩ := zk_o2 ch108
                          unfold f_X0_note at ch111
                          unfold B_X0_note_0 at ch111
                          have ch111 := zk_f (by decide) ch111
                          obtain ⟨_, ch111⟩ := zk_gd ch111
                          obtain ⟨cv112, ce113, ch111⟩ := zk_lt ch111
                          subst ce113
                          unfold B_X0_note_19 at ch111
                          obtain ⟨cv114, ce115, ch111⟩ := zk_lt ch111
                          subst ce115
                          simp only [Option.some.injEq, Prod.mk.injEq] at ch111
                          obtain ⟨rfl, rfl⟩ := ch111
                          obtain ⟨cv116, cv117, cv118, ch119, ch108⟩ := zk_o3 ch108
                          have ch119 : f_X0_settles (grp_grp140 6) (2 : Int32) x3 ((0 : Int32) + (1 : Int32)) (2 : Int32) x1 (S_askedCount x1.toNatClampNeg) (upd acts_bodies (0 : Int32).toNatClampNeg (2 : Int32)) = some (cv116, cv117, cv118) := ch119
                          unfold f_X0_settles at ch119
                          unfold B_X0_settles_0 at ch119
                          have ch119 := zk_f (by decide) ch119
                          have ch119 := zk_t rfl ch119
                          obtain ⟨cv120, cv121, ch122, ch119⟩ := zk_o2 ch119
                          unfold f_X0_above at ch122
                          unfold B_X0_above_0 at ch122
                          have ch122 := zk_f (by decide) ch122
                          have ch122 := zk_f (by decide) ch122
                          have ch122 := zk_f (by decide) ch122
                          simp only [Option.some.injEq, Prod.mk.injEq] at ch122
                          obtain ⟨rfl, _⟩ := ch122
                          obtain ⟨cv123, cv124, cv125, ch126, ch119⟩ := zk_o3 ch119
                          have ch126 : f_X0_settles (grp_grp140 5) (0 : Int32) x3 ((0 : Int32) + (1 : Int32)) (2 : Int32) x1 (S_askedCount x1.toNatClampNeg) (upd acts_bodies (0 : Int32).toNatClampNeg (2 : Int32)) = some (cv123, cv124, cv125) := ch126
                          unfold f_X0_settles at ch126
                          unfold B_X0_settles_0 at ch126
                          have ch126 := zk_f (by decide) ch126
                          have ch126 := zk_f (by decide) ch126
                          have ch126 := zk_f (by decide) ch126
                          have ch126 := zk_f (by decide) ch126
                          have ch126 := zk_f (by decide) ch126
                          have ch126 := zk_f (by decide) ch126
                          obtain ⟨cv127, cv128, ch129, ch126⟩ := zk_o2 ch126
                          unfold f_X0_note at ch129
                          unfold B_X0_note_0 at ch129
                          have ch129 := zk_f (by decide) ch129
                          obtain ⟨_, ch129⟩ := zk_gd ch129
                          obtain ⟨cv130, ce131, ch129⟩ := zk_lt ch129
                          subst ce131
                          unfold B_X0_note_19 at ch129
                          obtain ⟨cv132, ce133, ch129⟩ := zk_lt ch129
                          subst ce133
                          simp only [Option.some.injEq, Prod.mk.injEq] at ch129
                          obtain ⟨rfl, rfl⟩ := ch129
                          obtain ⟨cv134, cv135, cv136, ch137, ch126⟩ := zk_o3 ch126
                          have ch137 : f_X0_closes (grp_grp138 6) (2 : Int32) x3 (((0 : Int32) + (1 : Int32)) + (1 : Int32)) (2 : Int32) x1 (S_askedCount x1.toNatClampNeg) (upd (upd acts_bodies (0 : Int32).toNatClampNeg (2 : Int32)) ((0 : Int32) + (1 : Int32)).toNatClampNeg (10 : Int32)) = some (cv134, cv135, cv136) := ch137
                          unfold f_X0_closes at ch137
                          unfold B_X0_closes_0 at ch137
                          have ch137 := zk_f (by decide) ch137
                          have ch137 := zk_t rfl ch137
                          obtain ⟨cv138, cv139, ch140, ch137⟩ := zk_o2 ch137
                          unfold f_X0_above at ch140
                          unfold B_X0_above_0 at ch140
                          have ch140 := zk_f (by decide) ch140
                          have ch140 := zk_f (by decide) ch140
                          have ch140 := zk_f (by decide) ch140
                          simp only [Option.some.injEq, Prod.mk.injEq] at ch140
                          obtain ⟨rfl, _⟩ := ch140
                          obtain ⟨cv141, cv142, cv143, ch144, ch137⟩ := zk_o3 ch137
                          have ch144 : f_X0_closes (grp_grp138 5) (0 : Int32) x3 (((0 : Int32) + (1 : Int32)) + (1 : Int32)) (2 : Int32) x1 (S_askedCount x1.toNatClampNeg) (upd (upd acts_bodies (0 : Int32).toNatClampNeg (2 : Int32)) ((0 : Int32) + (1 : Int32)).toNatClampNeg (10 : Int32)) = some (cv141, cv142, cv143) := ch144
                          unfold f_X0_closes at ch144
                          unfold B_X0_closes_0 at ch144
                          have ch144 := zk_f (by decide) ch144
                          have ch144 := zk_f (by decide) ch144
                          have ch144 := zk_f (by decide) ch144
                          have ch144 := zk_f (by decide) ch144
                          have ch144 := zk_f (by decide) ch144
                          have ch144 := zk_f (by decide) ch144
                          obtain ⟨cv145, cv146, ch147, ch144⟩ := zk_o2 ch144
                          unfold f_X0_note at ch147
                          unfold B_X0_note_0 at ch147
                          have ch147 := zk_f (by decide) ch147
                          obtain ⟨_, ch147⟩ := zk_gd ch147
                          obtain ⟨cv148, ce149, ch147⟩ := zk_lt ch147
                          subst ce149
                          unfold B_X0_note_19 at ch147
                          obtain ⟨cv150, ce151, ch147⟩ := zk_lt ch147
                          subst ce151
                          simp only [Option.some.injEq, Prod.mk.injEq] at ch147
                          obtain ⟨rfl, rfl⟩ := ch147
                          simp only [Option.some.injEq, Prod.mk.injEq] at ch144
                          obtain ⟨rfl, rfl, rfl⟩ := ch144
                          simp only [Option.some.injEq, Prod.mk.injEq] at ch137
                          obtain ⟨rfl, rfl, rfl⟩ := ch137
                          simp only [Option.some.injEq, Prod.mk.injEq] at ch126
                          obtain ⟨rfl, rfl, rfl⟩ := ch126
                          simp only [Option.some.injEq, Prod.mk.injEq] at ch119
                          obtain ⟨rfl, rfl, rfl⟩ := ch119
                          obtain ⟨cv152, cv153, cv154, ch155, ch108⟩ := zk_o3 ch108
                          have ch155 : f_X0_binds (grp_grp139 6) (2 : Int32) (1 : Int32) ((((0 : Int32) + (1 : Int32)) + (1 : Int32)) + (1 : Int32)) (2 : Int32) x1 (S_askedCount x1.toNatClampNeg) (upd (upd (upd acts_bodies (0 : Int32).toNatClampNeg (2 : Int32)) ((0 : Int32) + (1 : Int32)).toNatClampNeg (10 : Int32)) (((0 : Int32) + (1 : Int32)) + (1 : Int32)).toNatClampNeg (1 : Int32)) = some (cv152, cv153, cv154) := ch155
                          unfold f_X0_binds at ch155
                          unfold B_X0_binds_0 at ch155
                          have ch155 := zk_t rfl ch155
                          obtain ⟨cv156, cv157, ch158, ch155⟩ := zk_o2 ch155
                          unfold f_X0_note at ch158
                          unfold B_X0_note_0 at ch158
                          have ch158 := zk_f (by decide) ch158
                          obtain ⟨_, ch158⟩ := zk_gd ch158
                          obtain ⟨cv159, ce160, ch158⟩ := zk_lt ch158
                          subst ce160
                          unfold B_X0_note_19 at ch158
                          obtain ⟨cv161, ce162, ch158⟩ := zk_lt ch158
                          subst ce162
                          simp only [Option.some.injEq, Prod.mk.injEq] at ch158
                          obtain ⟨rfl, rfl⟩ := ch158
                          obtain ⟨cv163, cv164, ch165, ch155⟩ := zk_o2 ch155
                          unfold f_X0_above at ch165
                          unfold B_X0_above_0 at ch165
                          have ch165 := zk_f (by decide) ch165
                          have ch165 := zk_f (by decide) ch165
                          have ch165 := zk_f (by decide) ch165
                          simp only [Option.some.injEq, Prod.mk.injEq] at ch165
                          obtain ⟨rfl, _⟩ := ch165
                          obtain ⟨cv166, cv167, cv168, ch169, ch155⟩ := zk_o3 ch155
                          have ch169 : f_X0_binds (grp_grp139 5) (0 : Int32) (1 : Int32) (((((0 : Int32) + (1 : Int32)) + (1 : Int32)) + (1 : Int32)) + (1 : Int32)) (2 : Int32) x1 (S_askedCount x1.toNatClampNeg) (upd (upd (upd (upd acts_bodies (0 : Int32).toNatClampNeg (2 : Int32)) ((0 : Int32) + (1 : Int32)).toNatClampNeg (10 : Int32)) (((0 : Int32) + (1 : Int32)) + (1 : Int32)).toNatClampNeg (1 : Int32)) ((((0 : Int32) + (1 : Int32)) + (1 : Int32)) + (1 : Int32)).toNatClampNeg (30 : Int32)) = some (cv166, cv167, cv168) := ch169
                          unfold f_X0_binds at ch169
                          unfold B_X0_binds_0 at ch169
                          have ch169 := zk_f (by decide) ch169
                          have ch169 := zk_t (Int32.le_refl _) ch169
                          obtain ⟨cv170, cv171, ch172, ch169⟩ := zk_o2 ch169
                          unfold f_X0_note at ch172
                          unfold B_X0_note_0 at ch172
                          have ch172 := zk_f (by decide) ch172
                          obtain ⟨_, ch172⟩ := zk_gd ch172
                          obtain ⟨cv173, ce174, ch172⟩ := zk_lt ch172
                          subst ce174
                          unfold B_X0_note_19 at ch172
                          obtain ⟨cv175, ce176, ch172⟩ := zk_lt ch172
                          subst ce176
                          simp only [Option.some.injEq, Prod.mk.injEq] at ch172
                          obtain ⟨rfl, rfl⟩ := ch172
                          simp only [Option.some.injEq, Prod.mk.injEq] at ch169
                          obtain ⟨rfl, rfl, rfl⟩ := ch169
                          simp only [Option.some.injEq, Prod.mk.injEq] at ch155
                          obtain ⟨rfl, rfl, rfl⟩ := ch155
                          simp only [Option.some.injEq, Prod.mk.injEq] at ch108
                          obtain ⟨rfl, rfl, rfl⟩ := ch108
                          simp only [Option.some.injEq, Prod.mk.injEq] at ch101
                          obtain ⟨rfl, rfl, rfl⟩ := ch101
                          have hi : x1.toNatClampNeg < court_suitCount.toInt.toNat := by rw [tcn]; omega
                          have ea : mod_askedMany x1.toNatClampNeg = S_askedCount x1.toNatClampNeg := (hA _ hi).symm
                          unfold B_X12_act_0 at k
                          replace k := zk_o2 k
                          obtain ⟨mv126, mv127, mh128, k⟩ := k
                          unfold f_X12_isSuit at mh128
                          unfold B_X12_isSuit_0 at mh128
                          obtain ⟨mv129, mv130, mh131, mh128⟩ := zk_o2 mh128
                          unfold f_X12_in at mh131
                          unfold B_X12_in_0 at mh131
                          have mh131 := zk_f cc4 mh131
                          have mh131 := zk_f (by (try simp only [i32_lt, i32_le, i32_e, z32_0, z32_1]); omega) mh131
                          simp only [Option.some.injEq, Prod.mk.injEq] at mh131
                          obtain ⟨rfl, _⟩ := mh131
                          obtain ⟨_, mh128⟩ := zk_gd mh128
                          simp only [Option.some.injEq, Prod.mk.injEq] at mh128
                          obtain ⟨rfl, _⟩ := mh128
                          replace k := zk_f (by decide) k
                          replace k := zk_o2 k
                          obtain ⟨mv132, mv133, mh134, k⟩ := k
                          unfold f_X12_in at mh134
                          unfold B_X12_in_0 at mh134
                          have mh134 := zk_f (by (try simp only [i32_lt, i32_le, i32_e, z32_0, z32_1]); omega) mh134
                          have mh134 := zk_f (by (try simp only [i32_lt, i32_le, i32_e, z32_0, z32_1, z32L_3]); omega) mh134
                          simp only [Option.some.injEq, Prod.mk.injEq] at mh134
                          obtain ⟨rfl, _⟩ := mh134
                          replace k := zk_f (by decide) k
                          replace k := zk_f cc15 k
                          replace k := zk_f cc34 k
                          replace k := zk_f cc71 k
                          replace k := zk_o3 k
                          obtain ⟨mv135, mv136, mv137, mh138, k⟩ := k
                          unfold f_X12_tells at mh138
                          unfold B_X12_tells_0 at mh138
                          obtain ⟨mv139, mv140, mh141, mh138⟩ := zk_o2 mh138
                          obtain mq142 := bk12_e (hB12 hi) mh141
                          replace mq142 := mq142.symm
                          subst mq142
                          have mh138 := zk_f (by decide) mh138
                          obtain ⟨mv143, mv144, mv145, mh146, mh138⟩ := zk_o3 mh138
                          unfold f_X12_plainTells at mh146
                          unfold B_X12_plainTells_0 at mh146
                          obtain ⟨mv147, mv148, mh149, mh146⟩ := zk_o2 mh146
                          unfold f_X12_ran at mh149
                          unfold B_X12_ran_0 at mh149
                          have mh149 := zk_f (by decide) mh149
                          obtain ⟨_, mh149⟩ := zk_gd mh149
                          obtain ⟨mv150, me151, mh149⟩ := zk_lt mh149
                          subst me151
                          unfold B_X12_ran_19 at mh149
                          obtain ⟨mv152, me153, mh149⟩ := zk_lt mh149
                          subst me153
                          simp only [Option.some.injEq, Prod.mk.injEq] at mh149
                          obtain ⟨rfl, rfl⟩ := mh149
                          obtain ⟨mv154, mv155, mv156, mh157, mh146⟩ := zk_o3 mh146
                          unfold f_X12_settles at mh157
                          unfold B_X12_settles_0 at mh157
                          obtain ⟨mv158, mv159, mh160, mh157⟩ := zk_o2 mh157
                          obtain mq161 := bk12_e (hB12 hi) mh160
                          replace mq161 := mq161.symm
                          subst mq161
                          have mh157 := zk_f (by decide) mh157
                          have mh157 := zk_f (by decide) mh157
                          have mh157 := zk_f (by decide) mh157
                          obtain ⟨mv162, mv163, mv164, mh165, mh157⟩ := zk_o3 mh157
                          unfold f_X12_plainSettles at mh165
                          unfold B_X12_plainSettles_0 at mh165
                          obtain ⟨mv166, mv167, mh168, mh165⟩ := zk_o2 mh165
                          unfold f_X12_ran at mh168
                          unfold B_X12_ran_0 at mh168
                          have mh168 := zk_f (by decide) mh168
                          obtain ⟨_, mh168⟩ := zk_gd mh168
                          obtain ⟨mv169, me170, mh168⟩ := zk_lt mh168
                          subst me170
                          unfold B_X12_ran_19 at mh168
                          obtain ⟨mv171, me172, mh168⟩ := zk_lt mh168
                          subst me172
                          simp only [Option.some.injEq, Prod.mk.injEq] at mh168
                          obtain ⟨rfl, rfl⟩ := mh168
                          obtain ⟨mv173, mv174, mv175, mh176, mh165⟩ := zk_o3 mh165
                          unfold f_X12_closes at mh176
                          unfold B_X12_closes_0 at mh176
                          rw [ea] at mh176
                          obtain ⟨mv177, mv178, mh179, mh176⟩ := zk_o2 mh176
                          obtain mq180 := bk12_e (hB12 hi) mh179
                          replace mq180 := mq180.symm
                          subst mq180
                          have mh176 := zk_f (by decide) mh176
                          have mh176 := zk_f (by decide) mh176
                          have mh176 := zk_f (by decide) mh176
                          have mh176 := zk_f (by decide) mh176
                          obtain ⟨mv181, mv182, mv183, mh184, mh176⟩ := zk_o3 mh176
                          unfold f_X12_plainCloses at mh184
                          unfold B_X12_plainCloses_0 at mh184
                          obtain ⟨mv185, mv186, mh187, mh184⟩ := zk_o2 mh184
                          unfold f_X12_ran at mh187
                          unfold B_X12_ran_0 at mh187
                          have mh187 := zk_f (by decide) mh187
                          obtain ⟨_, mh187⟩ := zk_gd mh187
                          obtain ⟨mv188, me189, mh187⟩ := zk_lt mh187
                          subst me189
                          unfold B_X12_ran_19 at mh187
                          obtain ⟨mv190, me191, mh187⟩ := zk_lt mh187
                          subst me191
                          simp only [Option.some.injEq, Prod.mk.injEq] at mh187
                          obtain ⟨rfl, rfl⟩ := mh187
                          simp only [Option.some.injEq, Prod.mk.injEq] at mh184
                          obtain ⟨rfl, rfl, rfl⟩ := mh184
                          simp only [Option.some.injEq, Prod.mk.injEq] at mh176
                          obtain ⟨rfl, rfl, rfl⟩ := mh176
                          simp only [Option.some.injEq, Prod.mk.injEq] at mh165
                          obtain ⟨rfl, rfl, rfl⟩ := mh165
                          simp only [Option.some.injEq, Prod.mk.injEq] at mh157
                          obtain ⟨rfl, rfl, rfl⟩ := mh157
                          obtain ⟨mv192, mv193, mv194, mh195, mh146⟩ := zk_o3 mh146
                          unfold f_X12_binds at mh195
                          unfold B_X12_binds_0 at mh195
                          obtain ⟨mv196, mv197, mh198, mh195⟩ := zk_o2 mh195
                          obtain mq199 := bk12_e (hB12 hi) mh198
                          replace mq199 := mq199.symm
                          subst mq199
                          obtain ⟨mv200, mv201, mh202, mh195⟩ := zk_o2 mh195
                          unfold f_X12_isUnder at mh202
                          unfold B_X12_isUnder_0 at mh202
                          have mh202 := zk_f (by decide) mh202
                          have mh202 := zk_t rfl mh202
                          unfold B_X12_isUnder_40 at mh202
                          simp only [Option.some.injEq, Prod.mk.injEq] at mh202
                          obtain ⟨rfl, _⟩ := mh202
                          have mh195 := zk_f (by decide) mh195
                          obtain ⟨mv203, mv204, mh205, mh195⟩ := zk_o2 mh195
                          unfold f_X12_ran at mh205
                          unfold B_X12_ran_0 at mh205
                          have mh205 := zk_f (by decide) mh205
                          obtain ⟨_, mh205⟩ := zk_gd mh205
                          obtain ⟨mv206, me207, mh205⟩ := zk_lt mh205
                          subst me207
                          unfold B_X12_ran_19 at mh205
                          obtain ⟨mv208, me209, mh205⟩ := zk_lt mh205
                          subst me209
                          simp only [Option.some.injEq, Prod.mk.injEq] at mh205
                          obtain ⟨rfl, rfl⟩ := mh205
                          obtain ⟨mv210, mv211, mv212, mh213, mh195⟩ := zk_o3 mh195
                          unfold f_X12_plainBinds at mh213
                          unfold B_X12_plainBinds_0 at mh213
                          obtain ⟨mv214, mv215, mh216, mh213⟩ := zk_o2 mh213
                          unfold f_X12_ran at mh216
                          unfold B_X12_ran_0 at mh216
                          have mh216 := zk_f (by decide) mh216
                          obtain ⟨_, mh216⟩ := zk_gd mh216
                          obtain ⟨mv217, me218, mh216⟩ := zk_lt mh216
                          subst me218
                          unfold B_X12_ran_19 at mh216
                          obtain ⟨mv219, me220, mh216⟩ := zk_lt mh216
                          subst me220
                          simp only [Option.some.injEq, Prod.mk.injEq] at mh216
                          obtain ⟨rfl, rfl⟩ := mh216
                          simp only [Option.some.injEq, Prod.mk.injEq] at mh213
                          obtain ⟨rfl, rfl, rfl⟩ := mh213
                          simp only [Option.some.injEq, Prod.mk.injEq] at mh195
                          obtain ⟨rfl, rfl, rfl⟩ := mh195
                          simp only [Option.some.injEq, Prod.mk.injEq] at mh146
                          obtain ⟨rfl, rfl, rfl⟩ := mh146
                          simp only [Option.some.injEq, Prod.mk.injEq] at mh138
                          obtain ⟨rfl, rfl, rfl⟩ := mh138
                          replace h := Option.some.inj h
                          replace k := Option.some.inj k
                          subst h
                          subst k
                          try dsimp only
                          all_goals first
                          | (exfalso; omega)
                          | exact ⟨rfl, rfl, fun e => by first | exact e | rw [e]⟩
                          | exact ⟨rfl, rfl, fun e => by rw [e]; rfl⟩
                      · replace h := zk_f cc97 h
                        have cc97n := cc97
                        (try simp only [i32_lt, i32_le, i32_e, z32_0, z32_1, z32L_3] at cc97n)
                        first
                        | (exfalso; omega)
                        | have hi : x1.toNatClampNeg < court_suitCount.toInt.toNat := by rw [tcn]; omega
                          have ea : mod_askedMany x1.toNatClampNeg = S_askedCount x1.toNatClampNeg := (hA _ hi).symm
                          unfold B_X12_act_0 at k
                          replace k := zk_o2 k
                          obtain ⟨mv221, mv222, mh223, k⟩ := k
                          unfold f_X12_isSuit at mh223
                          unfold B_X12_isSuit_0 at mh223
                          obtain ⟨mv224, mv225, mh226, mh223⟩ := zk_o2 mh223
                          unfold f_X12_in at mh226
                          unfold B_X12_in_0 at mh226
                          have mh226 := zk_f cc4 mh226
                          have mh226 := zk_f (by (try simp only [i32_lt, i32_le, i32_e, z32_0, z32_1]); omega) mh226
                          simp only [Option.some.injEq, Prod.mk.injEq] at mh226
                          obtain ⟨rfl, _⟩ := mh226
                          obtain ⟨_, mh223⟩ := zk_gd mh223
                          simp only [Option.some.injEq, Prod.mk.injEq] at mh223
                          obtain ⟨rfl, _⟩ := mh223
                          replace k := zk_f (by decide) k
                          replace k := zk_o2 k
                          obtain ⟨mv227, mv228, mh229, k⟩ := k
                          unfold f_X12_in at mh229
                          unfold B_X12_in_0 at mh229
                          by_cases mc230 : x2 < (0 : Int32)
                          · have mh229 := zk_t mc230 mh229
                            have mc230n := mc230
                            (try simp only [i32_lt, i32_le, i32_e, z32_0, z32_1] at mc230n)
                            first
                            | (exfalso; omega)
                            | simp only [Option.some.injEq, Prod.mk.injEq] at mh229
                              obtain ⟨rfl, _⟩ := mh229
                              replace k := zk_t rfl k
                              replace h := Option.some.inj h
                              replace k := Option.some.inj k
                              subst h
                              subst k
                              try dsimp only
                              all_goals first
                              | (exfalso; omega)
                              | exact ⟨rfl, rfl, fun e => by first | exact e | rw [e]⟩
                              | exact ⟨rfl, rfl, fun e => by rw [e]; rfl⟩
                          · have mh229 := zk_f mc230 mh229
                            have mc230n := mc230
                            (try simp only [i32_lt, i32_le, i32_e, z32_0, z32_1] at mc230n)
                            first
                            | (exfalso; omega)
                            | by_cases mc231 : (3 : Int32) < x2
                              · have mh229 := zk_t mc231 mh229
                                have mc231n := mc231
                                (try simp only [i32_lt, i32_le, i32_e, z32_0, z32_1, z32L_3] at mc231n)
                                first
                                | (exfalso; omega)
                                | simp only [Option.some.injEq, Prod.mk.injEq] at mh229
                                  obtain ⟨rfl, _⟩ := mh229
                                  replace k := zk_t rfl k
                                  replace h := Option.some.inj h
                                  replace k := Option.some.inj k
                                  subst h
                                  subst k
                                  try dsimp only
                                  all_goals first
                                  | (exfalso; omega)
                                  | exact ⟨rfl, rfl, fun e => by first | exact e | rw [e]⟩
                                  | exact ⟨rfl, rfl, fun e => by rw [e]; rfl⟩
                              · have mh229 := zk_f mc231 mh229
                                have mc231n := mc231
                                (try simp only [i32_lt, i32_le, i32_e, z32_0, z32_1, z32L_3] at mc231n)
                                first
                                | (exfalso; omega)
                                | simp only [Option.some.injEq, Prod.mk.injEq] at mh229
                                  obtain ⟨rfl, _⟩ := mh229
                                  replace k := zk_f (by decide) k
                                  replace k := zk_f cc15 k
                                  replace k := zk_f cc34 k
                                  replace k := zk_f cc71 k
                                  replace k := zk_o3 k
                                  obtain ⟨mv232, mv233, mv234, mh235, k⟩ := k
                                  unfold f_X12_tells at mh235
                                  unfold B_X12_tells_0 at mh235
                                  obtain ⟨mv236, mv237, mh238, mh235⟩ := zk_o2 mh235
                                  obtain mq239 := bk12_e (hB12 hi) mh238
                                  replace mq239 := mq239.symm
                                  subst mq239
                                  have mh235 := zk_f (by decide) mh235
                                  obtain ⟨mv240, mv241, mv242, mh243, mh235⟩ := zk_o3 mh235
                                  unfold f_X12_plainTells at mh243
                                  unfold B_X12_plainTells_0 at mh243
                                  obtain ⟨mv244, mv245, mh246, mh243⟩ := zk_o2 mh243
                                  unfold f_X12_ran at mh246
                                  unfold B_X12_ran_0 at mh246
                                  have mh246 := zk_f (by decide) mh246
                                  obtain ⟨_, mh246⟩ := zk_gd mh246
                                  obtain ⟨mv247, me248, mh246⟩ := zk_lt mh246
                                  subst me248
                                  unfold B_X12_ran_19 at mh246
                                  obtain ⟨mv249, me250, mh246⟩ := zk_lt mh246
                                  subst me250
                                  simp only [Option.some.injEq, Prod.mk.injEq] at mh246
                                  obtain ⟨rfl, rfl⟩ := mh246
                                  obtain ⟨mv251, mv252, mv253, mh254, mh243⟩ := zk_o3 mh243
                                  unfold f_X12_settles at mh254
                                  unfold B_X12_settles_0 at mh254
                                  obtain ⟨mv255, mv256, mh257, mh254⟩ := zk_o2 mh254
                                  obtain mq258 := bk12_e (hB12 hi) mh257
                                  replace mq258 := mq258.symm
                                  subst mq258
                                  have mh254 := zk_f (by decide) mh254
                                  have mh254 := zk_f (by decide) mh254
                                  have mh254 := zk_f (by decide) mh254
                                  obtain ⟨mv259, mv260, mv261, mh262, mh254⟩ := zk_o3 mh254
                                  unfold f_X12_plainSettles at mh262
                                  unfold B_X12_plainSettles_0 at mh262
                                  obtain ⟨mv263, mv264, mh265, mh262⟩ := zk_o2 mh262
                                  unfold f_X12_ran at mh265
                                  unfold B_X12_ran_0 at mh265
                                  have mh265 := zk_f (by decide) mh265
                                  obtain ⟨_, mh265⟩ := zk_gd mh265
                                  obtain ⟨mv266, me267, mh265⟩ := zk_lt mh265
                                  subst me267
                                  unfold B_X12_ran_19 at mh265
                                  obtain ⟨mv268, me269, mh265⟩ := zk_lt mh265
                                  subst me269
                                  simp only [Option.some.injEq, Prod.mk.injEq] at mh265
                                  obtain ⟨rfl, rfl⟩ := mh265
                                  obtain ⟨mv270, mv271, mv272, mh273, mh262⟩ := zk_o3 mh262
                                  unfold f_X12_closes at mh273
                                  unfold B_X12_closes_0 at mh273
                                  rw [ea] at mh273
                                  obtain ⟨mv274, mv275, mh276, mh273⟩ := zk_o2 mh273
                                  obtain mq277 := bk12_e (hB12 hi) mh276
                                  replace mq277 := mq277.symm
                                  subst mq277
                                  have mh273 := zk_f (by decide) mh273
                                  have mh273 := zk_f (by decide) mh273
                                  have mh273 := zk_f (by decide) mh273
                                  have mh273 := zk_f (by decide) mh273
                                  obtain ⟨mv278, mv279, mv280, mh281, mh273⟩ := zk_o3 mh273
                                  unfold f_X12_plainCloses at mh281
                                  unfold B_X12_plainCloses_0 at mh281
                                  obtain ⟨mv282, mv283, mh284, mh281⟩ := zk_o2 mh281
                                  unfold f_X12_ran at mh284
                                  unfold B_X12_ran_0 at mh284
                                  have mh284 := zk_f (by decide) mh284
                                  obtain ⟨_, mh284⟩ := zk_gd mh284
                                  obtain ⟨mv285, me286, mh284⟩ := zk_lt mh284
                                  subst me286
                                  unfold B_X12_ran_19 at mh284
                                  obtain ⟨mv287, me288, mh284⟩ := zk_lt mh284
                                  subst me288
                                  simp only [Option.some.injEq, Prod.mk.injEq] at mh284
                                  obtain ⟨rfl, rfl⟩ := mh284
                                  simp only [Option.some.injEq, Prod.mk.injEq] at mh281
                                  obtain ⟨rfl, rfl, rfl⟩ := mh281
                                  simp only [Option.some.injEq, Prod.mk.injEq] at mh273
                                  obtain ⟨rfl, rfl, rfl⟩ := mh273
                                  simp only [Option.some.injEq, Prod.mk.injEq] at mh262
                                  obtain ⟨rfl, rfl, rfl⟩ := mh262
                                  simp only [Option.some.injEq, Prod.mk.injEq] at mh254
                                  obtain ⟨rfl, rfl, rfl⟩ := mh254
                                  obtain ⟨mv289, mv290, mv291, mh292, mh243⟩ := zk_o3 mh243
                                  unfold f_X12_binds at mh292
                                  unfold B_X12_binds_0 at mh292
                                  obtain ⟨mv293, mv294, mh295, mh292⟩ := zk_o2 mh292
                                  obtain mq296 := bk12_e (hB12 hi) mh295
                                  replace mq296 := mq296.symm
                                  subst mq296
                                  obtain ⟨mv297, mv298, mh299, mh292⟩ := zk_o2 mh292
                                  unfold f_X12_isUnder at mh299
                                  unfold B_X12_isUnder_0 at mh299
                                  have mh299 := zk_f (by decide) mh299
                                  have mh299 := zk_t rfl mh299
                                  unfold B_X12_isUnder_40 at mh299
                                  simp only [Option.some.injEq, Prod.mk.injEq] at mh299
                                  obtain ⟨rfl, _⟩ := mh299
                                  have mh292 := zk_f (by decide) mh292
                                  obtain ⟨mv300, mv301, mh302, mh292⟩ := zk_o2 mh292
                                  unfold f_X12_ran at mh302
                                  unfold B_X12_ran_0 at mh302
                                  have mh302 := zk_f (by decide) mh302
                                  obtain ⟨_, mh302⟩ := zk_gd mh302
                                  obtain ⟨mv303, me304, mh302⟩ := zk_lt mh302
                                  subst me304
                                  unfold B_X12_ran_19 at mh302
                                  obtain ⟨mv305, me306, mh302⟩ := zk_lt mh302
                                  subst me306
                                  simp only [Option.some.injEq, Prod.mk.injEq] at mh302
                                  obtain ⟨rfl, rfl⟩ := mh302
                                  obtain ⟨mv307, mv308, mv309, mh310, mh292⟩ := zk_o3 mh292
                                  unfold f_X12_plainBinds at mh310
                                  unfold B_X12_plainBinds_0 at mh310
                                  obtain ⟨mv311, mv312, mh313, mh310⟩ := zk_o2 mh310
                                  unfold f_X12_ran at mh313
                                  unfold B_X12_ran_0 at mh313
                                  have mh313 := zk_f (by decide) mh313
                                  obtain ⟨_, mh313⟩ := zk_gd mh313
                                  obtain ⟨mv314, me315, mh313⟩ := zk_lt mh313
                                  subst me315
                                  unfold B_X12_ran_19 at mh313
                                  obtain ⟨mv316, me317, mh313⟩ := zk_lt mh313
                                  subst me317
                                  simp only [Option.some.injEq, Prod.mk.injEq] at mh313
                                  obtain ⟨rfl, rfl⟩ := mh313
                                  simp only [Option.some.injEq, Prod.mk.injEq] at mh310
                                  obtain ⟨rfl, rfl, rfl⟩ := mh310
                                  simp only [Option.some.injEq, Prod.mk.injEq] at mh292
                                  obtain ⟨rfl, rfl, rfl⟩ := mh292
                                  simp only [Option.some.injEq, Prod.mk.injEq] at mh243
                                  obtain ⟨rfl, rfl, rfl⟩ := mh243
                                  simp only [Option.some.injEq, Prod.mk.injEq] at mh235
                                  obtain ⟨rfl, rfl, rfl⟩ := mh235
                                  replace h := Option.some.inj h
                                  replace k := Option.some.inj k
                                  subst h
                                  subst k
                                  try dsimp only
                                  all_goals first
                                  | (exfalso; omega)
                                  | exact ⟨rfl, rfl, fun e => by first | exact e | rw [e]⟩
                                  | exact ⟨rfl, rfl, fun e => by rw [e]; rfl⟩

set_option maxHeartbeats 4000000 in
set_option maxRecDepth 20000 in
theorem pw_act3 {mod_code : Int32} {court_shoeCount : Int32} {mod_claims : Int32} {ts : Int32} {at_ : Int32} {f : Int32} {court_suitCount : Int32} {mod_doneMany : Int32} {mod_undoneMany : Int32} {mod_open : Int32} {mod_laid : Int32} {mod_isBoth : Int32} {mod_wished : Int32} {mod_bestMany : Int32} {mod_bestRow : Int32} {mod_ringDigits : Int32} {mod_traces : Int32} {mod_askedMany : Nat → Int32} {mod_endKind : Nat → Int32} {mod_undoneFrom : Nat → Int32} {mod_traced : Nat → Int32} {court_claimCount : Int32} {court_suits : Nat → Option Nat} {S_who : Nat → Int32} {S_against : Nat → Int32} {S_kind : Nat → Int32} {S_won : Nat → Int32} {S_day : Nat → Int32} {S_land : Nat → Int32} {S_undoneFrom : Nat → Int32} {S_asked : Nat → Nat → Int32} {S_askedCount : Nat → Int32} {S_askedBits : Nat → Int32} {S_first : Nat → Int32} {S_foundSo : Nat → Int32} {S_foundNot : Nat → Int32} {S_fought : Nat → Int32} {S_needed : Nat → Int32} {acts_ran : Int32} {acts_kind : Int32} {acts_number : Int32} {acts_claims : Int32} {acts_bodies : Nat → Int32} {x1 x2 x3 : Int32} {R : Int32 × Int32 × Int32 × Int32 × Int32 × (Nat → Int32)} {Q : Int32 × Int32 × (Nat → Int32)} (hn : 0 ≤ court_suitCount.toInt ∧ court_suitCount.toInt ≤ 40) (hA : WU court_suitCount S_askedCount mod_askedMany) (hB8 : ((S_undoneFrom x1.toNatClampNeg).toInt < 0 ∧ S_kind x1.toNatClampNeg = (3 : Int32)) ∨ (0 ≤ (S_undoneFrom x1.toNatClampNeg).toInt ∧ (3 : Int32) = 5)) (hB12 : x1.toNatClampNeg < court_suitCount.toInt.toNat → ((mod_undoneFrom x1.toNatClampNeg).toInt < 0 ∧ mod_endKind x1.toNatClampNeg = (3 : Int32)) ∨ (0 ≤ (mod_undoneFrom x1.toNatClampNeg).toInt ∧ (3 : Int32) = 5)) (h : f_X11_act x1 x2 x3 court_shoeCount court_claimCount court_suitCount court_suits acts_ran acts_kind acts_number acts_claims acts_bodies S_who S_against S_kind S_won S_day S_land S_undoneFrom S_asked S_askedCount S_askedBits S_first S_foundSo S_foundNot S_fought S_needed = some R) (k : f_X12_act x1 x2 x3 mod_code court_shoeCount mod_claims ts at_ f court_suitCount mod_doneMany mod_undoneMany mod_open mod_laid mod_isBoth mod_wished mod_bestMany mod_bestRow mod_ringDigits mod_traces mod_endKind mod_undoneFrom mod_askedMany mod_traced = some Q) : R.1 = Q.1 ∧ R.2.1 = Q.2.1 ∧ (acts_bodies = mod_traced → R.2.2.2.2.2 = Q.2.2) := by
  have hn1 := i32_m1 (a := court_suitCount) (by omega)
  unfold f_X11_act at h
  unfold f_X12_act at k
  unfold B_X11_act_0 at h
  replace h := zk_o2 h
  obtain ⟨cv1, cv2, ch3, h⟩ := h
  unfold f_X2_suitAt at ch3
  unfold B_X2_suitAt_0 at ch3
  by_cases cc4 : x1 < 0
  · have ch3 := zk_t cc4 ch3
    have cc4n := cc4
    (try simp only [i32_lt, i32_le, i32_e, z32_0, z32_1] at cc4n)
    first
    | (exfalso; omega)
    | simp only [Option.some.injEq, Prod.mk.injEq] at ch3
      obtain ⟨rfl, _⟩ := ch3
      replace h := zk_t (by decide) h
      unfold B_X12_act_0 at k
      replace k := zk_o2 k
      obtain ⟨mv1, mv2, mh3, k⟩ := k
      unfold f_X12_isSuit at mh3
      unfold B_X12_isSuit_0 at mh3
      obtain ⟨mv4, mv5, mh6, mh3⟩ := zk_o2 mh3
      unfold f_X12_in at mh6
      unfold B_X12_in_0 at mh6
      have mh6 := zk_t cc4 mh6
      simp only [Option.some.injEq, Prod.mk.injEq] at mh6
      obtain ⟨rfl, _⟩ := mh6
      obtain ⟨_, mh3⟩ := zk_gd mh3
      simp only [Option.some.injEq, Prod.mk.injEq] at mh3
      obtain ⟨rfl, _⟩ := mh3
      replace k := zk_t rfl k
      replace h := Option.some.inj h
      replace k := Option.some.inj k
      subst h
      subst k
      try dsimp only
      all_goals first
      | (exfalso; omega)
      | exact ⟨rfl, rfl, fun e => by first | exact e | rw [e]⟩
      | exact ⟨rfl, rfl, fun e => by rw [e]; rfl⟩
  · have ch3 := zk_f cc4 ch3
    have cc4n := cc4
    (try simp only [i32_lt, i32_le, i32_e, z32_0, z32_1] at cc4n)
    first
    | (exfalso; omega)
    | by_cases cc5 : court_suitCount ≤ x1
      · have ch3 := zk_t cc5 ch3
        have cc5n := cc5
        (try simp only [i32_lt, i32_le, i32_e, z32_0, z32_1] at cc5n)
        first
        | (exfalso; omega)
        | simp only [Option.some.injEq, Prod.mk.injEq] at ch3
          obtain ⟨rfl, _⟩ := ch3
          replace h := zk_t (by decide) h
          unfold B_X12_act_0 at k
          replace k := zk_o2 k
          obtain ⟨mv7, mv8, mh9, k⟩ := k
          unfold f_X12_isSuit at mh9
          unfold B_X12_isSuit_0 at mh9
          obtain ⟨mv10, mv11, mh12, mh9⟩ := zk_o2 mh9
          unfold f_X12_in at mh12
          unfold B_X12_in_0 at mh12
          have mh12 := zk_f cc4 mh12
          have mh12 := zk_t (by (try simp only [i32_lt, i32_le, i32_e, z32_0, z32_1]); omega) mh12
          simp only [Option.some.injEq, Prod.mk.injEq] at mh12
          obtain ⟨rfl, _⟩ := mh12
          obtain ⟨_, mh9⟩ := zk_gd mh9
          simp only [Option.some.injEq, Prod.mk.injEq] at mh9
          obtain ⟨rfl, _⟩ := mh9
          replace k := zk_t rfl k
          replace h := Option.some.inj h
          replace k := Option.some.inj k
          subst h
          subst k
          try dsimp only
          all_goals first
          | (exfalso; omega)
          | exact ⟨rfl, rfl, fun e => by first | exact e | rw [e]⟩
          | exact ⟨rfl, rfl, fun e => by rw [e]; rfl⟩
      · have ch3 := zk_f cc5 ch3
        have cc5n := cc5
        (try simp only [i32_lt, i32_le, i32_e, z32_0, z32_1] at cc5n)
        first
        | (exfalso; omega)
        | obtain ⟨_, ch3⟩ := zk_gd ch3
          obtain ⟨_, ch3⟩ := zk_gd ch3
          obtain ⟨_, ch3⟩ := zk_gd ch3
          simp only [Option.some.injEq, Prod.mk.injEq] at ch3
          obtain ⟨rfl, _⟩ := ch3
          replace h := zk_f cc4 h
          replace h := zk_gd h
          obtain ⟨_, h⟩ := h
          replace h := zk_o2 h
          obtain ⟨cv6, cv7, ch8, h⟩ := h
          obtain cq9 := bk8_e hB8 ch8
          replace cq9 := cq9.symm
          subst cq9
          replace h := zk_gd h
          obtain ⟨_, h⟩ := h
          replace h := zk_o4 h
          obtain ⟨cv10, cv11, cv12, cv13, ch14, h⟩ := h
          unfold f_X0_begin at ch14
          unfold B_X0_begin_0 at ch14
          simp only [Option.some.injEq, Prod.mk.injEq] at ch14
          obtain ⟨rfl, rfl, rfl, rfl⟩ := ch14
          by_cases cc15 : x2 = (0 : Int32)
          · replace h := zk_t cc15 h
            have cc15n := cc15
            (try simp only [i32_lt, i32_le, i32_e, z32_0, z32_1] at cc15n)
            first
            | (exfalso; omega)
            | obtain ⟨cv16, cv17, cv18, ch19, h⟩ := zk_o3 h
              have ch19 : f_X0_closes (grp_grp138 6) (3 : Int32) x3 (0 : Int32) (3 : Int32) x1 (S_askedCount x1.toNatClampNeg) acts_bodies = some (cv16, cv17, cv18) := ch19
              unfold f_X0_closes at ch19
              unfold B_X0_closes_0 at ch19
              have ch19 := zk_f (by decide) ch19
              have ch19 := zk_f (by decide) ch19
              have ch19 := zk_t rfl ch19
              obtain ⟨cv20, cv21, ch22, ch19⟩ := zk_o2 ch19
              unfold f_X0_note at ch22
              unfold B_X0_note_0 at ch22
              have ch22 := zk_f (by decide) ch22
              obtain ⟨_, ch22⟩ := zk_gd ch22
              obtain ⟨cv23, ce24, ch22⟩ := zk_lt ch22
              subst ce24
              unfold B_X0_note_19 at ch22
              obtain ⟨cv25, ce26, ch22⟩ := zk_lt ch22
              subst ce26
              simp only [Option.some.injEq, Prod.mk.injEq] at ch22
              obtain ⟨rfl, rfl⟩ := ch22
              obtain ⟨cv27, cv28, ch29, ch19⟩ := zk_o2 ch19
              unfold f_X0_above at ch29
              unfold B_X0_above_0 at ch29
              have ch29 := zk_f (by decide) ch29
              have ch29 := zk_f (by decide) ch29
              have ch29 := zk_f (by decide) ch29
              simp only [Option.some.injEq, Prod.mk.injEq] at ch29
              obtain ⟨rfl, _⟩ := ch29
              obtain ⟨cv30, cv31, cv32, ch33, ch19⟩ := zk_o3 ch19
              have ch33 : f_X0_closes (grp_grp138 5) (0 : Int32) x3 ((0 : Int32) + (1 : Int32)) (3 : Int32) x1 (S_askedCount x1.toNatClampNeg) (upd acts_bodies (0 : Int32).toNatClampNeg (40 : Int32)) = some (cv30, cv31, cv32) := ch33
              unfold f_X0_closes at ch33
              unfold B_X0_closes_0 at ch33
              have ch33 := zk_f (by decide) ch33
              have ch33 := zk_f (by decide) ch33
              have ch33 := zk_f (by decide) ch33
              have ch33 := zk_f (by decide) ch33
              have ch33 := zk_f (by decide) ch33
              have ch33 := zk_f (by decide) ch33
              obtain ⟨cv34, cv35, ch36, ch33⟩ := zk_o2 ch33
              unfold f_X0_note at ch36
              unfold B_X0_note_0 at ch36
              have ch36 := zk_f (by decide) ch36
              obtain ⟨_, ch36⟩ := zk_gd ch36
              obtain ⟨cv37, ce38, ch36⟩ := zk_lt ch36
              subst ce38
              unfold B_X0_note_19 at ch36
              obtain ⟨cv39, ce40, ch36⟩ := zk_lt ch36
              subst ce40
              simp only [Option.some.injEq, Prod.mk.injEq] at ch36
              obtain ⟨rfl, rfl⟩ := ch36
              simp only [Option.some.injEq, Prod.mk.injEq] at ch33
              obtain ⟨rfl, rfl, rfl⟩ := ch33
              simp only [Option.some.injEq, Prod.mk.injEq] at ch19
              obtain ⟨rfl, rfl, rfl⟩ := ch19
              have hi : x1.toNatClampNeg < court_suitCount.toInt.toNat := by rw [tcn]; omega
              have ea : mod_askedMany x1.toNatClampNeg = S_askedCount x1.toNatClampNeg := (hA _ hi).symm
              unfold B_X12_act_0 at k
              replace k := zk_o2 k
              obtain ⟨mv13, mv14, mh15, k⟩ := k
              unfold f_X12_isSuit at mh15
              unfold B_X12_isSuit_0 at mh15
              obtain ⟨mv16, mv17, mh18, mh15⟩ := zk_o2 mh15
              unfold f_X12_in at mh18
              unfold B_X12_in_0 at mh18
              have mh18 := zk_f cc4 mh18
              have mh18 := zk_f (by (try simp only [i32_lt, i32_le, i32_e, z32_0, z32_1]); omega) mh18
              simp only [Option.some.injEq, Prod.mk.injEq] at mh18
              obtain ⟨rfl, _⟩ := mh18
              obtain ⟨_, mh15⟩ := zk_gd mh15
              simp only [Option.some.injEq, Prod.mk.injEq] at mh15
              obtain ⟨rfl, _⟩ := mh15
              replace k := zk_f (by decide) k
              replace k := zk_o2 k
              obtain ⟨mv19, mv20, mh21, k⟩ := k
              unfold f_X12_in at mh21
              unfold B_X12_in_0 at mh21
              have mh21 := zk_f (by (try simp only [i32_lt, i32_le, i32_e, z32_0, z32_1]); omega) mh21
              have mh21 := zk_f (by (try simp only [i32_lt, i32_le, i32_e, z32_0, z32_1, z32L_3]); omega) mh21
              simp only [Option.some.injEq, Prod.mk.injEq] at mh21
              obtain ⟨rfl, _⟩ := mh21
              replace k := zk_f (by decide) k
              replace k := zk_t cc15 k
              replace k := zk_o3 k
              obtain ⟨mv22, mv23, mv24, mh25, k⟩ := k
              unfold f_X12_closes at mh25
              unfold B_X12_closes_0 at mh25
              rw [ea] at mh25
              obtain ⟨mv26, mv27, mh28, mh25⟩ := zk_o2 mh25
              obtain mq29 := bk12_e (hB12 hi) mh28
              replace mq29 := mq29.symm
              subst mq29
              have mh25 := zk_t rfl mh25
              unfold B_X12_closes_16 at mh25
              obtain ⟨mv30, mv31, mh32, mh25⟩ := zk_o2 mh25
              unfold f_X12_ran at mh32
              unfold B_X12_ran_0 at mh32
              have mh32 := zk_f (by decide) mh32
              obtain ⟨_, mh32⟩ := zk_gd mh32
              obtain ⟨mv33, me34, mh32⟩ := zk_lt mh32
              subst me34
              unfold B_X12_ran_19 at mh32
              obtain ⟨mv35, me36, mh32⟩ := zk_lt mh32
              subst me36
              simp only [Option.some.injEq, Prod.mk.injEq] at mh32
              obtain ⟨rfl, rfl⟩ := mh32
              obtain ⟨mv37, mv38, mv39, mh40, mh25⟩ := zk_o3 mh25
              unfold f_X12_plainCloses at mh40
              unfold B_X12_plainCloses_0 at mh40
              obtain ⟨mv41, mv42, mh43, mh40⟩ := zk_o2 mh40
              unfold f_X12_ran at mh43
              unfold B_X12_ran_0 at mh43
              have mh43 := zk_f (by decide) mh43
              obtain ⟨_, mh43⟩ := zk_gd mh43
              obtain ⟨mv44, me45, mh43⟩ := zk_lt mh43
              subst me45
              unfold B_X12_ran_19 at mh43
              obtain ⟨mv46, me47, mh43⟩ := zk_lt mh43
              subst me47
              simp only [Option.some.injEq, Prod.mk.injEq] at mh43
              obtain ⟨rfl, rfl⟩ := mh43
              simp only [Option.some.injEq, Prod.mk.injEq] at mh40
              obtain ⟨rfl, rfl, rfl⟩ := mh40
              simp only [Option.some.injEq, Prod.mk.injEq] at mh25
              obtain ⟨rfl, rfl, rfl⟩ := mh25
              replace h := Option.some.inj h
              replace k := Option.some.inj k
              subst h
              subst k
              try dsimp only
              all_goals first
              | (exfalso; omega)
              | exact ⟨rfl, rfl, fun e => by first | exact e | rw [e]⟩
              | exact ⟨rfl, rfl, fun e => by rw [e]; rfl⟩
          · replace h := zk_f cc15 h
            have cc15n := cc15
            (try simp only [i32_lt, i32_le, i32_e, z32_0, z32_1] at cc15n)
            first
            | (exfalso; omega)
            | by_cases cc41 : x2 = (1 : Int32)
              · replace h := zk_t cc41 h
                have cc41n := cc41
                (try simp only [i32_lt, i32_le, i32_e, z32_0, z32_1] at cc41n)
                first
                | (exfalso; omega)
                | obtain ⟨cv42, cv43, cv44, ch45, h⟩ := zk_o3 h
                  have ch45 : f_X0_settles (grp_grp140 6) (3 : Int32) x3 (0 : Int32) (3 : Int32) x1 (S_askedCount x1.toNatClampNeg) acts_bodies = some (cv42, cv43, cv44) := ch45
                  unfold f_X0_settles at ch45
                  unfold B_X0_settles_0 at ch45
                  have ch45 := zk_f (by decide) ch45
                  have ch45 := zk_f (by decide) ch45
                  have ch45 := zk_t rfl ch45
                  obtain ⟨cv46, cv47, ch48, ch45⟩ := zk_o2 ch45
                  unfold f_X0_above at ch48
                  unfold B_X0_above_0 at ch48
                  have ch48 := zk_f (by decide) ch48
                  have ch48 := zk_f (by decide) ch48
                  have ch48 := zk_f (by decide) ch48
                  simp only [Option.some.injEq, Prod.mk.injEq] at ch48
                  obtain ⟨rfl, _⟩ := ch48
                  obtain ⟨cv49, cv50, cv51, ch52, ch45⟩ := zk_o3 ch45
                  have ch52 : f_X0_settles (grp_grp140 5) (0 : Int32) x3 (0 : Int32) (3 : Int32) x1 (S_askedCount x1.toNatClampNeg) acts_bodies = some (cv49, cv50, cv51) := ch52
                  unfold f_X0_settles at ch52
                  unfold B_X0_settles_0 at ch52
                  have ch52 := zk_f (by decide) ch52
                  have ch52 := zk_f (by decide) ch52
                  have ch52 := zk_f (by decide) ch52
                  have ch52 := zk_f (by decide) ch52
                  have ch52 := zk_f (by decide) ch52
                  have ch52 := zk_f (by decide) ch52
                  obtain ⟨cv53, cv54, ch55, ch52⟩ := zk_o2 ch52
                  unfold f_X0_note at ch55
                  unfold B_X0_note_0 at ch55
                  have ch55 := zk_f (by decide) ch55
                  obtain ⟨_, ch55⟩ := zk_gd ch55
                  obtain ⟨cv56, ce57, ch55⟩ := zk_lt ch55
                  subst ce57
                  unfold B_X0_note_19 at ch55
                  obtain ⟨cv58, ce59, ch55⟩ := zk_lt ch55
                  subst ce59
                  simp only [Option.some.injEq, Prod.mk.injEq] at ch55
                  obtain ⟨rfl, rfl⟩ := ch55
                  obtain ⟨cv60, cv61, cv62, ch63, ch52⟩ := zk_o3 ch52
                  have ch63 : f_X0_closes (grp_grp138 6) (3 : Int32) x3 ((0 : Int32) + (1 : Int32)) (3 : Int32) x1 (S_askedCount x1.toNatClampNeg) (upd acts_bodies (0 : Int32).toNatClampNeg (10 : Int32)) = some (cv60, cv61, cv62) := ch63
                  unfold f_X0_closes at ch63
                  unfold B_X0_closes_0 at ch63
                  have ch63 := zk_f (by decide) ch63
                  have ch63 := zk_f (by decide) ch63
                  have ch63 := zk_t rfl ch63
                  obtain ⟨cv64, cv65, ch66, ch63⟩ := zk_o2 ch63
                  unfold f_X0_note at ch66
                  unfold B_X0_note_0 at ch66
                  have ch66 := zk_f (by decide) ch66
                  obtain ⟨_, ch66⟩ := zk_gd ch66
                  obtain ⟨cv67, ce68, ch66⟩ := zk_lt ch66
                  subst ce68
                  unfold B_X0_note_19 at ch66
                  obtain ⟨cv69, ce70, ch66⟩ := zk_lt ch66
                  subst ce70
                  simp only [Option.some.injEq, Prod.mk.injEq] at ch66
                  obtain ⟨rfl, rfl⟩ := ch66
                  obtain ⟨cv71, cv72, ch73, ch63⟩ := zk_o2 ch63
                  unfold f_X0_above at ch73
                  unfold B_X0_above_0 at ch73
                  have ch73 := zk_f (by decide) ch73
                  have ch73 := zk_f (by decide) ch73
                  have ch73 := zk_f (by decide) ch73
                  simp only [Option.some.injEq, Prod.mk.injEq] at ch73
                  obtain ⟨rfl, _⟩ := ch73
                  obtain ⟨cv74, cv75, cv76, ch77, ch63⟩ := zk_o3 ch63
                  have ch77 : f_X0_closes (grp_grp138 5) (0 : Int32) x3 (((0 : Int32) + (1 : Int32)) + (1 : Int32)) (3 : Int32) x1 (S_askedCount x1.toNatClampNeg) (upd (upd acts_bodies (0 : Int32).toNatClampNeg (10 : Int32)) ((0 : Int32) + (1 : Int32)).toNatClampNeg (40 : Int32)) = some (cv74, cv75, cv76) := ch77
                  unfold f_X0_closes at ch77
                  unfold B_X0_closes_0 at ch77
                  have ch77 := zk_f (by decide) ch77
                  have ch77 := zk_f (by decide) ch77
                  have ch77 := zk_f (by decide) ch77
                  have ch77 := zk_f (by decide) ch77
                  have ch77 := zk_f (by decide) ch77
                  have ch77 := zk_f (by decide) ch77
                  obtain ⟨cv78, cv79, ch80, ch77⟩ := zk_o2 ch77
                  unfold f_X0_note at ch80
                  unfold B_X0_note_0 at ch80
                  have ch80 := zk_f (by decide) ch80
                  obtain ⟨_, ch80⟩ := zk_gd ch80
                  obtain ⟨cv81, ce82, ch80⟩ := zk_lt ch80
                  subst ce82
                  unfold B_X0_note_19 at ch80
                  obtain ⟨cv83, ce84, ch80⟩ := zk_lt ch80
                  subst ce84
                  simp only [Option.some.injEq, Prod.mk.injEq] at ch80
                  obtain ⟨rfl, rfl⟩ := ch80
                  simp only [Option.some.injEq, Prod.mk.injEq] at ch77
                  obtain ⟨rfl, rfl, rfl⟩ := ch77
                  simp only [Option.some.injEq, Prod.mk.injEq] at ch63
                  obtain ⟨rfl, rfl, rfl⟩ := ch63
                  simp only [Option.some.injEq, Prod.mk.injEq] at ch52
                  obtain ⟨rfl, rfl, rfl⟩ := ch52
                  simp only [Option.some.injEq, Prod.mk.injEq] at ch45
                  obtain ⟨rfl, rfl, rfl⟩ := ch45
                  have hi : x1.toNatClampNeg < court_suitCount.toInt.toNat := by rw [tcn]; omega
                  have ea : mod_askedMany x1.toNatClampNeg = S_askedCount x1.toNatClampNeg := (hA _ hi).symm
                  unfold B_X12_act_0 at k
                  replace k := zk_o2 k
                  obtain ⟨mv48, mv49, mh50, k⟩ := k
                  unfold f_X12_isSuit at mh50
                  unfold B_X12_isSuit_0 at mh50
                  obtain ⟨mv51, mv52, mh53, mh50⟩ := zk_o2 mh50
                  unfold f_X12_in at mh53
                  unfold B_X12_in_0 at mh53
                  have mh53 := zk_f cc4 mh53
                  have mh53 := zk_f (by (try simp only [i32_lt, i32_le, i32_e, z32_0, z32_1]); omega) mh53
                  simp only [Option.some.injEq, Prod.mk.injEq] at mh53
                  obtain ⟨rfl, _⟩ := mh53
                  obtain ⟨_, mh50⟩ := zk_gd mh50
                  simp only [Option.some.injEq, Prod.mk.injEq] at mh50
                  obtain ⟨rfl, _⟩ := mh50
                  replace k := zk_f (by decide) k
                  replace k := zk_o2 k
                  obtain ⟨mv54, mv55, mh56, k⟩ := k
                  unfold f_X12_in at mh56
                  unfold B_X12_in_0 at mh56
                  have mh56 := zk_f (by (try simp only [i32_lt, i32_le, i32_e, z32_0, z32_1]); omega) mh56
                  have mh56 := zk_f (by (try simp only [i32_lt, i32_le, i32_e, z32_0, z32_1, z32L_3]); omega) mh56
                  simp only [Option.some.injEq, Prod.mk.injEq] at mh56
                  obtain ⟨rfl, _⟩ := mh56
                  replace k := zk_f (by decide) k
                  replace k := zk_f cc15 k
                  replace k := zk_t cc41 k
                  replace k := zk_o3 k
                  obtain ⟨mv57, mv58, mv59, mh60, k⟩ := k
                  unfold f_X12_settles at mh60
                  unfold B_X12_settles_0 at mh60
                  obtain ⟨mv61, mv62, mh63, mh60⟩ := zk_o2 mh60
                  obtain mq64 := bk12_e (hB12 hi) mh63
                  replace mq64 := mq64.symm
                  subst mq64
                  have mh60 := zk_f (by decide) mh60
                  have mh60 := zk_f (by decide) mh60
                  have mh60 := zk_f (by decide) mh60
                  obtain ⟨mv65, mv66, mv67, mh68, mh60⟩ := zk_o3 mh60
                  unfold f_X12_plainSettles at mh68
                  unfold B_X12_plainSettles_0 at mh68
                  obtain ⟨mv69, mv70, mh71, mh68⟩ := zk_o2 mh68
                  unfold f_X12_ran at mh71
                  unfold B_X12_ran_0 at mh71
                  have mh71 := zk_f (by decide) mh71
                  obtain ⟨_, mh71⟩ := zk_gd mh71
                  obtain ⟨mv72, me73, mh71⟩ := zk_lt mh71
                  subst me73
                  unfold B_X12_ran_19 at mh71
                  obtain ⟨mv74, me75, mh71⟩ := zk_lt mh71
                  subst me75
                  simp only [Option.some.injEq, Prod.mk.injEq] at mh71
                  obtain ⟨rfl, rfl⟩ := mh71
                  obtain ⟨mv76, mv77, mv78, mh79, mh68⟩ := zk_o3 mh68
                  unfold f_X12_closes at mh79
                  unfold B_X12_closes_0 at mh79
                  rw [ea] at mh79
                  obtain ⟨mv80, mv81, mh82, mh79⟩ := zk_o2 mh79
                  obtain mq83 := bk12_e (hB12 hi) mh82
                  replace mq83 := mq83.symm
                  subst mq83
                  have mh79 := zk_t rfl mh79
                  unfold B_X12_closes_16 at mh79
                  obtain ⟨mv84, mv85, mh86, mh79⟩ := zk_o2 mh79
                  unfold f_X12_ran at mh86
                  unfold B_X12_ran_0 at mh86
                  have mh86 := zk_f (by decide) mh86
                  obtain ⟨_, mh86⟩ := zk_gd mh86
                  obtain ⟨mv87, me88, mh86⟩ := zk_lt mh86
                  subst me88
                  unfold B_X12_ran_19 at mh86
                  obtain ⟨mv89, me90, mh86⟩ := zk_lt mh86
                  subst me90
                  simp only [Option.some.injEq, Prod.mk.injEq] at mh86
                  obtain ⟨rfl, rfl⟩ := mh86
                  obtain ⟨mv91, mv92, mv93, mh94, mh79⟩ := zk_o3 mh79
                  unfold f_X12_plainCloses at mh94
                  unfold B_X12_plainCloses_0 at mh94
                  obtain ⟨mv95, mv96, mh97, mh94⟩ := zk_o2 mh94
                  unfold f_X12_ran at mh97
                  unfold B_X12_ran_0 at mh97
                  have mh97 := zk_f (by decide) mh97
                  obtain ⟨_, mh97⟩ := zk_gd mh97
                  obtain ⟨mv98, me99, mh97⟩ := zk_lt mh97
                  subst me99
                  unfold B_X12_ran_19 at mh97
                  obtain ⟨mv100, me101, mh97⟩ := zk_lt mh97
                  subst me101
                  simp only [Option.some.injEq, Prod.mk.injEq] at mh97
                  obtain ⟨rfl, rfl⟩ := mh97
                  simp only [Option.some.injEq, Prod.mk.injEq] at mh94
                  obtain ⟨rfl, rfl, rfl⟩ := mh94
                  simp only [Option.some.injEq, Prod.mk.injEq] at mh79
                  obtain ⟨rfl, rfl, rfl⟩ := mh79
                  simp only [Option.some.injEq, Prod.mk.injEq] at mh68
                  obtain ⟨rfl, rfl, rfl⟩ := mh68
                  simp only [Option.some.injEq, Prod.mk.injEq] at mh60
                  obtain ⟨rfl, rfl, rfl⟩ := mh60
                  replace h := Option.some.inj h
                  replace k := Option.some.inj k
                  subst h
                  subst k
                  try dsimp only
                  all_goals first
                  | (exfalso; omega)
                  | exact ⟨rfl, rfl, fun e => by first | exact e | rw [e]⟩
                  | exact ⟨rfl, rfl, fun e => by rw [e]; rfl⟩
              · replace h := zk_f cc41 h
                have cc41n := cc41
                (try simp only [i32_lt, i32_le, i32_e, z32_0, z32_1] at cc41n)
                first
                | (exfalso; omega)
                | by_cases cc85 : x2 = (2 : Int32)
                  · replace h := zk_t cc85 h
                    have cc85n := cc85
                    (try simp only [i32_lt, i32_le, i32_e, z32_0, z32_1, z32L_2] at cc85n)
                    first
                    | (exfalso; omega)
                    | obtain ⟨cv86, cv87, cv88, ch89, h⟩ := zk_o3 h
                      have ch89 : f_X0_binds (grp_grp139 6) (3 : Int32) x3 (0 : Int32) (3 : Int32) x1 (S_askedCount x1.toNatClampNeg) acts_bodies = some (cv86, cv87, cv88) := ch89
                      unfold f_X0_binds at ch89
                      unfold B_X0_binds_0 at ch89
                      have ch89 := zk_f (by decide) ch89
                      have ch89 := zk_f (by decide) ch89
                      obtain ⟨cv90, cv91, ch92, ch89⟩ := zk_o2 ch89
                      unfold f_X0_above at ch92
                      unfold B_X0_above_0 at ch92
                      have ch92 := zk_f (by decide) ch92
                      have ch92 := zk_f (by decide) ch92
                      have ch92 := zk_f (by decide) ch92
                      simp only [Option.some.injEq, Prod.mk.injEq] at ch92
                      obtain ⟨rfl, _⟩ := ch92
                      obtain ⟨cv93, cv94, cv95, ch96, ch89⟩ := zk_o3 ch89
                      have ch96 : f_X0_binds (grp_grp139 5) (0 : Int32) x3 (0 : Int32) (3 : Int32) x1 (S_askedCount x1.toNatClampNeg) acts_bodies = some (cv93, cv94, cv95) := ch96
                      unfold f_X0_binds at ch96
                      unfold B_X0_binds_0 at ch96
                      have ch96 := zk_f (by decide) ch96
                      have ch96 := zk_t (Int32.le_refl _) ch96
                      obtain ⟨cv97, cv98, ch99, ch96⟩ := zk_o2 ch96
                      unfold f_X0_note at ch99
                      unfold B_X0_note_0 at ch99
                      have ch99 := zk_f (by decide) ch99
                      obtain ⟨_, ch99⟩ := zk_gd ch99
                      obtain ⟨cv100, ce101, ch99⟩ := zk_lt ch99
                      subst ce101
                      unfold B_X0_note_19 at ch99
                      obtain ⟨cv102, ce103, ch99⟩ := zk_lt ch99
                      subst ce103
                      simp only [Option.some.injEq, Prod.mk.injEq] at ch99
                      obtain ⟨rfl, rfl⟩ := ch99
                      simp only [Option.some.injEq, Prod.mk.injEq] at ch96
                      obtain ⟨rfl, rfl, rfl⟩ := ch96
                      simp only [Option.some.injEq, Prod.mk.injEq] at ch89
                      obtain ⟨rfl, rfl, rfl⟩ := ch89
                      have hi : x1.toNatClampNeg < court_suitCount.toInt.toNat := by rw [tcn]; omega
                      have ea : mod_askedMany x1.toNatClampNeg = S_askedCount x1.toNatClampNeg := (hA _ hi).symm
                      unfold B_X12_act_0 at k
                      replace k := zk_o2 k
                      obtain ⟨mv102, mv103, mh104, k⟩ := k
                      unfold f_X12_isSuit at mh104
                      unfold B_X12_isSuit_0 at mh104
                      obtain ⟨mv105, mv106, mh107, mh104⟩ := zk_o2 mh104
                      unfold f_X12_in at mh107
                      unfold B_X12_in_0 at mh107
                      have mh107 := zk_f cc4 mh107
                      have mh107 := zk_f (by (try simp only [i32_lt, i32_le, i32_e, z32_0, z32_1]); omega) mh107
                      simp only [Option.some.injEq, Prod.mk.injEq] at mh107
                      obtain ⟨rfl, _⟩ := mh107
                      obtain ⟨_, mh104⟩ := zk_gd mh104
                      simp only [Option.some.injEq, Prod.mk.injEq] at mh104
                      obtain ⟨rfl, _⟩ := mh104
                      replace k := zk_f (by decide) k
                      replace k := zk_o2 k
                      obtain ⟨mv108, mv109, mh110, k⟩ := k
                      unfold f_X12_in at mh110
                      unfold B_X12_in_0 at mh110
                      have mh110 := zk_f (by (try simp only [i32_lt, i32_le, i32_e, z32_0, z32_1]); omega) mh110
                      have mh110 := zk_f (by (try simp only [i32_lt, i32_le, i32_e, z32_0, z32_1, z32L_3]); omega) mh110
                      simp only [Option.some.injEq, Prod.mk.injEq] at mh110
                      obtain ⟨rfl, _⟩ := mh110
                      replace k := zk_f (by decide) k
                      replace k := zk_f cc15 k
                      replace k := zk_f cc41 k
                      replace k := zk_t cc85 k
                      replace k := zk_o3 k
                      obtain ⟨mv111, mv112, mv113, mh114, k⟩ := k
                      unfold f_X12_binds at mh114
                      unfold B_X12_binds_0 at mh114
                      obtain ⟨mv115, mv116, mh117, mh114⟩ := zk_o2 mh114
                      obtain mq118 := bk12_e (hB12 hi) mh117
                      replace mq118 := mq118.symm
                      subst mq118
                      obtain ⟨mv119, mv120, mh121, mh114⟩ := zk_o2 mh114
                      unfold f_X12_isUnder at mh121
                      unfold B_X12_isUnder_0 at mh121
                      have mh121 := zk_f (by decide) mh121
                      have mh121 := zk_f (by decide) mh121
                      have mh121 := zk_f (by decide) mh121
                      unfold B_X12_isUnder_19 at mh121
                      have mh121 := zk_t rfl mh121
                      have mh121 := zk_f (by decide) mh121
                      unfold B_X12_isUnder_29 at mh121
                      have mh121 := zk_f (by decide) mh121
                      simp only [Option.some.injEq, Prod.mk.injEq] at mh121
                      obtain ⟨rfl, _⟩ := mh121
                      have mh114 := zk_t rfl mh114
                      obtain ⟨mv122, mv123, mv124, mh125, mh114⟩ := zk_o3 mh114
                      unfold f_X12_plainBinds at mh125
                      unfold B_X12_plainBinds_0 at mh125
                      obtain ⟨mv126, mv127, mh128, mh125⟩ := zk_o2 mh125
                      unfold f_X12_ran at mh128
                      unfold B_X12_ran_0 at mh128
                      have mh128 := zk_f (by decide) mh128
                      obtain ⟨_, mh128⟩ := zk_gd mh128
                      obtain ⟨mv129, me130, mh128⟩ := zk_lt mh128
                      subst me130
                      unfold B_X12_ran_19 at mh128
                      obtain ⟨mv131, me132, mh128⟩ := zk_lt mh128
                      subst me132
                      simp only [Option.some.injEq, Prod.mk.injEq] at mh128
                      obtain ⟨rfl, rfl⟩ := mh128
                      simp only [Option.some.injEq, Prod.mk.injEq] at mh125
                      obtain ⟨rfl, rfl, rfl⟩ := mh125
                      simp only [Option.some.injEq, Prod.mk.injEq] at mh114
                      obtain ⟨rfl, rfl, rfl⟩ := mh114
                      replace h := Option.some.inj h
                      replace k := Option.some.inj k
                      subst h
                      subst k
                      try dsimp only
                      all_goals first
                      | (exfalso; omega)
                      | exact ⟨rfl, rfl, fun e => by first | exact e | rw [e]⟩
                      | exact ⟨rfl, rfl, fun e => by rw [e]; rfl⟩
                  · replace h := zk_f cc85 h
                    have cc85n := cc85
                    (try simp only [i32_lt, i32_le, i32_e, z32_0, z32_1, z32L_2] at cc85n)
                    first
                    | (exfalso; omega)
                    | by_cases cc104 : x2 = (3 : Int32)
                      · replace h := zk_t cc104 h
                        have cc104n := cc104
                        (try simp only [i32_lt, i32_le, i32_e, z32_0, z32_1, z32L_3] at cc104n)
                        first
                        | (exfalso; omega)
                        | obtain ⟨cv105, cv106, cv107, ch108, h⟩ := zk_o3 h
                          have ch108 : f_X0_tells (grp_grp141 6) (3 : Int32) x3 (0 : Int32) (3 : Int32) x1 (S_askedCount x1.toNatClampNeg) acts_bodies = some (cv105, cv106, cv107) := ch108
                          unfold f_X0_tells at ch108
                          unfold B_X0_tells_0 at ch108
                          have ch108 := zk_f (by decide) ch108
                          have ch108 := zk_f (by decide) ch108
                          obtain ⟨cv109, cv110, ch111, ch108⟩ := zk_o2 ch108
                          unfold f_X0_above at ch111
                          unfold B_X0_above_0 at ch111
                          have ch111 := zk_f (by decide) ch111
                          have ch111 := zk_f (by decide) ch111
                          have ch111 := zk_f (by decide) ch111
                          simp only [Option.some.injEq, Prod.mk.injEq] at ch111
                          obtain ⟨rfl, _⟩ := ch111
                          obtain ⟨cv112, cv113, cv114, ch115, ch108⟩ := zk_o3 ch108
                          have ch115 : f_X0_tells (grp_grp141 5) (0 : Int32) x3 (0 : Int32) (3 : Int32) x1 (S_askedCount x1.toNatClampNeg) acts_bodies = some (cv112, cv113, cv114) := ch115
                          unfold f_X0_tells at ch115
                          unfold B_X0_tells_0 at ch115
                          have ch115 := zk_f (by decide) ch115
                          have ch115 := zk_t (Int32.le_refl _) ch115
                          obtain ⟨cv116, cv117, ch118, ch115⟩ := zk_o2 ch115
                          unfold f_X0_note at ch118
                          unfold B_X0_note_0 at ch118
                          have ch118 := zk_f (by decide) ch118
                          obtain ⟨_, ch118⟩ := zk_gd ch118
                          obtain ⟨cv119, ce120, ch118⟩ := zk_lt ch118
                          subst ce120
                          unfold B_X0_note_19 at ch118
                          obtain ⟨cv121, ce122, ch118⟩ := zk_lt ch118
                          subst ce122
                          simp only [Option.some.injEq, Prod.mk.injEq] at ch118
                          obtain ⟨rfl, rfl⟩ := ch118
                          obtain ⟨cv123, cv124, cv125, ch126, ch115⟩ := zk_o3 ch115
                          have ch126 : f_X0_settles (grp_grp140 6) (3 : Int32) x3 ((0 : Int32) + (1 : Int32)) (3 : Int32) x1 (S_askedCount x1.toNatClampNeg) (upd acts_bodies (0 : Int32).toNatClampNeg (2 : Int32)) = some (cv123, cv124, cv125) := ch126
                          unfold f_X0_settles at ch126
                          unfold B_X0_settles_0 at ch126
                          have ch126 := zk_f (by decide) ch126
                          have ch126 := zk_f (by decide) ch126
                          have ch126 := zk_t rfl ch126
                          obtain ⟨cv127, cv128, ch129, ch126⟩ := zk_o2 ch126
                          unfold f_X0_above at ch129
                          unfold B_X0_above_0 at ch129
                          have ch129 := zk_f (by decide) ch129
                          have ch129 := zk_f (by decide) ch129
                          have ch129 := zk_f (by decide) ch129
                          simp only [Option.some.injEq, Prod.mk.injEq] at ch129
                          obtain ⟨rfl, _⟩ := ch129
                          obtain ⟨cv130, cv131, cv132, ch133, ch126⟩ := zk_o3 ch126
                          have ch133 : f_X0_settles (grp_grp140 5) (0 : Int32) x3 ((0 : Int32) + (1 : Int32)) (3 : Int32) x1 (S_askedCount x1.toNatClampNeg) (upd acts_bodies (0 : Int32).toNatClampNeg (2 : Int32)) = some (cv130, cv131, cv132) := ch133
                          unfold f_X0_settles at ch133
                          unfold B_X0_settles_0 at ch133
                          have ch133 := zk_f (by decide) ch133
                          have ch133 := zk_f (by decide) ch133
                          have ch133 := zk_f (by decide) ch133
                          have ch133 := zk_f (by decide) ch133
                          have ch133 := zk_f (by decide) ch133
                          have ch133 := zk_f (by decide) ch133
                          obtain ⟨cv134, cv135, ch136, ch133⟩ := zk_o2 ch133
                          unfold f_X0_note at ch136
                          unfold B_X0_note_0 at ch136
                          have ch136 := zk_f (by decide) ch136
                          obtain ⟨_, ch136⟩ := zk_gd ch136
                          obtain ⟨cv137, ce138, ch136⟩ := zk_lt ch136
                          subst ce138
                          unfold B_X0_note_19 at ch136
                          obtain ⟨cv139, ce140, ch136⟩ := zk_lt ch136
                          subst ce140
                          simp only [Option.some.injEq, Prod.mk.injEq] at ch136
                          obtain ⟨rfl, rfl⟩ := ch136
                          obtain ⟨cv141, cv142, cv143, ch144, ch133⟩ := zk_o3 ch133
                          have ch144 : f_X0_closes (grp_grp138 6) (3 : Int32) x3 (((0 : Int32) + (1 : Int32)) + (1 : Int32)) (3 : Int32) x1 (S_askedCount x1.toNatClampNeg) (upd (upd acts_bodies (0 : Int32).toNatClampNeg (2 : Int32)) ((0 : Int32) + (1 : Int32)).toNatClampNeg (10 : Int32)) = some (cv141, cv142, cv143) := ch144
                          unfold f_X0_closes at ch144
                          unfold B_X0_closes_0 at ch144
                          have ch144 := zk_f (by decide) ch144
                          have ch144 := zk_f (by decide) ch144
                          have ch144 := zk_t rfl ch144
                          obtain ⟨cv145, cv146, ch147, ch144⟩ := zk_o2 ch144
                          unfold f_X0_note at ch147
                          unfold B_X0_note_0 at ch147
                          have ch147 := zk_f (by decide) ch147
                          obtain ⟨_, ch147⟩ := zk_gd ch147
                          obtain ⟨cv148, ce149, ch147⟩ := zk_lt ch147
                          subst ce149
                          unfold B_X0_note_19 at ch147
                          obtain ⟨cv150, ce151, ch147⟩ := zk_lt ch147
                          subst ce151
                          simp only [Option.some.injEq, Prod.mk.injEq] at ch147
                          obtain ⟨rfl, rfl⟩ := ch147
                          obtain ⟨cv152, cv153, ch154, ch144⟩ := zk_o2 ch144
                          unfold f_X0_above at ch154
                          unfold B_X0_above_0 at ch154
                          have ch154 := zk_f (by decide) ch154
                          have ch154 := zk_f (by decide) ch154
                          have ch154 := zk_f (by decide) ch154
                          simp only [Option.some.injEq, Prod.mk.injEq] at ch154
                          obtain ⟨rfl, _⟩ := ch154
                          obtain ⟨cv155, cv156, cv157, ch158, ch144⟩ := zk_o3 ch144
                          have ch158 : f_X0_closes (grp_grp138 5) (0 : Int32) x3 ((((0 : Int32) + (1 : Int32)) + (1 : Int32)) + (1 : Int32)) (3 : Int32) x1 (S_askedCount x1.toNatClampNeg) (upd (upd (upd acts_bodies (0 : Int32).toNatClampNeg (2 : Int32)) ((0 : Int32) + (1 : Int32)).toNatClampNeg (10 : Int32)) (((0 : Int32) + (1 : Int32)) + (1 : Int32)).toNatClampNeg (40 : Int32)) = some (cv155, cv156, cv157) := ch158
                          unfold f_X0_closes at ch158
                          unfold B_X0_closes_0 at ch158
                          have ch158 := zk_f (by decide) ch158
                          have ch158 := zk_f (by decide) ch158
                          have ch158 := zk_f (by decide) ch158
                          have ch158 := zk_f (by decide) ch158
                          have ch158 := zk_f (by decide) ch158
                          have ch158 := zk_f (by decide) ch158
                          obtain ⟨cv159, cv160, ch161, ch158⟩ := zk_o2 ch158
                          unfold f_X0_note at ch161
                          unfold B_X0_note_0 at ch161
                          have ch161 := zk_f (by decide) ch161
                          obtain ⟨_, ch161⟩ := zk_gd ch161
                          obtain ⟨cv162, ce163, ch161⟩ := zk_lt ch161
                          subst ce163
                          unfold B_X0_note_19 at ch161
                          obtain ⟨cv164, ce165, ch161⟩ := zk_lt ch161
                          subst ce165
                          simp only [Option.some.injEq, Prod.mk.injEq] at ch161
                          obtain ⟨rfl, rfl⟩ := ch161
                          simp only [Option.some.injEq, Prod.mk.injEq] at ch158
                          obtain ⟨rfl, rfl, rfl⟩ := ch158
                          simp only [Option.some.injEq, Prod.mk.injEq] at ch144
                          obtain ⟨rfl, rfl, rfl⟩ := ch144
                          simp only [Option.some.injEq, Prod.mk.injEq] at ch133
                          obtain ⟨rfl, rfl, rfl⟩ := ch133
                          simp only [Option.some.injEq, Prod.mk.injEq] at ch126
                          obtain ⟨rfl, rfl, rfl⟩ := ch126
                          obtain ⟨cv166, cv167, cv168, ch169, ch115⟩ := zk_o3 ch115
                          have ch169 : f_X0_binds (grp_grp139 6) (3 : Int32) (1 : Int32) (((((0 : Int32) + (1 : Int32)) + (1 : Int32)) + (1 : Int32)) + (1 : Int32)) (3 : Int32) x1 (S_askedCount x1.toNatClampNeg) (upd (upd (upd (upd acts_bodies (0 : Int32).toNatClampNeg (2 : Int32)) ((0 : Int32) + (1 : Int32)).toNatClampNeg (10 : Int32)) (((0 : Int32) + (1 : Int32)) + (1 : Int32)).toNatClampNeg (40 : Int32)) ((((0 : Int32) + (1 : Int32)) + (1 : Int32)) + (1 : Int32)).toNatClampNeg (1 : Int32)) = some (cv166, cv167, cv168) := ch169
                          unfold f_X0_binds at ch169
                          unfold B_X0_binds_0 at ch169
                          have ch169 := zk_f (by decide) ch169
                          have ch169 := zk_f (by decide) ch169
                          obtain ⟨cv170, cv171, ch172, ch169⟩ := zk_o2 ch169
                          unfold f_X0_above at ch172
                          unfold B_X0_above_0 at ch172
                          have ch172 := zk_f (by decide) ch172
                          have ch172 := zk_f (by decide) ch172
                          have ch172 := zk_f (by decide) ch172
                          simp only [Option.some.injEq, Prod.mk.injEq] at ch172
                          obtain ⟨rfl, _⟩ := ch172
                          obtain ⟨cv173, cv174, cv175, ch176, ch169⟩ := zk_o3 ch169
                          have ch176 : f_X0_binds (grp_grp139 5) (0 : Int32) (1 : Int32) (((((0 : Int32) + (1 : Int32)) + (1 : Int32)) + (1 : Int32)) + (1 : Int32)) (3 : Int32) x1 (S_askedCount x1.toNatClampNeg) (upd (upd (upd (upd acts_bodies (0 : Int32).toNatClampNeg (2 : Int32)) ((0 : Int32) + (1 : Int32)).toNatClampNeg (10 : Int32)) (((0 : Int32) + (1 : Int32)) + (1 : Int32)).toNatClampNeg (40 : Int32)) ((((0 : Int32) + (1 : Int32)) + (1 : Int32)) + (1 : Int32)).toNatClampNeg (1 : Int32)) = some (cv173, cv174, cv175) := ch176
                          unfold f_X0_binds at ch176
                          unfold B_X0_binds_0 at ch176
                          have ch176 := zk_f (by decide) ch176
                          have ch176 := zk_t (Int32.le_refl _) ch176
                          obtain ⟨cv177, cv178, ch179, ch176⟩ := zk_o2 ch176
                          unfold f_X0_note at ch179
                          unfold B_X0_note_0 at ch179
                          have ch179 := zk_f (by decide) ch179
                          obtain ⟨_, ch179⟩ := zk_gd ch179
                          obtain ⟨cv180, ce181, ch179⟩ := zk_lt ch179
                          subst ce181
                          unfold B_X0_note_19 at ch179
                          obtain ⟨cv182, ce183, ch179⟩ := zk_lt ch179
                          subst ce183
                          simp only [Option.some.injEq, Prod.mk.injEq] at ch179
                          obtain ⟨rfl, rfl⟩ := ch179
                          simp only [Option.some.injEq, Prod.mk.injEq] at ch176
                          obtain ⟨rfl, rfl, rfl⟩ := ch176
                          simp only [Option.some.injEq, Prod.mk.injEq] at ch169
                          obtain ⟨rfl, rfl, rfl⟩ := ch169
                          simp only [Option.some.injEq, Prod.mk.injEq] at ch115
                          obtain ⟨rfl, rfl, rfl⟩ := ch115
                          simp only [Option.some.injEq, Prod.mk.injEq] at ch108
                          obtain ⟨rfl, rfl, rfl⟩ := ch108
                          have hi : x1.toNatClampNeg < court_suitCount.toInt.toNat := by rw [tcn]; omega
                          have ea : mod_askedMany x1.toNatClampNeg = S_askedCount x1.toNatClampNeg := (hA _ hi).symm
                          unfold B_X12_act_0 at k
                          replace k := zk_o2 k
                          obtain ⟨mv133, mv134, mh135, k⟩ := k
                          unfold f_X12_isSuit at mh135
                          unfold B_X12_isSuit_0 at mh135
                          obtain ⟨mv136, mv137, mh138, mh135⟩ := zk_o2 mh135
                          unfold f_X12_in at mh138
                          unfold B_X12_in_0 at mh138
                          have mh138 := zk_f cc4 mh138
                          have mh138 := zk_f (by (try simp only [i32_lt, i32_le, i32_e, z32_0, z32_1]); omega) mh138
                          simp only [Option.some.injEq, Prod.mk.injEq] at mh138
                          obtain ⟨rfl, _⟩ := mh138
                          obtain ⟨_, mh135⟩ := zk_gd mh135
                          simp only [Option.some.injEq, Prod.mk.injEq] at mh135
                          obtain ⟨rfl, _⟩ := mh135
                          replace k := zk_f (by decide) k
                          replace k := zk_o2 k
                          obtain ⟨mv139, mv140, mh141, k⟩ := k
                          unfold f_X12_in at mh141
                          unfold B_X12_in_0 at mh141
                          have mh141 := zk_f (by (try simp only [i32_lt, i32_le, i32_e, z32_0, z32_1]); omega) mh141
                          have mh141 := zk_f (by (try simp only [i32_lt, i32_le, i32_e, z32_0, z32_1, z32L_3]); omega) mh141
                          simp only [Option.some.injEq, Prod.mk.injEq] at mh141
                          obtain ⟨rfl, _⟩ := mh141
                          replace k := zk_f (by decide) k
                          replace k := zk_f cc15 k
                          replace k := zk_f cc41 k
                          replace k := zk_f cc85 k
                          replace k := zk_o3 k
                          obtain ⟨mv142, mv143, mv144, mh145, k⟩ := k
                          unfold f_X12_tells at mh145
                          unfold B_X12_tells_0 at mh145
                          obtain ⟨mv146, mv147, mh148, mh145⟩ := zk_o2 mh145
                          obtain mq149 := bk12_e (hB12 hi) mh148
                          replace mq149 := mq149.symm
                          subst mq149
                          have mh145 := zk_f (by decide) mh145
                          obtain ⟨mv150, mv151, mv152, mh153, mh145⟩ := zk_o3 mh145
                          unfold f_X12_plainTells at mh153
                          unfold B_X12_plainTells_0 at mh153
                          obtain ⟨mv154, mv155, mh156, mh153⟩ := zk_o2 mh153
                          unfold f_X12_ran at mh156
                          unfold B_X12_ran_0 at mh156
                          have mh156 := zk_f (by decide) mh156
                          obtain ⟨_, mh156⟩ := zk_gd mh156
                          obtain ⟨mv157, me158, mh156⟩ := zk_lt mh156
                          subst me158
                          unfold B_X12_ran_19 at mh156
                          obtain ⟨mv159, me160, mh156⟩ := zk_lt mh156
                          subst me160
                          simp only [Option.some.injEq, Prod.mk.injEq] at mh156
                          obtain ⟨rfl, rfl⟩ := mh156
                          obtain ⟨mv161, mv162, mv163, mh164, mh153⟩ := zk_o3 mh153
                          unfold f_X12_settles at mh164
                          unfold B_X12_settles_0 at mh164
                          obtain ⟨mv165, mv166, mh167, mh164⟩ := zk_o2 mh164
                          obtain mq168 := bk12_e (hB12 hi) mh167
                          replace mq168 := mq168.symm
                          subst mq168
                          have mh164 := zk_f (by decide) mh164
                          have mh164 := zk_f (by decide) mh164
                          have mh164 := zk_f (by decide) mh164
                          obtain ⟨mv169, mv170, mv171, mh172, mh164⟩ := zk_o3 mh164
                          unfold f_X12_plainSettles at mh172
                          unfold B_X12_plainSettles_0 at mh172
                          obtain ⟨mv173, mv174, mh175, mh172⟩ := zk_o2 mh172
                          unfold f_X12_ran at mh175
                          unfold B_X12_ran_0 at mh175
                          have mh175 := zk_f (by decide) mh175
                          obtain ⟨_, mh175⟩ := zk_gd mh175
                          obtain ⟨mv176, me177, mh175⟩ := zk_lt mh175
                          subst me177
                          unfold B_X12_ran_19 at mh175
                          obtain ⟨mv178, me179, mh175⟩ := zk_lt mh175
                          subst me179
                          simp only [Option.some.injEq, Prod.mk.injEq] at mh175
                          obtain ⟨rfl, rfl⟩ := mh175
                          obtain ⟨mv180, mv181, mv182, mh183, mh172⟩ := zk_o3 mh172
                          unfold f_X12_closes at mh183
                          unfold B_X12_closes_0 at mh183
                          rw [ea] at mh183
                          obtain ⟨mv184, mv185, mh186, mh183⟩ := zk_o2 mh183
                          obtain mq187 := bk12_e (hB12 hi) mh186
                          replace mq187 := mq187.symm
                          subst mq187
                          have mh183 := zk_t rfl mh183
                          unfold B_X12_closes_16 at mh183
                          obtain ⟨mv188, mv189, mh190, mh183⟩ := zk_o2 mh183
                          unfold f_X12_ran at mh190
                          unfold B_X12_ran_0 at mh190
                          have mh190 := zk_f (by decide) mh190
                          obtain ⟨_, mh190⟩ := zk_gd mh190
                          obtain ⟨mv191, me192, mh190⟩ := zk_lt mh190
                          subst me192
                          unfold B_X12_ran_19 at mh190
                          obtain ⟨mv193, me194, mh190⟩ := zk_lt mh190
                          subst me194
                          simp only [Option.some.injEq, Prod.mk.injEq] at mh190
                          obtain ⟨rfl, rfl⟩ := mh190
                          obtain ⟨mv195, mv196, mv197, mh198, mh183⟩ := zk_o3 mh183
                          unfold f_X12_plainCloses at mh198
                          unfold B_X12_plainCloses_0 at mh198
                          obtain ⟨mv199, mv200, mh201, mh198⟩ := zk_o2 mh198
                          unfold f_X12_ran at mh201
                          unfold B_X12_ran_0 at mh201
                          have mh201 := zk_f (by decide) mh201
                          obtain ⟨_, mh201⟩ := zk_gd mh201
                          obtain ⟨mv202, me203, mh201⟩ := zk_lt mh201
                          subst me203
                          unfold B_X12_ran_19 at mh201
                          obtain ⟨mv204, me205, mh201⟩ := zk_lt mh201
                          subst me205
                          simp only [Option.some.injEq, Prod.mk.injEq] at mh201
                          obtain ⟨rfl, rfl⟩ := mh201
                          simp only [Option.some.injEq, Prod.mk.injEq] at mh198
                          obtain ⟨rfl, rfl, rfl⟩ := mh198
                          simp only [Option.some.injEq, Prod.mk.injEq] at mh183
                          obtain ⟨rfl, rfl, rfl⟩ := mh183
                          simp only [Option.some.injEq, Prod.mk.injEq] at mh172
                          obtain ⟨rfl, rfl, rfl⟩ := mh172
                          simp only [Option.some.injEq, Prod.mk.injEq] at mh164
                          obtain ⟨rfl, rfl, rfl⟩ := mh164
                          obtain ⟨mv206, mv207, mv208, mh209, mh153⟩ := zk_o3 mh153
                          unfold f_X12_binds at mh209
                          unfold B_X12_binds_0 at mh209
                          obtain ⟨mv210, mv211, mh212, mh209⟩ := zk_o2 mh209
                          obtain mq213 := bk12_e (hB12 hi) mh212
                          replace mq213 := mq213.symm
                          subst mq213
                          obtain ⟨mv214, mv215, mh216, mh209⟩ := zk_o2 mh209
                          unfold f_X12_isUnder at mh216
                          unfold B_X12_isUnder_0 at mh216
                          have mh216 := zk_f (by decide) mh216
                          have mh216 := zk_f (by decide) mh216
                          have mh216 := zk_f (by decide) mh216
                          unfold B_X12_isUnder_19 at mh216
                          have mh216 := zk_t rfl mh216
                          have mh216 := zk_f (by decide) mh216
                          unfold B_X12_isUnder_29 at mh216
                          have mh216 := zk_f (by decide) mh216
                          simp only [Option.some.injEq, Prod.mk.injEq] at mh216
                          obtain ⟨rfl, _⟩ := mh216
                          have mh209 := zk_t rfl mh209
                          obtain ⟨mv217, mv218, mv219, mh220, mh209⟩ := zk_o3 mh209
                          unfold f_X12_plainBinds at mh220
                          unfold B_X12_plainBinds_0 at mh220
                          obtain ⟨mv221, mv222, mh223, mh220⟩ := zk_o2 mh220
                          unfold f_X12_ran at mh223
                          unfold B_X12_ran_0 at mh223
                          have mh223 := zk_f (by decide) mh223
                          obtain ⟨_, mh223⟩ := zk_gd mh223
                          obtain ⟨mv224, me225, mh223⟩ := zk_lt mh223
                          subst me225
                          unfold B_X12_ran_19 at mh223
                          obtain ⟨mv226, me227, mh223⟩ := zk_lt mh223
                          subst me227
                          simp only [Option.some.injEq, Prod.mk.injEq] at mh223
                          obtain ⟨rfl, rfl⟩ := mh223
                          simp only [Option.some.injEq, Prod.mk.injEq] at mh220
                          obtain ⟨rfl, rfl, rfl⟩ := mh220
                          simp only [Option.some.injEq, Prod.mk.injEq] at mh209
                          obtain ⟨rfl, rfl, rfl⟩ := mh209
                          simp only [Option.some.injEq, Prod.mk.injEq] at mh153
                          obtain ⟨rfl, rfl, rfl⟩ := mh153
                          simp only [Option.some.injEq, Prod.mk.injEq] at mh145
                          obtain ⟨rfl, rfl, rfl⟩ := mh145
                          replace h := Option.some.inj h
                          replace k := Option.some.inj k
                          subst h
                          subst k
                          try dsimp only
                          all_goals first
                          | (exfalso; omega)
                          | exact ⟨rfl, rfl, fun e => by first | exact e | rw [e]⟩
                          | exact ⟨rfl, rfl, fun e => by rw [e]; rfl⟩
                      · replace h := zk_f cc104 h
                        have cc104n := cc104
                        (try simp only [i32_lt, i32_le, i32_e, z32_0, z32_1, z32L_3] at cc104n)
                        first
                        | (exfalso; omega)
                        | have hi : x1.toNatClampNeg < court_suitCount.toInt.toNat := by rw [tcn]; omega
                          have ea : mod_askedMany x1.toNatClampNeg = S_askedCount x1.toNatClampNeg := (hA _ hi).symm
                          unfold B_X12_act_0 at k
                          replace k := zk_o2 k
                          obtain ⟨mv228, mv229, mh230, k⟩ := k
                          unfold f_X12_isSuit at mh230
                          unfold B_X12_isSuit_0 at mh230
                          obtain ⟨mv231, mv232, mh233, mh230⟩ := zk_o2 mh230
                          unfold f_X12_in at mh233
                          unfold B_X12_in_0 at mh233
                          have mh233 := zk_f cc4 mh233
                          have mh233 := zk_f (by (try simp only [i32_lt, i32_le, i32_e, z32_0, z32_1]); omega) mh233
                          simp only [Option.some.injEq, Prod.mk.injEq] at mh233
                          obtain ⟨rfl, _⟩ := mh233
                          obtain ⟨_, mh230⟩ := zk_gd mh230
                          simp only [Option.some.injEq, Prod.mk.injEq] at mh230
                          obtain ⟨rfl, _⟩ := mh230
                          replace k := zk_f (by decide) k
                          replace k := zk_o2 k
                          obtain ⟨mv234, mv235, mh236, k⟩ := k
                          unfold f_X12_in at mh236
                          unfold B_X12_in_0 at mh236
                          by_cases mc237 : x2 < (0 : Int32)
                          · have mh236 := zk_t mc237 mh236
                            have mc237n := mc237
                            (try simp only [i32_lt, i32_le, i32_e, z32_0, z32_1] at mc237n)
                            first
                            | (exfalso; omega)
                            | simp only [Option.some.injEq, Prod.mk.injEq] at mh236
                              obtain ⟨rfl, _⟩ := mh236
                              replace k := zk_t rfl k
                              replace h := Option.some.inj h
                              replace k := Option.some.inj k
                              subst h
                              subst k
                              try dsimp only
                              all_goals first
                              | (exfalso; omega)
                              | exact ⟨rfl, rfl, fun e => by first | exact e | rw [e]⟩
                              | exact ⟨rfl, rfl, fun e => by rw [e]; rfl⟩
                          · have mh236 := zk_f mc237 mh236
                            have mc237n := mc237
                            (try simp only [i32_lt, i32_le, i32_e, z32_0, z32_1] at mc237n)
                            first
                            | (exfalso; omega)
                            | by_cases mc238 : (3 : Int32) < x2
                              · have mh236 := zk_t mc238 mh236
                                have mc238n := mc238
                                (try simp only [i32_lt, i32_le, i32_e, z32_0, z32_1, z32L_3] at mc238n)
                                first
                                | (exfalso; omega)
                                | simp only [Option.some.injEq, Prod.mk.injEq] at mh236
                                  obtain ⟨rfl, _⟩ := mh236
                                  replace k := zk_t rfl k
                                  replace h := Option.some.inj h
                                  replace k := Option.some.inj k
                                  subst h
                                  subst k
                                  try dsimp only
                                  all_goals first
                                  | (exfalso; omega)
                                  | exact ⟨rfl, rfl, fun e => by first | exact e | rw [e]⟩
                                  | exact ⟨rfl, rfl, fun e => by rw [e]; rfl⟩
                              · have mh236 := zk_f mc238 mh236
                                have mc238n := mc238
                                (try simp only [i32_lt, i32_le, i32_e, z32_0, z32_1, z32L_3] at mc238n)
                                first
                                | (exfalso; omega)
                                | simp only [Option.some.injEq, Prod.mk.injEq] at mh236
                                  obtain ⟨rfl, _⟩ := mh236
                                  replace k := zk_f (by decide) k
                                  replace k := zk_f cc15 k
                                  replace k := zk_f cc41 k
                                  replace k := zk_f cc85 k
                                  replace k := zk_o3 k
                                  obtain ⟨mv239, mv240, mv241, mh242, k⟩ := k
                                  unfold f_X12_tells at mh242
                                  unfold B_X12_tells_0 at mh242
                                  obtain ⟨mv243, mv244, mh245, mh242⟩ := zk_o2 mh242
                                  obtain mq246 := bk12_e (hB12 hi) mh245
                                  replace mq246 := mq246.symm
                                  subst mq246
                                  have mh242 := zk_f (by decide) mh242
                                  obtain ⟨mv247, mv248, mv249, mh250, mh242⟩ := zk_o3 mh242
                                  unfold f_X12_plainTells at mh250
                                  unfold B_X12_plainTells_0 at mh250
                                  obtain ⟨mv251, mv252, mh253, mh250⟩ := zk_o2 mh250
                                  unfold f_X12_ran at mh253
                                  unfold B_X12_ran_0 at mh253
                                  have mh253 := zk_f (by decide) mh253
                                  obtain ⟨_, mh253⟩ := zk_gd mh253
                                  obtain ⟨mv254, me255, mh253⟩ := zk_lt mh253
                                  subst me255
                                  unfold B_X12_ran_19 at mh253
                                  obtain ⟨mv256, me257, mh253⟩ := zk_lt mh253
                                  subst me257
                                  simp only [Option.some.injEq, Prod.mk.injEq] at mh253
                                  obtain ⟨rfl, rfl⟩ := mh253
                                  obtain ⟨mv258, mv259, mv260, mh261, mh250⟩ := zk_o3 mh250
                                  unfold f_X12_settles at mh261
                                  unfold B_X12_settles_0 at mh261
                                  obtain ⟨mv262, mv263, mh264, mh261⟩ := zk_o2 mh261
                                  obtain mq265 := bk12_e (hB12 hi) mh264
                                  replace mq265 := mq265.symm
                                  subst mq265
                                  have mh261 := zk_f (by decide) mh261
                                  have mh261 := zk_f (by decide) mh261
                                  have mh261 := zk_f (by decide) mh261
                                  obtain ⟨mv266, mv267, mv268, mh269, mh261⟩ := zk_o3 mh261
                                  unfold f_X12_plainSettles at mh269
                                  unfold B_X12_plainSettles_0 at mh269
                                  obtain ⟨mv270, mv271, mh272, mh269⟩ := zk_o2 mh269
                                  unfold f_X12_ran at mh272
                                  unfold B_X12_ran_0 at mh272
                                  have mh272 := zk_f (by decide) mh272
                                  obtain ⟨_, mh272⟩ := zk_gd mh272
                                  obtain ⟨mv273, me274, mh272⟩ := zk_lt mh272
                                  subst me274
                                  unfold B_X12_ran_19 at mh272
                                  obtain ⟨mv275, me276, mh272⟩ := zk_lt mh272
                                  subst me276
                                  simp only [Option.some.injEq, Prod.mk.injEq] at mh272
                                  obtain ⟨rfl, rfl⟩ := mh272
                                  obtain ⟨mv277, mv278, mv279, mh280, mh269⟩ := zk_o3 mh269
                                  unfold f_X12_closes at mh280
                                  unfold B_X12_closes_0 at mh280
                                  rw [ea] at mh280
                                  obtain ⟨mv281, mv282, mh283, mh280⟩ := zk_o2 mh280
                                  obtain mq284 := bk12_e (hB12 hi) mh283
                                  replace mq284 := mq284.symm
                                  subst mq284
                                  have mh280 := zk_t rfl mh280
                                  unfold B_X12_closes_16 at mh280
                                  obtain ⟨mv285, mv286, mh287, mh280⟩ := zk_o2 mh280
                                  unfold f_X12_ran at mh287
                                  unfold B_X12_ran_0 at mh287
                                  have mh287 := zk_f (by decide) mh287
                                  obtain ⟨_, mh287⟩ := zk_gd mh287
                                  obtain ⟨mv288, me289, mh287⟩ := zk_lt mh287
                                  subst me289
                                  unfold B_X12_ran_19 at mh287
                                  obtain ⟨mv290, me291, mh287⟩ := zk_lt mh287
                                  subst me291
                                  simp only [Option.some.injEq, Prod.mk.injEq] at mh287
                                  obtain ⟨rfl, rfl⟩ := mh287
                                  obtain ⟨mv292, mv293, mv294, mh295, mh280⟩ := zk_o3 mh280
                                  unfold f_X12_plainCloses at mh295
                                  unfold B_X12_plainCloses_0 at mh295
                                  obtain ⟨mv296, mv297, mh298, mh295⟩ := zk_o2 mh295
                                  unfold f_X12_ran at mh298
                                  unfold B_X12_ran_0 at mh298
                                  have mh298 := zk_f (by decide) mh298
                                  obtain ⟨_, mh298⟩ := zk_gd mh298
                                  obtain ⟨mv299, me300, mh298⟩ := zk_lt mh298
                                  subst me300
                                  unfold B_X12_ran_19 at mh298
                                  obtain ⟨mv301, me302, mh298⟩ := zk_lt mh298
                                  subst me302
                                  simp only [Option.some.injEq, Prod.mk.injEq] at mh298
                                  obtain ⟨rfl, rfl⟩ := mh298
                                  simp only [Option.some.injEq, Prod.mk.injEq] at mh295
                                  obtain ⟨rfl, rfl, rfl⟩ := mh295
                                  simp only [Option.some.injEq, Prod.mk.injEq] at mh280
                                  obtain ⟨rfl, rfl, rfl⟩ := mh280
                                  simp only [Option.some.injEq, Prod.mk.injEq] at mh269
                                  obtain ⟨rfl, rfl, rfl⟩ := mh269
                                  simp only [Option.some.injEq, Prod.mk.injEq] at mh261
                                  obtain ⟨rfl, rfl, rfl⟩ := mh261
                                  obtain ⟨mv303, mv304, mv305, mh306, mh250⟩ := zk_o3 mh250
                                  unfold f_X12_binds at mh306
                                  unfold B_X12_binds_0 at mh306
                                  obtain ⟨mv307, mv308, mh309, mh306⟩ := zk_o2 mh306
                                  obtain mq310 := bk12_e (hB12 hi) mh309
                                  replace mq310 := mq310.symm
                                  subst mq310
                                  obtain ⟨mv311, mv312, mh313, mh306⟩ := zk_o2 mh306
                                  unfold f_X12_isUnder at mh313
                                  unfold B_X12_isUnder_0 at mh313
                                  have mh313 := zk_f (by decide) mh313
                                  have mh313 := zk_f (by decide) mh313
                                  have mh313 := zk_f (by decide) mh313
                                  unfold B_X12_isUnder_19 at mh313
                                  have mh313 := zk_t rfl mh313
                                  have mh313 := zk_f (by decide) mh313
                                  unfold B_X12_isUnder_29 at mh313
                                  have mh313 := zk_f (by decide) mh313
                                  simp only [Option.some.injEq, Prod.mk.injEq] at mh313
                                  obtain ⟨rfl, _⟩ := mh313
                                  have mh306 := zk_t rfl mh306
                                  obtain ⟨mv314, mv315, mv316, mh317, mh306⟩ := zk_o3 mh306
                                  unfold f_X12_plainBinds at mh317
                                  unfold B_X12_plainBinds_0 at mh317
                                  obtain ⟨mv318, mv319, mh320, mh317⟩ := zk_o2 mh317
                                  unfold f_X12_ran at mh320
                                  unfold B_X12_ran_0 at mh320
                                  have mh320 := zk_f (by decide) mh320
                                  obtain ⟨_, mh320⟩ := zk_gd mh320
                                  obtain ⟨mv321, me322, mh320⟩ := zk_lt mh320
                                  subst me322
                                  unfold B_X12_ran_19 at mh320
                                  obtain ⟨mv323, me324, mh320⟩ := zk_lt mh320
                                  subst me324
                                  simp only [Option.some.injEq, Prod.mk.injEq] at mh320
                                  obtain ⟨rfl, rfl⟩ := mh320
                                  simp only [Option.some.injEq, Prod.mk.injEq] at mh317
                                  obtain ⟨rfl, rfl, rfl⟩ := mh317
                                  simp only [Option.some.injEq, Prod.mk.injEq] at mh306
                                  obtain ⟨rfl, rfl, rfl⟩ := mh306
                                  simp only [Option.some.injEq, Prod.mk.injEq] at mh250
                                  obtain ⟨rfl, rfl, rfl⟩ := mh250
                                  simp only [Option.some.injEq, Prod.mk.injEq] at mh242
                                  obtain ⟨rfl, rfl, rfl⟩ := mh242
                                  replace h := Option.some.inj h
                                  replace k := Option.some.inj k
                                  subst h
                                  subst k
                                  try dsimp only
                                  all_goals first
                                  | (exfalso; omega)
                                  | exact ⟨rfl, rfl, fun e => by first | exact e | rw [e]⟩
                                  | exact ⟨rfl, rfl, fun e => by rw [e]; rfl⟩

set_option maxHeartbeats 4000000 in
set_option maxRecDepth 20000 in
theorem pw_act4 {mod_code : Int32} {court_shoeCount : Int32} {mod_claims : Int32} {ts : Int32} {at_ : Int32} {f : Int32} {court_suitCount : Int32} {mod_doneMany : Int32} {mod_undoneMany : Int32} {mod_open : Int32} {mod_laid : Int32} {mod_isBoth : Int32} {mod_wished : Int32} {mod_bestMany : Int32} {mod_bestRow : Int32} {mod_ringDigits : Int32} {mod_traces : Int32} {mod_askedMany : Nat → Int32} {mod_endKind : Nat → Int32} {mod_undoneFrom : Nat → Int32} {mod_traced : Nat → Int32} {court_claimCount : Int32} {court_suits : Nat → Option Nat} {S_who : Nat → Int32} {S_against : Nat → Int32} {S_kind : Nat → Int32} {S_won : Nat → Int32} {S_day : Nat → Int32} {S_land : Nat → Int32} {S_undoneFrom : Nat → Int32} {S_asked : Nat → Nat → Int32} {S_askedCount : Nat → Int32} {S_askedBits : Nat → Int32} {S_first : Nat → Int32} {S_foundSo : Nat → Int32} {S_foundNot : Nat → Int32} {S_fought : Nat → Int32} {S_needed : Nat → Int32} {acts_ran : Int32} {acts_kind : Int32} {acts_number : Int32} {acts_claims : Int32} {acts_bodies : Nat → Int32} {x1 x2 x3 : Int32} {R : Int32 × Int32 × Int32 × Int32 × Int32 × (Nat → Int32)} {Q : Int32 × Int32 × (Nat → Int32)} (hn : 0 ≤ court_suitCount.toInt ∧ court_suitCount.toInt ≤ 40) (hA : WU court_suitCount S_askedCount mod_askedMany) (hB8 : ((S_undoneFrom x1.toNatClampNeg).toInt < 0 ∧ S_kind x1.toNatClampNeg = (4 : Int32)) ∨ (0 ≤ (S_undoneFrom x1.toNatClampNeg).toInt ∧ (4 : Int32) = 5)) (hB12 : x1.toNatClampNeg < court_suitCount.toInt.toNat → ((mod_undoneFrom x1.toNatClampNeg).toInt < 0 ∧ mod_endKind x1.toNatClampNeg = (4 : Int32)) ∨ (0 ≤ (mod_undoneFrom x1.toNatClampNeg).toInt ∧ (4 : Int32) = 5)) (h : f_X11_act x1 x2 x3 court_shoeCount court_claimCount court_suitCount court_suits acts_ran acts_kind acts_number acts_claims acts_bodies S_who S_against S_kind S_won S_day S_land S_undoneFrom S_asked S_askedCount S_askedBits S_first S_foundSo S_foundNot S_fought S_needed = some R) (k : f_X12_act x1 x2 x3 mod_code court_shoeCount mod_claims ts at_ f court_suitCount mod_doneMany mod_undoneMany mod_open mod_laid mod_isBoth mod_wished mod_bestMany mod_bestRow mod_ringDigits mod_traces mod_endKind mod_undoneFrom mod_askedMany mod_traced = some Q) : R.1 = Q.1 ∧ R.2.1 = Q.2.1 ∧ (acts_bodies = mod_traced → R.2.2.2.2.2 = Q.2.2) := by
  have hn1 := i32_m1 (a := court_suitCount) (by omega)
  unfold f_X11_act at h
  unfold f_X12_act at k
  unfold B_X11_act_0 at h
  replace h := zk_o2 h
  obtain ⟨cv1, cv2, ch3, h⟩ := h
  unfold f_X2_suitAt at ch3
  unfold B_X2_suitAt_0 at ch3
  by_cases cc4 : x1 < 0
  · have ch3 := zk_t cc4 ch3
    have cc4n := cc4
    (try simp only [i32_lt, i32_le, i32_e, z32_0, z32_1] at cc4n)
    first
    | (exfalso; omega)
    | simp only [Option.some.injEq, Prod.mk.injEq] at ch3
      obtain ⟨rfl, _⟩ := ch3
      replace h := zk_t (by decide) h
      unfold B_X12_act_0 at k
      replace k := zk_o2 k
      obtain ⟨mv1, mv2, mh3, k⟩ := k
      unfold f_X12_isSuit at mh3
      unfold B_X12_isSuit_0 at mh3
      obtain ⟨mv4, mv5, mh6, mh3⟩ := zk_o2 mh3
      unfold f_X12_in at mh6
      unfold B_X12_in_0 at mh6
      have mh6 := zk_t cc4 mh6
      simp only [Option.some.injEq, Prod.mk.injEq] at mh6
      obtain ⟨rfl, _⟩ := mh6
      obtain ⟨_, mh3⟩ := zk_gd mh3
      simp only [Option.some.injEq, Prod.mk.injEq] at mh3
      obtain ⟨rfl, _⟩ := mh3
      replace k := zk_t rfl k
      replace h := Option.some.inj h
      replace k := Option.some.inj k
      subst h
      subst k
      try dsimp only
      all_goals first
      | (exfalso; omega)
      | exact ⟨rfl, rfl, fun e => by first | exact e | rw [e]⟩
      | exact ⟨rfl, rfl, fun e => by rw [e]; rfl⟩
  · have ch3 := zk_f cc4 ch3
    have cc4n := cc4
    (try simp only [i32_lt, i32_le, i32_e, z32_0, z32_1] at cc4n)
    first
    | (exfalso; omega)
    | by_cases cc5 : court_suitCount ≤ x1
      · have ch3 := zk_t cc5 ch3
        have cc5n := cc5
        (try simp only [i32_lt, i32_le, i32_e, z32_0, z32_1] at cc5n)
        first
        | (exfalso; omega)
        | simp only [Option.some.injEq, Prod.mk.injEq] at ch3
          obtain ⟨rfl, _⟩ := ch3
          replace h := zk_t (by decide) h
          unfold B_X12_act_0 at k
          replace k := zk_o2 k
          obtain ⟨mv7, mv8, mh9, k⟩ := k
          unfold f_X12_isSuit at mh9
          unfold B_X12_isSuit_0 at mh9
          obtain ⟨mv10, mv11, mh12, mh9⟩ := zk_o2 mh9
          unfold f_X12_in at mh12
          unfold B_X12_in_0 at mh12
          have mh12 := zk_f cc4 mh12
          have mh12 := zk_t (by (try simp only [i32_lt, i32_le, i32_e, z32_0, z32_1]); omega) mh12
          simp only [Option.some.injEq, Prod.mk.injEq] at mh12
          obtain ⟨rfl, _⟩ := mh12
          obtain ⟨_, mh9⟩ := zk_gd mh9
          simp only [Option.some.injEq, Prod.mk.injEq] at mh9
          obtain ⟨rfl, _⟩ := mh9
          replace k := zk_t rfl k
          replace h := Option.some.inj h
          replace k := Option.some.inj k
          subst h
          subst k
          try dsimp only
          all_goals first
          | (exfalso; omega)
          | exact ⟨rfl, rfl, fun e => by first | exact e | rw [e]⟩
          | exact ⟨rfl, rfl, fun e => by rw [e]; rfl⟩
      · have ch3 := zk_f cc5 ch3
        have cc5n := cc5
        (try simp only [i32_lt, i32_le, i32_e, z32_0, z32_1] at cc5n)
        first
        | (exfalso; omega)
        | obtain ⟨_, ch3⟩ := zk_gd ch3
          obtain ⟨_, ch3⟩ := zk_gd ch3
          obtain ⟨_, ch3⟩ := zk_gd ch3
          simp only [Option.some.injEq, Prod.mk.injEq] at ch3
          obtain ⟨rfl, _⟩ := ch3
          replace h := zk_f cc4 h
          replace h := zk_gd h
          obtain ⟨_, h⟩ := h
          replace h := zk_o2 h
          obtain ⟨cv6, cv7, ch8, h⟩ := h
          obtain cq9 := bk8_e hB8 ch8
          replace cq9 := cq9.symm
          subst cq9
          replace h := zk_gd h
          obtain ⟨_, h⟩ := h
          replace h := zk_o4 h
          obtain ⟨cv10, cv11, cv12, cv13, ch14, h⟩ := h
          unfold f_X0_begin at ch14
          unfold B_X0_begin_0 at ch14
          simp only [Option.some.injEq, Prod.mk.injEq] at ch14
          obtain ⟨rfl, rfl, rfl, rfl⟩ := ch14
          by_cases cc15 : x2 = (0 : Int32)
          · replace h := zk_t cc15 h
            have cc15n := cc15
            (try simp only [i32_lt, i32_le, i32_e, z32_0, z32_1] at cc15n)
            first
            | (exfalso; omega)
            | obtain ⟨cv16, cv17, cv18, ch19, h⟩ := zk_o3 h
              have ch19 : f_X0_closes (grp_grp138 6) (4 : Int32) x3 (0 : Int32) (4 : Int32) x1 (S_askedCount x1.toNatClampNeg) acts_bodies = some (cv16, cv17, cv18) := ch19
              unfold f_X0_closes at ch19
              unfold B_X0_closes_0 at ch19
              have ch19 := zk_f (by decide) ch19
              have ch19 := zk_f (by decide) ch19
              have ch19 := zk_f (by decide) ch19
              have ch19 := zk_t rfl ch19
              obtain ⟨cv20, cv21, ch22, ch19⟩ := zk_o2 ch19
              unfold f_X0_above at ch22
              unfold B_X0_above_0 at ch22
              have ch22 := zk_t rfl ch22
              simp only [Option.some.injEq, Prod.mk.injEq] at ch22
              obtain ⟨rfl, _⟩ := ch22
              obtain ⟨cv23, cv24, cv25, ch26, ch19⟩ := zk_o3 ch19
              have ch26 : f_X0_closes (grp_grp138 5) (3 : Int32) x3 (0 : Int32) (4 : Int32) x1 (S_askedCount x1.toNatClampNeg) acts_bodies = some (cv23, cv24, cv25) := ch26
              unfold f_X0_closes at ch26
              unfold B_X0_closes_0 at ch26
              have ch26 := zk_f (by decide) ch26
              have ch26 := zk_f (by decide) ch26
              have ch26 := zk_t rfl ch26
              obtain ⟨cv27, cv28, ch29, ch26⟩ := zk_o2 ch26
              unfold f_X0_note at ch29
              unfold B_X0_note_0 at ch29
              have ch29 := zk_f (by decide) ch29
              obtain ⟨_, ch29⟩ := zk_gd ch29
              obtain ⟨cv30, ce31, ch29⟩ := zk_lt ch29
              subst ce31
              unfold B_X0_note_19 at ch29
              obtain ⟨cv32, ce33, ch29⟩ := zk_lt ch29
              subst ce33
              simp only [Option.some.injEq, Prod.mk.injEq] at ch29
              obtain ⟨rfl, rfl⟩ := ch29
              obtain ⟨cv34, cv35, ch36, ch26⟩ := zk_o2 ch26
              unfold f_X0_above at ch36
              unfold B_X0_above_0 at ch36
              have ch36 := zk_f (by decide) ch36
              have ch36 := zk_f (by decide) ch36
              have ch36 := zk_f (by decide) ch36
              simp only [Option.some.injEq, Prod.mk.injEq] at ch36
              obtain ⟨rfl, _⟩ := ch36
              obtain ⟨cv37, cv38, cv39, ch40, ch26⟩ := zk_o3 ch26
              have ch40 : f_X0_closes (grp_grp138 4) (0 : Int32) x3 ((0 : Int32) + (1 : Int32)) (4 : Int32) x1 (S_askedCount x1.toNatClampNeg) (upd acts_bodies (0 : Int32).toNatClampNeg (40 : Int32)) = some (cv37, cv38, cv39) := ch40
              unfold f_X0_closes at ch40
              unfold B_X0_closes_0 at ch40
              have ch40 := zk_f (by decide) ch40
              have ch40 := zk_f (by decide) ch40
              have ch40 := zk_f (by decide) ch40
              have ch40 := zk_f (by decide) ch40
              have ch40 := zk_f (by decide) ch40
              have ch40 := zk_f (by decide) ch40
              obtain ⟨cv41, cv42, ch43, ch40⟩ := zk_o2 ch40
              unfold f_X0_note at ch43
              unfold B_X0_note_0 at ch43
              have ch43 := zk_f (by decide) ch43
              obtain ⟨_, ch43⟩ := zk_gd ch43
              obtain ⟨cv44, ce45, ch43⟩ := zk_lt ch43
              subst ce45
              unfold B_X0_note_19 at ch43
              obtain ⟨cv46, ce47, ch43⟩ := zk_lt ch43
              subst ce47
              simp only [Option.some.injEq, Prod.mk.injEq] at ch43
              obtain ⟨rfl, rfl⟩ := ch43
              simp only [Option.some.injEq, Prod.mk.injEq] at ch40
              obtain ⟨rfl, rfl, rfl⟩ := ch40
              simp only [Option.some.injEq, Prod.mk.injEq] at ch26
              obtain ⟨rfl, rfl, rfl⟩ := ch26
              simp only [Option.some.injEq, Prod.mk.injEq] at ch19
              obtain ⟨rfl, rfl, rfl⟩ := ch19
              have hi : x1.toNatClampNeg < court_suitCount.toInt.toNat := by rw [tcn]; omega
              have ea : mod_askedMany x1.toNatClampNeg = S_askedCount x1.toNatClampNeg := (hA _ hi).symm
              unfold B_X12_act_0 at k
              replace k := zk_o2 k
              obtain ⟨mv13, mv14, mh15, k⟩ := k
              unfold f_X12_isSuit at mh15
              unfold B_X12_isSuit_0 at mh15
              obtain ⟨mv16, mv17, mh18, mh15⟩ := zk_o2 mh15
              unfold f_X12_in at mh18
              unfold B_X12_in_0 at mh18
              have mh18 := zk_f cc4 mh18
              have mh18 := zk_f (by (try simp only [i32_lt, i32_le, i32_e, z32_0, z32_1]); omega) mh18
              simp only [Option.some.injEq, Prod.mk.injEq] at mh18
              obtain ⟨rfl, _⟩ := mh18
              obtain ⟨_, mh15⟩ := zk_gd mh15
              simp only [Option.some.injEq, Prod.mk.injEq] at mh15
              obtain ⟨rfl, _⟩ := mh15
              replace k := zk_f (by decide) k
              replace k := zk_o2 k
              obtain ⟨mv19, mv20, mh21, k⟩ := k
              unfold f_X12_in at mh21
              unfold B_X12_in_0 at mh21
              have mh21 := zk_f (by (try simp only [i32_lt, i32_le, i32_e, z32_0, z32_1]); omega) mh21
              have mh21 := zk_f (by (try simp only [i32_lt, i32_le, i32_e, z32_0, z32_1, z32L_3]); omega) mh21
              simp only [Option.some.injEq, Prod.mk.injEq] at mh21
              obtain ⟨rfl, _⟩ := mh21
              replace k := zk_f (by decide) k
              replace k := zk_t cc15 k
              replace k := zk_o3 k
              obtain ⟨mv22, mv23, mv24, mh25, k⟩ := k
              unfold f_X12_closes at mh25
              unfold B_X12_closes_0 at mh25
              rw [ea] at mh25
              obtain ⟨mv26, mv27, mh28, mh25⟩ := zk_o2 mh25
              obtain mq29 := bk12_e (hB12 hi) mh28
              replace mq29 := mq29.symm
              subst mq29
              have mh25 := zk_f (by decide) mh25
              have mh25 := zk_t rfl mh25
              unfold B_X12_closes_16 at mh25
              obtain ⟨mv30, mv31, mh32, mh25⟩ := zk_o2 mh25
              unfold f_X12_ran at mh32
              unfold B_X12_ran_0 at mh32
              have mh32 := zk_f (by decide) mh32
              obtain ⟨_, mh32⟩ := zk_gd mh32
              obtain ⟨mv33, me34, mh32⟩ := zk_lt mh32
              subst me34
              unfold B_X12_ran_19 at mh32
              obtain ⟨mv35, me36, mh32⟩ := zk_lt mh32
              subst me36
              simp only [Option.some.injEq, Prod.mk.injEq] at mh32
              obtain ⟨rfl, rfl⟩ := mh32
              obtain ⟨mv37, mv38, mv39, mh40, mh25⟩ := zk_o3 mh25
              unfold f_X12_plainCloses at mh40
              unfold B_X12_plainCloses_0 at mh40
              obtain ⟨mv41, mv42, mh43, mh40⟩ := zk_o2 mh40
              unfold f_X12_ran at mh43
              unfold B_X12_ran_0 at mh43
              have mh43 := zk_f (by decide) mh43
              obtain ⟨_, mh43⟩ := zk_gd mh43
              obtain ⟨mv44, me45, mh43⟩ := zk_lt mh43
              subst me45
              unfold B_X12_ran_19 at mh43
              obtain ⟨mv46, me47, mh43⟩ := zk_lt mh43
              subst me47
              simp only [Option.some.injEq, Prod.mk.injEq] at mh43
              obtain ⟨rfl, rfl⟩ := mh43
              simp only [Option.some.injEq, Prod.mk.injEq] at mh40
              obtain ⟨rfl, rfl, rfl⟩ := mh40
              simp only [Option.some.injEq, Prod.mk.injEq] at mh25
              obtain ⟨rfl, rfl, rfl⟩ := mh25
              replace h := Option.some.inj h
              replace k := Option.some.inj k
              subst h
              subst k
              try dsimp only
              all_goals first
              | (exfalso; omega)
              | exact ⟨rfl, rfl, fun e => by first | exact e | rw [e]⟩
              | exact ⟨rfl, rfl, fun e => by rw [e]; rfl⟩
          · replace h := zk_f cc15 h
            have cc15n := cc15
            (try simp only [i32_lt, i32_le, i32_e, z32_0, z32_1] at cc15n)
            first
            | (exfalso; omega)
            | by_cases cc48 : x2 = (1 : Int32)
              · replace h := zk_t cc48 h
                have cc48n := cc48
                (try simp only [i32_lt, i32_le, i32_e, z32_0, z32_1] at cc48n)
                first
                | (exfalso; omega)
                | obtain ⟨cv49, cv50, cv51, ch52, h⟩ := zk_o3 h
                  have ch52 : f_X0_settles (grp_grp140 6) (4 : Int32) x3 (0 : Int32) (4 : Int32) x1 (S_askedCount x1.toNatClampNeg) acts_bodies = some (cv49, cv50, cv51) := ch52
                  unfold f_X0_settles at ch52
                  unfold B_X0_settles_0 at ch52
                  have ch52 := zk_f (by decide) ch52
                  have ch52 := zk_f (by decide) ch52
                  have ch52 := zk_f (by decide) ch52
                  have ch52 := zk_t rfl ch52
                  obtain ⟨cv53, cv54, ch55, ch52⟩ := zk_o2 ch52
                  unfold f_X0_note at ch55
                  unfold B_X0_note_0 at ch55
                  have ch55 := zk_f (by decide) ch55
                  obtain ⟨_, ch55⟩ := zk_gd ch55
                  obtain ⟨cv56, ce57, ch55⟩ := zk_lt ch55
                  subst ce57
                  unfold B_X0_note_19 at ch55
                  obtain ⟨cv58, ce59, ch55⟩ := zk_lt ch55
                  subst ce59
                  simp only [Option.some.injEq, Prod.mk.injEq] at ch55
                  obtain ⟨rfl, rfl⟩ := ch55
                  obtain ⟨cv60, cv61, ch62, ch52⟩ := zk_o2 ch52
                  unfold f_X0_above at ch62
                  unfold B_X0_above_0 at ch62
                  have ch62 := zk_t rfl ch62
                  simp only [Option.some.injEq, Prod.mk.injEq] at ch62
                  obtain ⟨rfl, _⟩ := ch62
                  obtain ⟨cv63, cv64, cv65, ch66, ch52⟩ := zk_o3 ch52
                  have ch66 : f_X0_settles (grp_grp140 5) (3 : Int32) x3 ((0 : Int32) + (1 : Int32)) (4 : Int32) x1 (S_askedCount x1.toNatClampNeg) (upd acts_bodies (0 : Int32).toNatClampNeg (50 : Int32)) = some (cv63, cv64, cv65) := ch66
                  unfold f_X0_settles at ch66
                  unfold B_X0_settles_0 at ch66
                  have ch66 := zk_f (by decide) ch66
                  have ch66 := zk_f (by decide) ch66
                  have ch66 := zk_t rfl ch66
                  obtain ⟨cv67, cv68, ch69, ch66⟩ := zk_o2 ch66
                  unfold f_X0_above at ch69
                  unfold B_X0_above_0 at ch69
                  have ch69 := zk_f (by decide) ch69
                  have ch69 := zk_f (by decide) ch69
                  have ch69 := zk_f (by decide) ch69
                  simp only [Option.some.injEq, Prod.mk.injEq] at ch69
                  obtain ⟨rfl, _⟩ := ch69
                  obtain ⟨cv70, cv71, cv72, ch73, ch66⟩ := zk_o3 ch66
                  have ch73 : f_X0_settles (grp_grp140 4) (0 : Int32) x3 ((0 : Int32) + (1 : Int32)) (4 : Int32) x1 (S_askedCount x1.toNatClampNeg) (upd acts_bodies (0 : Int32).toNatClampNeg (50 : Int32)) = some (cv70, cv71, cv72) := ch73
                  unfold f_X0_settles at ch73
                  unfold B_X0_settles_0 at ch73
                  have ch73 := zk_f (by decide) ch73
                  have ch73 := zk_f (by decide) ch73
                  have ch73 := zk_f (by decide) ch73
                  have ch73 := zk_f (by decide) ch73
                  have ch73 := zk_f (by decide) ch73
                  have ch73 := zk_f (by decide) ch73
                  obtain ⟨cv74, cv75, ch76, ch73⟩ := zk_o2 ch73
                  unfold f_X0_note at ch76
                  unfold B_X0_note_0 at ch76
                  have ch76 := zk_f (by decide) ch76
                  obtain ⟨_, ch76⟩ := zk_gd ch76
                  obtain ⟨cv77, ce78, ch76⟩ := zk_lt ch76
                  subst ce78
                  unfold B_X0_note_19 at ch76
                  obtain ⟨cv79, ce80, ch76⟩ := zk_lt ch76
                  subst ce80
                  simp only [Option.some.injEq, Prod.mk.injEq] at ch76
                  obtain ⟨rfl, rfl⟩ := ch76
                  obtain ⟨cv81, cv82, cv83, ch84, ch73⟩ := zk_o3 ch73
                  have ch84 : f_X0_closes (grp_grp138 6) (4 : Int32) x3 (((0 : Int32) + (1 : Int32)) + (1 : Int32)) (4 : Int32) x1 (S_askedCount x1.toNatClampNeg) (upd (upd acts_bodies (0 : Int32).toNatClampNeg (50 : Int32)) ((0 : Int32) + (1 : Int32)).toNatClampNeg (10 : Int32)) = some (cv81, cv82, cv83) := ch84
                  unfold f_X0_closes at ch84
                  unfold B_X0_closes_0 at ch84
                  have ch84 := zk_f (by decide) ch84
                  have ch84 := zk_f (by decide) ch84
                  have ch84 := zk_f (by decide) ch84
                  have ch84 := zk_t rfl ch84
                  obtain ⟨cv85, cv86, ch87, ch84⟩ := zk_o2 ch84
                  unfold f_X0_above at ch87
                  unfold B_X0_above_0 at ch87
                  have ch87 := zk_t rfl ch87
                  simp only [Option.some.injEq, Prod.mk.injEq] at ch87
                  obtain ⟨rfl, _⟩ := ch87
                  obtain ⟨cv88, cv89, cv90, ch91, ch84⟩ := zk_o3 ch84
                  have ch91 : f_X0_closes (grp_grp138 5) (3 : Int32) x3 (((0 : Int32) + (1 : Int32)) + (1 : Int32)) (4 : Int32) x1 (S_askedCount x1.toNatClampNeg) (upd (upd acts_bodies (0 : Int32).toNatClampNeg (50 : Int32)) ((0 : Int32) + (1 : Int32)).toNatClampNeg (10 : Int32)) = some (cv88, cv89, cv90) := ch91
                  unfold f_X0_closes at ch91
                  unfold B_X0_closes_0 at ch91
                  have ch91 := zk_f (by decide) ch91
                  have ch91 := zk_f (by decide) ch91
                  have ch91 := zk_t rfl ch91
                  obtain ⟨cv92, cv93, ch94, ch91⟩ := zk_o2 ch91
                  unfold f_X0_note at ch94
                  unfold B_X0_note_0 at ch94
                  have ch94 := zk_f (by decide) ch94
                  obtain ⟨_, ch94⟩ := zk_gd ch94
                  obtain ⟨cv95, ce96, ch94⟩ := zk_lt ch94
                  subst ce96
                  unfold B_X0_note_19 at ch94
                  obtain ⟨cv97, ce98, ch94⟩ := zk_lt ch94
                  subst ce98
                  simp only [Option.some.injEq, Prod.mk.injEq] at ch94
                  obtain ⟨rfl, rfl⟩ := ch94
                  obtain ⟨cv99, cv100, ch101, ch91⟩ := zk_o2 ch91
                  unfold f_X0_above at ch101
                  unfold B_X0_above_0 at ch101
                  have ch101 := zk_f (by decide) ch101
                  have ch101 := zk_f (by decide) ch101
                  have ch101 := zk_f (by decide) ch101
                  simp only [Option.some.injEq, Prod.mk.injEq] at ch101
                  obtain ⟨rfl, _⟩ := ch101
                  obtain ⟨cv102, cv103, cv104, ch105, ch91⟩ := zk_o3 ch91
                  have ch105 : f_X0_closes (grp_grp138 4) (0 : Int32) x3 ((((0 : Int32) + (1 : Int32)) + (1 : Int32)) + (1 : Int32)) (4 : Int32) x1 (S_askedCount x1.toNatClampNeg) (upd (upd (upd acts_bodies (0 : Int32).toNatClampNeg (50 : Int32)) ((0 : Int32) + (1 : Int32)).toNatClampNeg (10 : Int32)) (((0 : Int32) + (1 : Int32)) + (1 : Int32)).toNatClampNeg (40 : Int32)) = some (cv102, cv103, cv104) := ch105
                  unfold f_X0_closes at ch105
                  unfold B_X0_closes_0 at ch105
                  have ch105 := zk_f (by decide) ch105
                  have ch105 := zk_f (by decide) ch105
                  have ch105 := zk_f (by decide) ch105
                  have ch105 := zk_f (by decide) ch105
                  have ch105 := zk_f (by decide) ch105
                  have ch105 := zk_f (by decide) ch105
                  obtain ⟨cv106, cv107, ch108, ch105⟩ := zk_o2 ch105
                  unfold f_X0_note at ch108
                  unfold B_X0_note_0 at ch108
                  have ch108 := zk_f (by decide) ch108
                  obtain ⟨_, ch108⟩ := zk_gd ch108
                  obtain ⟨cv109, ce110, ch108⟩ := zk_lt ch108
                  subst ce110
                  unfold B_X0_note_19 at ch108
                  obtain ⟨cv111, ce112, ch108⟩ := zk_lt ch108
                  subst ce112
                  simp only [Option.some.injEq, Prod.mk.injEq] at ch108
                  obtain ⟨rfl, rfl⟩ := ch108
                  simp only [Option.some.injEq, Prod.mk.injEq] at ch105
                  obtain ⟨rfl, rfl, rfl⟩ := ch105
                  simp only [Option.some.injEq, Prod.mk.injEq] at ch91
                  obtain ⟨rfl, rfl, rfl⟩ := ch91
                  simp only [Option.some.injEq, Prod.mk.injEq] at ch84
                  obtain ⟨rfl, rfl, rfl⟩ := ch84
                  simp only [Option.some.injEq, Prod.mk.injEq] at ch73
                  obtain ⟨rfl, rfl, rfl⟩ := ch73
                  simp only [Option.some.injEq, Prod.mk.injEq] at ch66
                  obtain ⟨rfl, rfl, rfl⟩ := ch66
                  simp only [Option.some.injEq, Prod.mk.injEq] at ch52
                  obtain ⟨rfl, rfl, rfl⟩ := ch52
                  have hi : x1.toNatClampNeg < court_suitCount.toInt.toNat := by rw [tcn]; omega
                  have ea : mod_askedMany x1.toNatClampNeg = S_askedCount x1.toNatClampNeg := (hA _ hi).symm
                  unfold B_X12_act_0 at k
                  replace k := zk_o2 k
                  obtain ⟨mv48, mv49, mh50, k⟩ := k
                  unfold f_X12_isSuit at mh50
                  unfold B_X12_isSuit_0 at mh50
                  obtain ⟨mv51, mv52, mh53, mh50⟩ := zk_o2 mh50
                  unfold f_X12_in at mh53
                  unfold B_X12_in_0 at mh53
                  have mh53 := zk_f cc4 mh53
                  have mh53 := zk_f (by (try simp only [i32_lt, i32_le, i32_e, z32_0, z32_1]); omega) mh53
                  simp only [Option.some.injEq, Prod.mk.injEq] at mh53
                  obtain ⟨rfl, _⟩ := mh53
                  obtain ⟨_, mh50⟩ := zk_gd mh50
                  simp only [Option.some.injEq, Prod.mk.injEq] at mh50
                  obtain ⟨rfl, _⟩ := mh50
                  replace k := zk_f (by decide) k
                  replace k := zk_o2 k
                  obtain ⟨mv54, mv55, mh56, k⟩ := k
                  unfold f_X12_in at mh56
                  unfold B_X12_in_0 at mh56
                  have mh56 := zk_f (by (try simp only [i32_lt, i32_le, i32_e, z32_0, z32_1]); omega) mh56
                  have mh56 := zk_f (by (try simp only [i32_lt, i32_le, i32_e, z32_0, z32_1, z32L_3]); omega) mh56
                  simp only [Option.some.injEq, Prod.mk.injEq] at mh56
                  obtain ⟨rfl, _⟩ := mh56
                  replace k := zk_f (by decide) k
                  replace k := zk_f cc15 k
                  replace k := zk_t cc48 k
                  replace k := zk_o3 k
                  obtain ⟨mv57, mv58, mv59, mh60, k⟩ := k
                  unfold f_X12_settles at mh60
                  unfold B_X12_settles_0 at mh60
                  obtain ⟨mv61, mv62, mh63, mh60⟩ := zk_o2 mh60
                  obtain mq64 := bk12_e (hB12 hi) mh63
                  replace mq64 := mq64.symm
                  subst mq64
                  have mh60 := zk_t rfl mh60
                  obtain ⟨mv65, mv66, mh67, mh60⟩ := zk_o2 mh60
                  unfold f_X12_ran at mh67
                  unfold B_X12_ran_0 at mh67
                  have mh67 := zk_f (by decide) mh67
                  obtain ⟨_, mh67⟩ := zk_gd mh67
                  obtain ⟨mv68, me69, mh67⟩ := zk_lt mh67
                  subst me69
                  unfold B_X12_ran_19 at mh67
                  obtain ⟨mv70, me71, mh67⟩ := zk_lt mh67
                  subst me71
                  simp only [Option.some.injEq, Prod.mk.injEq] at mh67
                  obtain ⟨rfl, rfl⟩ := mh67
                  obtain ⟨mv72, mv73, mv74, mh75, mh60⟩ := zk_o3 mh60
                  unfold f_X12_plainSettles at mh75
                  unfold B_X12_plainSettles_0 at mh75
                  obtain ⟨mv76, mv77, mh78, mh75⟩ := zk_o2 mh75
                  unfold f_X12_ran at mh78
                  unfold B_X12_ran_0 at mh78
                  have mh78 := zk_f (by decide) mh78
                  obtain ⟨_, mh78⟩ := zk_gd mh78
                  obtain ⟨mv79, me80, mh78⟩ := zk_lt mh78
                  subst me80
                  unfold B_X12_ran_19 at mh78
                  obtain ⟨mv81, me82, mh78⟩ := zk_lt mh78
                  subst me82
                  simp only [Option.some.injEq, Prod.mk.injEq] at mh78
                  obtain ⟨rfl, rfl⟩ := mh78
                  obtain ⟨mv83, mv84, mv85, mh86, mh75⟩ := zk_o3 mh75
                  unfold f_X12_closes at mh86
                  unfold B_X12_closes_0 at mh86
                  rw [ea] at mh86
                  obtain ⟨mv87, mv88, mh89, mh86⟩ := zk_o2 mh86
                  obtain mq90 := bk12_e (hB12 hi) mh89
                  replace mq90 := mq90.symm
                  subst mq90
                  have mh86 := zk_f (by decide) mh86
                  have mh86 := zk_t rfl mh86
                  unfold B_X12_closes_16 at mh86
                  obtain ⟨mv91, mv92, mh93, mh86⟩ := zk_o2 mh86
                  unfold f_X12_ran at mh93
                  unfold B_X12_ran_0 at mh93
                  have mh93 := zk_f (by decide) mh93
                  obtain ⟨_, mh93⟩ := zk_gd mh93
                  obtain ⟨mv94, me95, mh93⟩ := zk_lt mh93
                  subst me95
                  unfold B_X12_ran_19 at mh93
                  obtain ⟨mv96, me97, mh93⟩ := zk_lt mh93
                  subst me97
                  simp only [Option.some.injEq, Prod.mk.injEq] at mh93
                  obtain ⟨rfl, rfl⟩ := mh93
                  obtain ⟨mv98, mv99, mv100, mh101, mh86⟩ := zk_o3 mh86
                  unfold f_X12_plainCloses at mh101
                  unfold B_X12_plainCloses_0 at mh101
                  obtain ⟨mv102, mv103, mh104, mh101⟩ := zk_o2 mh101
                  unfold f_X12_ran at mh104
                  unfold B_X12_ran_0 at mh104
                  have mh104 := zk_f (by decide) mh104
                  obtain ⟨_, mh104⟩ := zk_gd mh104
                  obtain ⟨mv105, me106, mh104⟩ := zk_lt mh104
                  subst me106
                  unfold B_X12_ran_19 at mh104
                  obtain ⟨mv107, me108, mh104⟩ := zk_lt mh104
                  subst me108
                  simp only [Option.some.injEq, Prod.mk.injEq] at mh104
                  obtain ⟨rfl, rfl⟩ := mh104
                  simp only [Option.some.injEq, Prod.mk.injEq] at mh101
                  obtain ⟨rfl, rfl, rfl⟩ := mh101
                  simp only [Option.some.injEq, Prod.mk.injEq] at mh86
                  obtain ⟨rfl, rfl, rfl⟩ := mh86
                  simp only [Option.some.injEq, Prod.mk.injEq] at mh75
                  obtain ⟨rfl, rfl, rfl⟩ := mh75
                  simp only [Option.some.injEq, Prod.mk.injEq] at mh60
                  obtain ⟨rfl, rfl, rfl⟩ := mh60
                  replace h := Option.some.inj h
                  replace k := Option.some.inj k
                  subst h
                  subst k
                  try dsimp only
                  all_goals first
                  | (exfalso; omega)
                  | exact ⟨rfl, rfl, fun e => by first | exact e | rw [e]⟩
                  | exact ⟨rfl, rfl, fun e => by rw [e]; rfl⟩
              · replace h := zk_f cc48 h
                have cc48n := cc48
                (try simp only [i32_lt, i32_le, i32_e, z32_0, z32_1] at cc48n)
                first
                | (exfalso; omega)
                | by_cases cc113 : x2 = (2 : Int32)
                  · replace h := zk_t cc113 h
                    have cc113n := cc113
                    (try simp only [i32_lt, i32_le, i32_e, z32_0, z32_1, z32L_2] at cc113n)
                    first
                    | (exfalso; omega)
                    | obtain ⟨cv114, cv115, cv116, ch117, h⟩ := zk_o3 h
                      have ch117 : f_X0_binds (grp_grp139 6) (4 : Int32) x3 (0 : Int32) (4 : Int32) x1 (S_askedCount x1.toNatClampNeg) acts_bodies = some (cv114, cv115, cv116) := ch117
                      unfold f_X0_binds at ch117
                      unfold B_X0_binds_0 at ch117
                      have ch117 := zk_f (by decide) ch117
                      have ch117 := zk_f (by decide) ch117
                      obtain ⟨cv118, cv119, ch120, ch117⟩ := zk_o2 ch117
                      unfold f_X0_above at ch120
                      unfold B_X0_above_0 at ch120
                      have ch120 := zk_t rfl ch120
                      simp only [Option.some.injEq, Prod.mk.injEq] at ch120
                      obtain ⟨rfl, _⟩ := ch120
                      obtain ⟨cv121, cv122, cv123, ch124, ch117⟩ := zk_o3 ch117
                      have ch124 : f_X0_binds (grp_grp139 5) (3 : Int32) x3 (0 : Int32) (4 : Int32) x1 (S_askedCount x1.toNatClampNeg) acts_bodies = some (cv121, cv122, cv123) := ch124
                      unfold f_X0_binds at ch124
                      unfold B_X0_binds_0 at ch124
                      have ch124 := zk_f (by decide) ch124
                      have ch124 := zk_f (by decide) ch124
                      obtain ⟨cv125, cv126, ch127, ch124⟩ := zk_o2 ch124
                      unfold f_X0_above at ch127
                      unfold B_X0_above_0 at ch127
                      have ch127 := zk_f (by decide) ch127
                      have ch127 := zk_f (by decide) ch127
                      have ch127 := zk_f (by decide) ch127
                      simp only [Option.some.injEq, Prod.mk.injEq] at ch127
                      obtain ⟨rfl, _⟩ := ch127
                      obtain ⟨cv128, cv129, cv130, ch131, ch124⟩ := zk_o3 ch124
                      have ch131 : f_X0_binds (grp_grp139 4) (0 : Int32) x3 (0 : Int32) (4 : Int32) x1 (S_askedCount x1.toNatClampNeg) acts_bodies = some (cv128, cv129, cv130) := ch131
                      unfold f_X0_binds at ch131
                      unfold B_X0_binds_0 at ch131
                      have ch131 := zk_f (by decide) ch131
                      have ch131 := zk_t (Int32.le_refl _) ch131
                      obtain ⟨cv132, cv133, ch134, ch131⟩ := zk_o2 ch131
                      unfold f_X0_note at ch134
                      unfold B_X0_note_0 at ch134
                      have ch134 := zk_f (by decide) ch134
                      obtain ⟨_, ch134⟩ := zk_gd ch134
                      obtain ⟨cv135, ce136, ch134⟩ := zk_lt ch134
                      subst ce136
                      unfold B_X0_note_19 at ch134
                      obtain ⟨cv137, ce138, ch134⟩ := zk_lt ch134
                      subst ce138
                      simp only [Option.some.injEq, Prod.mk.injEq] at ch134
                      obtain ⟨rfl, rfl⟩ := ch134
                      simp only [Option.some.injEq, Prod.mk.injEq] at ch131
                      obtain ⟨rfl, rfl, rfl⟩ := ch131
                      simp only [Option.some.injEq, Prod.mk.injEq] at ch124
                      obtain ⟨rfl, rfl, rfl⟩ := ch124
                      simp only [Option.some.injEq, Prod.mk.injEq] at ch117
                      obtain ⟨rfl, rfl, rfl⟩ := ch117
                      have hi : x1.toNatClampNeg < court_suitCount.toInt.toNat := by rw [tcn]; omega
                      have ea : mod_askedMany x1.toNatClampNeg = S_askedCount x1.toNatClampNeg := (hA _ hi).symm
                      unfold B_X12_act_0 at k
                      replace k := zk_o2 k
                      obtain ⟨mv109, mv110, mh111, k⟩ := k
                      unfold f_X12_isSuit at mh111
                      unfold B_X12_isSuit_0 at mh111
                      obtain ⟨mv112, mv113, mh114, mh111⟩ := zk_o2 mh111
                      unfold f_X12_in at mh114
                      unfold B_X12_in_0 at mh114
                      have mh114 := zk_f cc4 mh114
                      have mh114 := zk_f (by (try simp only [i32_lt, i32_le, i32_e, z32_0, z32_1]); omega) mh114
                      simp only [Option.some.injEq, Prod.mk.injEq] at mh114
                      obtain ⟨rfl, _⟩ := mh114
                      obtain ⟨_, mh111⟩ := zk_gd mh111
                      simp only [Option.some.injEq, Prod.mk.injEq] at mh111
                      obtain ⟨rfl, _⟩ := mh111
                      replace k := zk_f (by decide) k
                      replace k := zk_o2 k
                      obtain ⟨mv115, mv116, mh117, k⟩ := k
                      unfold f_X12_in at mh117
                      unfold B_X12_in_0 at mh117
                      have mh117 := zk_f (by (try simp only [i32_lt, i32_le, i32_e, z32_0, z32_1]); omega) mh117
                      have mh117 := zk_f (by (try simp only [i32_lt, i32_le, i32_e, z32_0, z32_1, z32L_3]); omega) mh117
                      simp only [Option.some.injEq, Prod.mk.injEq] at mh117
                      obtain ⟨rfl, _⟩ := mh117
                      replace k := zk_f (by decide) k
                      replace k := zk_f cc15 k
                      replace k := zk_f cc48 k
                      replace k := zk_t cc113 k
                      replace k := zk_o3 k
                      obtain ⟨mv118, mv119, mv120, mh121, k⟩ := k
                      unfold f_X12_binds at mh121
                      unfold B_X12_binds_0 at mh121
                      obtain ⟨mv122, mv123, mh124, mh121⟩ := zk_o2 mh121
                      obtain mq125 := bk12_e (hB12 hi) mh124
                      replace mq125 := mq125.symm
                      subst mq125
                      obtain ⟨mv126, mv127, mh128, mh121⟩ := zk_o2 mh121
                      unfold f_X12_isUnder at mh128
                      unfold B_X12_isUnder_0 at mh128
                      have mh128 := zk_f (by decide) mh128
                      have mh128 := zk_f (by decide) mh128
                      have mh128 := zk_f (by decide) mh128
                      unfold B_X12_isUnder_19 at mh128
                      have mh128 := zk_t rfl mh128
                      have mh128 := zk_f (by decide) mh128
                      unfold B_X12_isUnder_29 at mh128
                      have mh128 := zk_f (by decide) mh128
                      simp only [Option.some.injEq, Prod.mk.injEq] at mh128
                      obtain ⟨rfl, _⟩ := mh128
                      have mh121 := zk_t rfl mh121
                      obtain ⟨mv129, mv130, mv131, mh132, mh121⟩ := zk_o3 mh121
                      unfold f_X12_plainBinds at mh132
                      unfold B_X12_plainBinds_0 at mh132
                      obtain ⟨mv133, mv134, mh135, mh132⟩ := zk_o2 mh132
                      unfold f_X12_ran at mh135
                      unfold B_X12_ran_0 at mh135
                      have mh135 := zk_f (by decide) mh135
                      obtain ⟨_, mh135⟩ := zk_gd mh135
                      obtain ⟨mv136, me137, mh135⟩ := zk_lt mh135
                      subst me137
                      unfold B_X12_ran_19 at mh135
                      obtain ⟨mv138, me139, mh135⟩ := zk_lt mh135
                      subst me139
                      simp only [Option.some.injEq, Prod.mk.injEq] at mh135
                      obtain ⟨rfl, rfl⟩ := mh135
                      simp only [Option.some.injEq, Prod.mk.injEq] at mh132
                      obtain ⟨rfl, rfl, rfl⟩ := mh132
                      simp only [Option.some.injEq, Prod.mk.injEq] at mh121
                      obtain ⟨rfl, rfl, rfl⟩ := mh121
                      replace h := Option.some.inj h
                      replace k := Option.some.inj k
                      subst h
                      subst k
                      try dsimp only
                      all_goals first
                      | (exfalso; omega)
                      | exact ⟨rfl, rfl, fun e => by first | exact e | rw [e]⟩
                      | exact ⟨rfl, rfl, fun e => by rw [e]; rfl⟩
                  · replace h := zk_f cc113 h
                    have cc113n := cc113
                    (try simp only [i32_lt, i32_le, i32_e, z32_0, z32_1, z32L_2] at cc113n)
                    first
                    | (exfalso; omega)
                    | by_cases cc139 : x2 = (3 : Int32)
                      · replace h := zk_t cc139 h
                        have cc139n := cc139
                        (try simp only [i32_lt, i32_le, i32_e, z32_0, z32_1, z32L_3] at cc139n)
                        first
                        | (exfalso; omega)
                        | obtain ⟨cv140, cv141, cv142, ch143, h⟩ := zk_o3 h
                          have ch143 : f_X0_tells (grp_grp141 6) (4 : Int32) x3 (0 : Int32) (4 : Int32) x1 (S_askedCount x1.toNatClampNeg) acts_bodies = some (cv140, cv141, cv142) := ch143
                          unfold f_X0_tells at ch143
                          unfold B_X0_tells_0 at ch143
                          have ch143 := zk_t rfl ch143
                          obtain ⟨cv144, cv145, ch146, ch143⟩ := zk_o2 ch143
                          unfold f_X0_note at ch146
                          unfold B_X0_note_0 at ch146
                          have ch146 := zk_f (by decide) ch146
                          obtain ⟨_, ch146⟩ := zk_gd ch146
                          obtain ⟨cv147, ce148, ch146⟩ := zk_lt ch146
                          subst ce148
                          unfold B_X0_note_19 at ch146
                          obtain ⟨cv149, ce150, ch146⟩ := zk_lt ch146
                          subst ce150
                          simp only [Option.some.injEq, Prod.mk.injEq] at ch146
                          obtain ⟨rfl, rfl⟩ := ch146
                          obtain ⟨cv151, cv152, ch153, ch143⟩ := zk_o2 ch143
                          unfold f_X0_above at ch153
                          unfold B_X0_above_0 at ch153
                          have ch153 := zk_t rfl ch153
                          simp only [Option.some.injEq, Prod.mk.injEq] at ch153
                          obtain ⟨rfl, _⟩ := ch153
                          obtain ⟨cv154, cv155, cv156, ch157, ch143⟩ := zk_o3 ch143
                          have ch157 : f_X0_tells (grp_grp141 5) (3 : Int32) x3 ((0 : Int32) + (1 : Int32)) (4 : Int32) x1 (S_askedCount x1.toNatClampNeg) (upd acts_bodies (0 : Int32).toNatClampNeg (51 : Int32)) = some (cv154, cv155, cv156) := ch157
                          unfold f_X0_tells at ch157
                          unfold B_X0_tells_0 at ch157
                          have ch157 := zk_f (by decide) ch157
                          have ch157 := zk_f (by decide) ch157
                          obtain ⟨cv158, cv159, ch160, ch157⟩ := zk_o2 ch157
                          unfold f_X0_above at ch160
                          unfold B_X0_above_0 at ch160
                          have ch160 := zk_f (by decide) ch160
                          have ch160 := zk_f (by decide) ch160
                          have ch160 := zk_f (by decide) ch160
                          simp only [Option.some.injEq, Prod.mk.injEq] at ch160
                          obtain ⟨rfl, _⟩ := ch160
                          obtain ⟨cv161, cv162, cv163, ch164, ch157⟩ := zk_o3 ch157
                          have ch164 : f_X0_tells (grp_grp141 4) (0 : Int32) x3 ((0 : Int32) + (1 : Int32)) (4 : Int32) x1 (S_askedCount x1.toNatClampNeg) (upd acts_bodies (0 : Int32).toNatClampNeg (51 : Int32)) = some (cv161, cv162, cv163) := ch164
                          unfold f_X0_tells at ch164
                          unfold B_X0_tells_0 at ch164
                          have ch164 := zk_f (by decide) ch164
                          have ch164 := zk_t (Int32.le_refl _) ch164
                          obtain ⟨cv165, cv166, ch167, ch164⟩ := zk_o2 ch164
                          unfold f_X0_note at ch167
                          unfold B_X0_note_0 at ch167
                          have ch167 := zk_f (by decide) ch167
                          obtain ⟨_, ch167⟩ := zk_gd ch167
                          obtain ⟨cv168, ce169, ch167⟩ := zk_lt ch167
                          subst ce169
                          unfold B_X0_note_19 at ch167
                          obtain ⟨cv170, ce171, ch167⟩ := zk_lt ch167
                          subst ce171
                          simp only [Option.some.injEq, Prod.mk.injEq] at ch167
                          obtain ⟨rfl, rfl⟩ := ch167
                          obtain ⟨cv172, cv173, cv174, ch175, ch164⟩ := zk_o3 ch164
                          have ch175 : f_X0_settles (grp_grp140 6) (4 : Int32) x3 (((0 : Int32) + (1 : Int32)) + (1 : Int32)) (4 : Int32) x1 (S_askedCount x1.toNatClampNeg) (upd (upd acts_bodies (0 : Int32).toNatClampNeg (51 : Int32)) ((0 : Int32) + (1 : Int32)).toNatClampNeg (2 : Int32)) = some (cv172, cv173, cv174) := ch175
                          unfold f_X0_settles at ch175
                          unfold B_X0_settles_0 at ch175
                          have ch175 := zk_f (by decide) ch175
                          have ch175 := zk_f (by decide) ch175
                          have ch175 := zk_f (by decide) ch175
                          have ch175 := zk_t rfl ch175
                          obtain ⟨cv176, cv177, ch178, ch175⟩ := zk_o2 ch175
                          unfold f_X0_note at ch178
                          unfold B_X0_note_0 at ch178
                          have ch178 := zk_f (by decide) ch178
                          obtain ⟨_, ch178⟩ := zk_gd ch178
                          obtain ⟨cv179, ce180, ch178⟩ := zk_lt ch178
                          subst ce180
                          unfold B_X0_note_19 at ch178
                          obtain ⟨cv181, ce182, ch178⟩ := zk_lt ch178
                          subst ce182
                          simp only [Option.some.injEq, Prod.mk.injEq] at ch178
                          obtain ⟨rfl, rfl⟩ := ch178
                          obtain ⟨cv183, cv184, ch185, ch175⟩ := zk_o2 ch175
                          unfold f_X0_above at ch185
                          unfold B_X0_above_0 at ch185
                          have ch185 := zk_t rfl ch185
                          simp only [Option.some.injEq, Prod.mk.injEq] at ch185
                          obtain ⟨rfl, _⟩ := ch185
                          obtain ⟨cv186, cv187, cv188, ch189, ch175⟩ := zk_o3 ch175
                          have ch189 : f_X0_settles (grp_grp140 5) (3 : Int32) x3 ((((0 : Int32) + (1 : Int32)) + (1 : Int32)) + (1 : Int32)) (4 : Int32) x1 (S_askedCount x1.toNatClampNeg) (upd (upd (upd acts_bodies (0 : Int32).toNatClampNeg (51 : Int32)) ((0 : Int32) + (1 : Int32)).toNatClampNeg (2 : Int32)) (((0 : Int32) + (1 : Int32)) + (1 : Int32)).toNatClampNeg (50 : Int32)) = some (cv186, cv187, cv188) := ch189
                          unfold f_X0_settles at ch189
                          unfold B_X0_settles_0 at ch189
                          have ch189 := zk_f (by decide) ch189
                          have ch189 := zk_f (by decide) ch189
                          have ch189 := zk_t rfl ch189
                          obtain ⟨cv190, cv191, ch192, ch189⟩ := zk_o2 ch189
                          unfold f_X0_above at ch192
                          unfold B_X0_above_0 at ch192
                          have ch192 := zk_f (by decide) ch192
                          have ch192 := zk_f (by decide) ch192
                          have ch192 := zk_f (by decide) ch192
                          simp only [Option.some.injEq, Prod.mk.injEq] at ch192
                          obtain ⟨rfl, _⟩ := ch192
                          obtain ⟨cv193, cv194, cv195, ch196, ch189⟩ := zk_o3 ch189
                          have ch196 : f_X0_settles (grp_grp140 4) (0 : Int32) x3 ((((0 : Int32) + (1 : Int32)) + (1 : Int32)) + (1 : Int32)) (4 : Int32) x1 (S_askedCount x1.toNatClampNeg) (upd (upd (upd acts_bodies (0 : Int32).toNatClampNeg (51 : Int32)) ((0 : Int32) + (1 : Int32)).toNatClampNeg (2 : Int32)) (((0 : Int32) + (1 : Int32)) + (1 : Int32)).toNatClampNeg (50 : Int32)) = some (cv193, cv194, cv195) := ch196
                          unfold f_X0_settles at ch196
                          unfold B_X0_settles_0 at ch196
                          have ch196 := zk_f (by decide) ch196
                          have ch196 := zk_f (by decide) ch196
                          have ch196 := zk_f (by decide) ch196
                          have ch196 := zk_f (by decide) ch196
                          have ch196 := zk_f (by decide) ch196
                          have ch196 := zk_f (by decide) ch196
                          obtain ⟨cv197, cv198, ch199, ch196⟩ := zk_o2 ch196
                          unfold f_X0_note at ch199
                          unfold B_X0_note_0 at ch199
                          have ch199 := zk_f (by decide) ch199
                          obtain ⟨_, ch199⟩ := zk_gd ch199
                          obtain ⟨cv200, ce201, ch199⟩ := zk_lt ch199
                          subst ce201
                          unfold B_X0_note_19 at ch199
                          obtain ⟨cv202, ce203, ch199⟩ := zk_lt ch199
                          subst ce203
                          simp only [Option.some.injEq, Prod.mk.injEq] at ch199
                          obtain ⟨rfl, rfl⟩ := ch199
                          obtain ⟨cv204, cv205, cv206, ch207, ch196⟩ := zk_o3 ch196
                          have ch207 : f_X0_closes (grp_grp138 6) (4 : Int32) x3 (((((0 : Int32) + (1 : Int32)) + (1 : Int32)) + (1 : Int32)) + (1 : Int32)) (4 : Int32) x1 (S_askedCount x1.toNatClampNeg) (upd (upd (upd (upd acts_bodies (0 : Int32).toNatClampNeg (51 : Int32)) ((0 : Int32) + (1 : Int32)).toNatClampNeg (2 : Int32)) (((0 : Int32) + (1 : Int32)) + (1 : Int32)).toNatClampNeg (50 : Int32)) ((((0 : Int32) + (1 : Int32)) + (1 : Int32)) + (1 : Int32)).toNatClampNeg (10 : Int32)) = some (cv204, cv205, cv206) := ch207
                          unfold f_X0_closes at ch207
                          unfold B_X0_closes_0 at ch207
                          have ch207 := zk_f (by decide) ch207
                          have ch207 := zk_f (by decide) ch207
                          have ch207 := zk_f (by decide) ch207
                          have ch207 := zk_t rfl ch207
                          obtain ⟨cv208, cv209, ch210, ch207⟩ := zk_o2 ch207
                          unfold f_X0_above at ch210
                          unfold B_X0_above_0 at ch210
                          have ch210 := zk_t rfl ch210
                          simp only [Option.some.injEq, Prod.mk.injEq] at ch210
                          obtain ⟨rfl, _⟩ := ch210
                          obtain ⟨cv211, cv212, cv213, ch214, ch207⟩ := zk_o3 ch207
                          have ch214 : f_X0_closes (grp_grp138 5) (3 : Int32) x3 (((((0 : Int32) + (1 : Int32)) + (1 : Int32)) + (1 : Int32)) + (1 : Int32)) (4 : Int32) x1 (S_askedCount x1.toNatClampNeg) (upd (upd (upd (upd acts_bodies (0 : Int32).toNatClampNeg (51 : Int32)) ((0 : Int32) + (1 : Int32)).toNatClampNeg (2 : Int32)) (((0 : Int32) + (1 : Int32)) + (1 : Int32)).toNatClampNeg (50 : Int32)) ((((0 : Int32) + (1 : Int32)) + (1 : Int32)) + (1 : Int32)).toNatClampNeg (10 : Int32)) = some (cv211, cv212, cv213) := ch214
                          unfold f_X0_closes at ch214
                          unfold B_X0_closes_0 at ch214
                          have ch214 := zk_f (by decide) ch214
                          have ch214 := zk_f (by decide) ch214
                          have ch214 := zk_t rfl ch214
                          obtain ⟨cv215, cv216, ch217, ch214⟩ := zk_o2 ch214
                          unfold f_X0_note at ch217
                          unfold B_X0_note_0 at ch217
                          have ch217 := zk_f (by decide) ch217
                          obtain ⟨_, ch217⟩ := zk_gd ch217
                          obtain ⟨cv218, ce219, ch217⟩ := zk_lt ch217
                          subst ce219
                          unfold B_X0_note_19 at ch217
                          obtain ⟨cv220, ce221, ch217⟩ := zk_lt ch217
                          subst ce221
                          simp only [Option.some.injEq, Prod.mk.injEq] at ch217
                          obtain ⟨rfl, rfl⟩ := ch217
                          obtain ⟨cv222, cv223, ch224, ch214⟩ := zk_o2 ch214
                          unfold f_X0_above at ch224
                          unfold B_X0_above_0 at ch224
                          have ch224 := zk_f (by decide) ch224
                          have ch224 := zk_f (by decide) ch224
                          have ch224 := zk_f (by decide) ch224
                          simp only [Option.some.injEq, Prod.mk.injEq] at ch224
                          obtain ⟨rfl, _⟩ := ch224
                          obtain ⟨cv225, cv226, cv227, ch228, ch214⟩ := zk_o3 ch214
                          have ch228 : f_X0_closes (grp_grp138 4) (0 : Int32) x3 ((((((0 : Int32) + (1 : Int32)) + (1 : Int32)) + (1 : Int32)) + (1 : Int32)) + (1 : Int32)) (4 : Int32) x1 (S_askedCount x1.toNatClampNeg) (upd (upd (upd (upd (upd acts_bodies (0 : Int32).toNatClampNeg (51 : Int32)) ((0 : Int32) + (1 : Int32)).toNatClampNeg (2 : Int32)) (((0 : Int32) + (1 : Int32)) + (1 : Int32)).toNatClampNeg (50 : Int32)) ((((0 : Int32) + (1 : Int32)) + (1 : Int32)) + (1 : Int32)).toNatClampNeg (10 : Int32)) (((((0 : Int32) + (1 : Int32)) + (1 : Int32)) + (1 : Int32)) + (1 : Int32)).toNatClampNeg (40 : Int32)) = some (cv225, cv226, cv227) := ch228
                          unfold f_X0_closes at ch228
                          unfold B_X0_closes_0 at ch228
                          have ch228 := zk_f (by decide) ch228
                          have ch228 := zk_f (by decide) ch228
                          have ch228 := zk_f (by decide) ch228
                          have ch228 := zk_f (by decide) ch228
                          have ch228 := zk_f (by decide) ch228
                          have ch228 := zk_f (by decide) ch228
                          obtain ⟨cv229, cv230, ch231, ch228⟩ := zk_o2 ch228
                          unfold f_X0_note at ch231
                          unfold B_X0_note_0 at ch231
                          have ch231 := zk_f (by decide) ch231
                          obtain ⟨_, ch231⟩ := zk_gd ch231
                          obtain ⟨cv232, ce233, ch231⟩ := zk_lt ch231
                          subst ce233
                          unfold B_X0_note_19 at ch231
                          obtain ⟨cv234, ce235, ch231⟩ := zk_lt ch231
                          subst ce235
                          simp only [Option.some.injEq, Prod.mk.injEq] at ch231
                          obtain ⟨rfl, rfl⟩ := ch231
                          simp only [Option.some.injEq, Prod.mk.injEq] at ch228
                          obtain ⟨rfl, rfl, rfl⟩ := ch228
                          simp only [Option.some.injEq, Prod.mk.injEq] at ch214
                          obtain ⟨rfl, rfl, rfl⟩ := ch214
                          simp only [Option.some.injEq, Prod.mk.injEq] at ch207
                          obtain ⟨rfl, rfl, rfl⟩ := ch207
                          simp only [Option.some.injEq, Prod.mk.injEq] at ch196
                          obtain ⟨rfl, rfl, rfl⟩ := ch196
                          simp only [Option.some.injEq, Prod.mk.injEq] at ch189
                          obtain ⟨rfl, rfl, rfl⟩ := ch189
                          simp only [Option.some.injEq, Prod.mk.injEq] at ch175
                          obtain ⟨rfl, rfl, rfl⟩ := ch175
                          obtain ⟨cv236, cv237, cv238, ch239, ch164⟩ := zk_o3 ch164
                          have ch239 : f_X0_binds (grp_grp139 6) (4 : Int32) (1 : Int32) (((((((0 : Int32) + (1 : Int32)) + (1 : Int32)) + (1 : Int32)) + (1 : Int32)) + (1 : Int32)) + (1 : Int32)) (4 : Int32) x1 (S_askedCount x1.toNatClampNeg) (upd (upd (upd (upd (upd (upd acts_bodies (0 : Int32).toNatClampNeg (51 : Int32)) ((0 : Int32) + (1 : Int32)).toNatClampNeg (2 : Int32)) (((0 : Int32) + (1 : Int32)) + (1 : Int32)).toNatClampNeg (50 : Int32)) ((((0 : Int32) + (1 : Int32)) + (1 : Int32)) + (1 : Int32)).toNatClampNeg (10 : Int32)) (((((0 : Int32) + (1 : Int32)) + (1 : Int32)) + (1 : Int32)) + (1 : Int32)).toNatClampNeg (40 : Int32)) ((((((0 : Int32) + (1 : Int32)) + (1 : Int32)) + (1 : Int32)) + (1 : Int32)) + (1 : Int32)).toNatClampNeg (1 : Int32)) = some (cv236, cv237, cv238) := ch239
                          unfold f_X0_binds at ch239
                          unfold B_X0_binds_0 at ch239
                          have ch239 := zk_f (by decide) ch239
                          have ch239 := zk_f (by decide) ch239
                          obtain ⟨cv240, cv241, ch242, ch239⟩ := zk_o2 ch239
                          unfold f_X0_above at ch242
                          unfold B_X0_above_0 at ch242
                          have ch242 := zk_t rfl ch242
                          simp only [Option.some.injEq, Prod.mk.injEq] at ch242
                          obtain ⟨rfl, _⟩ := ch242
                          obtain ⟨cv243, cv244, cv245, ch246, ch239⟩ := zk_o3 ch239
                          have ch246 : f_X0_binds (grp_grp139 5) (3 : Int32) (1 : Int32) (((((((0 : Int32) + (1 : Int32)) + (1 : Int32)) + (1 : Int32)) + (1 : Int32)) + (1 : Int32)) + (1 : Int32)) (4 : Int32) x1 (S_askedCount x1.toNatClampNeg) (upd (upd (upd (upd (upd (upd acts_bodies (0 : Int32).toNatClampNeg (51 : Int32)) ((0 : Int32) + (1 : Int32)).toNatClampNeg (2 : Int32)) (((0 : Int32) + (1 : Int32)) + (1 : Int32)).toNatClampNeg (50 : Int32)) ((((0 : Int32) + (1 : Int32)) + (1 : Int32)) + (1 : Int32)).toNatClampNeg (10 : Int32)) (((((0 : Int32) + (1 : Int32)) + (1 : Int32)) + (1 : Int32)) + (1 : Int32)).toNatClampNeg (40 : Int32)) ((((((0 : Int32) + (1 : Int32)) + (1 : Int32)) + (1 : Int32)) + (1 : Int32)) + (1 : Int32)).toNatClampNeg (1 : Int32)) = some (cv243, cv244, cv245) := ch246
                          unfold f_X0_binds at ch246
                          unfold B_X0_binds_0 at ch246
                          have ch246 := zk_f (by decide) ch246
                          have ch246 := zk_f (by decide) ch246
                          obtain ⟨cv247, cv248, ch249, ch246⟩ := zk_o2 ch246
                          unfold f_X0_above at ch249
                          unfold B_X0_above_0 at ch249
                          have ch249 := zk_f (by decide) ch249
                          have ch249 := zk_f (by decide) ch249
                          have ch249 := zk_f (by decide) ch249
                          simp only [Option.some.injEq, Prod.mk.injEq] at ch249
                          obtain ⟨rfl, _⟩ := ch249
                          obtain ⟨cv250, cv251, cv252, ch253, ch246⟩ := zk_o3 ch246
                          have ch253 : f_X0_binds (grp_grp139 4) (0 : Int32) (1 : Int32) (((((((0 : Int32) + (1 : Int32)) + (1 : Int32)) + (1 : Int32)) + (1 : Int32)) + (1 : Int32)) + (1 : Int32)) (4 : Int32) x1 (S_askedCount x1.toNatClampNeg) (upd (upd (upd (upd (upd (upd acts_bodies (0 : Int32).toNatClampNeg (51 : Int32)) ((0 : Int32) + (1 : Int32)).toNatClampNeg (2 : Int32)) (((0 : Int32) + (1 : Int32)) + (1 : Int32)).toNatClampNeg (50 : Int32)) ((((0 : Int32) + (1 : Int32)) + (1 : Int32)) + (1 : Int32)).toNatClampNeg (10 : Int32)) (((((0 : Int32) + (1 : Int32)) + (1 : Int32)) + (1 : Int32)) + (1 : Int32)).toNatClampNeg (40 : Int32)) ((((((0 : Int32) + (1 : Int32)) + (1 : Int32)) + (1 : Int32)) + (1 : Int32)) + (1 : Int32)).toNatClampNeg (1 : Int32)) = some (cv250, cv251, cv252) := ch253
                          unfold f_X0_binds at ch253
                          unfold B_X0_binds_0 at ch253
                          have ch253 := zk_f (by decide) ch253
                          have ch253 := zk_t (Int32.le_refl _) ch253
                          obtain ⟨cv254, cv255, ch256, ch253⟩ := zk_o2 ch253
                          unfold f_X0_note at ch256
                          unfold B_X0_note_0 at ch256
                          have ch256 := zk_f (by decide) ch256
                          obtain ⟨_, ch256⟩ := zk_gd ch256
                          obtain ⟨cv257, ce258, ch256⟩ := zk_lt ch256
                          subst ce258
                          unfold B_X0_note_19 at ch256
                          obtain ⟨cv259, ce260, ch256⟩ := zk_lt ch256
                          subst ce260
                          simp only [Option.some.injEq, Prod.mk.injEq] at ch256
                          obtain ⟨rfl, rfl⟩ := ch256
                          simp only [Option.some.injEq, Prod.mk.injEq] at ch253
                          obtain ⟨rfl, rfl, rfl⟩ := ch253
                          simp only [Option.some.injEq, Prod.mk.injEq] at ch246
                          obtain ⟨rfl, rfl, rfl⟩ := ch246
                          simp only [Option.some.injEq, Prod.mk.injEq] at ch239
                          obtain ⟨rfl, rfl, rfl⟩ := ch239
                          simp only [Option.some.injEq, Prod.mk.injEq] at ch164
                          obtain ⟨rfl, rfl, rfl⟩ := ch164
                          simp only [Option.some.injEq, Prod.mk.injEq] at ch157
                          obtain ⟨rfl, rfl, rfl⟩ := ch157
                          simp only [Option.some.injEq, Prod.mk.injEq] at ch143
                          obtain ⟨rfl, rfl, rfl⟩ := ch143
                          have hi : x1.toNatClampNeg < court_suitCount.toInt.toNat := by rw [tcn]; omega
                          have ea : mod_askedMany x1.toNatClampNeg = S_askedCount x1.toNatClampNeg := (hA _ hi).symm
                          unfold B_X12_act_0 at k
                          replace k := zk_o2 k
                          obtain ⟨mv140, mv141, mh142, k⟩ := k
                          unfold f_X12_isSuit at mh142
                          unfold B_X12_isSuit_0 at mh142
                          obtain ⟨mv143, mv144, mh145, mh142⟩ := zk_o2 mh142
                          unfold f_X12_in at mh145
                          unfold B_X12_in_0 at mh145
                          have mh145 := zk_f cc4 mh145
                          have mh145 := zk_f (by (try simp only [i32_lt, i32_le, i32_e, z32_0, z32_1]); omega) mh145
                          simp only [Option.some.injEq, Prod.mk.injEq] at mh145
                          obtain ⟨rfl, _⟩ := mh145
                          obtain ⟨_, mh142⟩ := zk_gd mh142
                          simp only [Option.some.injEq, Prod.mk.injEq] at mh142
                          obtain ⟨rfl, _⟩ := mh142
                          replace k := zk_f (by decide) k
                          replace k := zk_o2 k
                          obtain ⟨mv146, mv147, mh148, k⟩ := k
                          unfold f_X12_in at mh148
                          unfold B_X12_in_0 at mh148
                          have mh148 := zk_f (by (try simp only [i32_lt, i32_le, i32_e, z32_0, z32_1]); omega) mh148
                          have mh148 := zk_f (by (try simp only [i32_lt, i32_le, i32_e, z32_0, z32_1, z32L_3]); omega) mh148
                          simp only [Option.some.injEq, Prod.mk.injEq] at mh148
                          obtain ⟨rfl, _⟩ := mh148
                          replace k := zk_f (by decide) k
                          replace k := zk_f cc15 k
                          replace k := zk_f cc48 k
                          replace k := zk_f cc113 k
                          replace k := zk_o3 k
                          obtain ⟨mv149, mv150, mv151, mh152, k⟩ := k
                          unfold f_X12_tells at mh152
                          unfold B_X12_tells_0 at mh152
                          obtain ⟨mv153, mv154, mh155, mh152⟩ := zk_o2 mh152
                          obtain mq156 := bk12_e (hB12 hi) mh155
                          replace mq156 := mq156.symm
                          subst mq156
                          have mh152 := zk_t rfl mh152
                          obtain ⟨mv157, mv158, mh159, mh152⟩ := zk_o2 mh152
                          unfold f_X12_ran at mh159
                          unfold B_X12_ran_0 at mh159
                          have mh159 := zk_f (by decide) mh159
                          obtain ⟨_, mh159⟩ := zk_gd mh159
                          obtain ⟨mv160, me161, mh159⟩ := zk_lt mh159
                          subst me161
                          unfold B_X12_ran_19 at mh159
                          obtain ⟨mv162, me163, mh159⟩ := zk_lt mh159
                          subst me163
                          simp only [Option.some.injEq, Prod.mk.injEq] at mh159
                          obtain ⟨rfl, rfl⟩ := mh159
                          obtain ⟨mv164, mv165, mv166, mh167, mh152⟩ := zk_o3 mh152
                          unfold f_X12_plainTells at mh167
                          unfold B_X12_plainTells_0 at mh167
                          obtain ⟨mv168, mv169, mh170, mh167⟩ := zk_o2 mh167
                          unfold f_X12_ran at mh170
                          unfold B_X12_ran_0 at mh170
                          have mh170 := zk_f (by decide) mh170
                          obtain ⟨_, mh170⟩ := zk_gd mh170
                          obtain ⟨mv171, me172, mh170⟩ := zk_lt mh170
                          subst me172
                          unfold B_X12_ran_19 at mh170
                          obtain ⟨mv173, me174, mh170⟩ := zk_lt mh170
                          subst me174
                          simp only [Option.some.injEq, Prod.mk.injEq] at mh170
                          obtain ⟨rfl, rfl⟩ := mh170
                          obtain ⟨mv175, mv176, mv177, mh178, mh167⟩ := zk_o3 mh167
                          unfold f_X12_settles at mh178
                          unfold B_X12_settles_0 at mh178
                          obtain ⟨mv179, mv180, mh181, mh178⟩ := zk_o2 mh178
                          obtain mq182 := bk12_e (hB12 hi) mh181
                          replace mq182 := mq182.symm
                          subst mq182
                          have mh178 := zk_t rfl mh178
                          obtain ⟨mv183, mv184, mh185, mh178⟩ := zk_o2 mh178
                          unfold f_X12_ran at mh185
                          unfold B_X12_ran_0 at mh185
                          have mh185 := zk_f (by decide) mh185
                          obtain ⟨_, mh185⟩ := zk_gd mh185
                          obtain ⟨mv186, me187, mh185⟩ := zk_lt mh185
                          subst me187
                          unfold B_X12_ran_19 at mh185
                          obtain ⟨mv188, me189, mh185⟩ := zk_lt mh185
                          subst me189
                          simp only [Option.some.injEq, Prod.mk.injEq] at mh185
                          obtain ⟨rfl, rfl⟩ := mh185
                          obtain ⟨mv190, mv191, mv192, mh193, mh178⟩ := zk_o3 mh178
                          unfold f_X12_plainSettles at mh193
                          unfold B_X12_plainSettles_0 at mh193
                          obtain ⟨mv194, mv195, mh196, mh193⟩ := zk_o2 mh193
                          unfold f_X12_ran at mh196
                          unfold B_X12_ran_0 at mh196
                          have mh196 := zk_f (by decide) mh196
                          obtain ⟨_, mh196⟩ := zk_gd mh196
                          obtain ⟨mv197, me198, mh196⟩ := zk_lt mh196
                          subst me198
                          unfold B_X12_ran_19 at mh196
                          obtain ⟨mv199, me200, mh196⟩ := zk_lt mh196
                          subst me200
                          simp only [Option.some.injEq, Prod.mk.injEq] at mh196
                          obtain ⟨rfl, rfl⟩ := mh196
                          obtain ⟨mv201, mv202, mv203, mh204, mh193⟩ := zk_o3 mh193
                          unfold f_X12_closes at mh204
                          unfold B_X12_closes_0 at mh204
                          rw [ea] at mh204
                          obtain ⟨mv205, mv206, mh207, mh204⟩ := zk_o2 mh204
                          obtain mq208 := bk12_e (hB12 hi) mh207
                          replace mq208 := mq208.symm
                          subst mq208
                          have mh204 := zk_f (by decide) mh204
                          have mh204 := zk_t rfl mh204
                          unfold B_X12_closes_16 at mh204
                          obtain ⟨mv209, mv210, mh211, mh204⟩ := zk_o2 mh204
                          unfold f_X12_ran at mh211
                          unfold B_X12_ran_0 at mh211
                          have mh211 := zk_f (by decide) mh211
                          obtain ⟨_, mh211⟩ := zk_gd mh211
                          obtain ⟨mv212, me213, mh211⟩ := zk_lt mh211
                          subst me213
                          unfold B_X12_ran_19 at mh211
                          obtain ⟨mv214, me215, mh211⟩ := zk_lt mh211
                          subst me215
                          simp only [Option.some.injEq, Prod.mk.injEq] at mh211
                          obtain ⟨rfl, rfl⟩ := mh211
                          obtain ⟨mv216, mv217, mv218, mh219, mh204⟩ := zk_o3 mh204
                          unfold f_X12_plainCloses at mh219
                          unfold B_X12_plainCloses_0 at mh219
                          obtain ⟨mv220, mv221, mh222, mh219⟩ := zk_o2 mh219
                          unfold f_X12_ran at mh222
                          unfold B_X12_ran_0 at mh222
                          have mh222 := zk_f (by decide) mh222
                          obtain ⟨_, mh222⟩ := zk_gd mh222
                          obtain ⟨mv223, me224, mh222⟩ := zk_lt mh222
                          subst me224
                          unfold B_X12_ran_19 at mh222
                          obtain ⟨mv225, me226, mh222⟩ := zk_lt mh222
                          subst me226
                          simp only [Option.some.injEq, Prod.mk.injEq] at mh222
                          obtain ⟨rfl, rfl⟩ := mh222
                          simp only [Option.some.injEq, Prod.mk.injEq] at mh219
                          obtain ⟨rfl, rfl, rfl⟩ := mh219
                          simp only [Option.some.injEq, Prod.mk.injEq] at mh204
                          obtain ⟨rfl, rfl, rfl⟩ := mh204
                          simp only [Option.some.injEq, Prod.mk.injEq] at mh193
                          obtain ⟨rfl, rfl, rfl⟩ := mh193
                          simp only [Option.some.injEq, Prod.mk.injEq] at mh178
                          obtain ⟨rfl, rfl, rfl⟩ := mh178
                          obtain ⟨mv227, mv228, mv229, mh230, mh167⟩ := zk_o3 mh167
                          unfold f_X12_binds at mh230
                          unfold B_X12_binds_0 at mh230
                          obtain ⟨mv231, mv232, mh233, mh230⟩ := zk_o2 mh230
                          obtain mq234 := bk12_e (hB12 hi) mh233
                          replace mq234 := mq234.symm
                          subst mq234
                          obtain ⟨mv235, mv236, mh237, mh230⟩ := zk_o2 mh230
                          unfold f_X12_isUnder at mh237
                          unfold B_X12_isUnder_0 at mh237
                          have mh237 := zk_f (by decide) mh237
                          have mh237 := zk_f (by decide) mh237
                          have mh237 := zk_f (by decide) mh237
                          unfold B_X12_isUnder_19 at mh237
                          have mh237 := zk_t rfl mh237
                          have mh237 := zk_f (by decide) mh237
                          unfold B_X12_isUnder_29 at mh237
                          have mh237 := zk_f (by decide) mh237
                          simp only [Option.some.injEq, Prod.mk.injEq] at mh237
                          obtain ⟨rfl, _⟩ := mh237
                          have mh230 := zk_t rfl mh230
                          obtain ⟨mv238, mv239, mv240, mh241, mh230⟩ := zk_o3 mh230
                          unfold f_X12_plainBinds at mh241
                          unfold B_X12_plainBinds_0 at mh241
                          obtain ⟨mv242, mv243, mh244, mh241⟩ := zk_o2 mh241
                          unfold f_X12_ran at mh244
                          unfold B_X12_ran_0 at mh244
                          have mh244 := zk_f (by decide) mh244
                          obtain ⟨_, mh244⟩ := zk_gd mh244
                          obtain ⟨mv245, me246, mh244⟩ := zk_lt mh244
                          subst me246
                          unfold B_X12_ran_19 at mh244
                          obtain ⟨mv247, me248, mh244⟩ := zk_lt mh244
                          subst me248
                          simp only [Option.some.injEq, Prod.mk.injEq] at mh244
                          obtain ⟨rfl, rfl⟩ := mh244
                          simp only [Option.some.injEq, Prod.mk.injEq] at mh241
                          obtain ⟨rfl, rfl, rfl⟩ := mh241
                          simp only [Option.some.injEq, Prod.mk.injEq] at mh230
                          obtain ⟨rfl, rfl, rfl⟩ := mh230
                          simp only [Option.some.injEq, Prod.mk.injEq] at mh167
                          obtain ⟨rfl, rfl, rfl⟩ := mh167
                          simp only [Option.some.injEq, Prod.mk.injEq] at mh152
                          obtain ⟨rfl, rfl, rfl⟩ := mh152
                          replace h := Option.some.inj h
                          replace k := Option.some.inj k
                          subst h
                          subst k
                          try dsimp only
                          all_goals first
                          | (exfalso; omega)
                          | exact ⟨rfl, rfl, fun e => by first | exact e | rw [e]⟩
                          | exact ⟨rfl, rfl, fun e => by rw [e]; rfl⟩
                      · replace h := zk_f cc139 h
                        have cc139n := cc139
                        (try simp only [i32_lt, i32_le, i32_e, z32_0, z32_1, z32L_3] at cc139n)
                        first
                        | (exfalso; omega)
                        | have hi : x1.toNatClampNeg < court_suitCount.toInt.toNat := by rw [tcn]; omega
                          have ea : mod_askedMany x1.toNatClampNeg = S_askedCount x1.toNatClampNeg := (hA _ hi).symm
                          unfold B_X12_act_0 at k
                          replace k := zk_o2 k
                          obtain ⟨mv249, mv250, mh251, k⟩ := k
                          unfold f_X12_isSuit at mh251
                          unfold B_X12_isSuit_0 at mh251
                          obtain ⟨mv252, mv253, mh254, mh251⟩ := zk_o2 mh251
                          unfold f_X12_in at mh254
                          unfold B_X12_in_0 at mh254
                          have mh254 := zk_f cc4 mh254
                          have mh254 := zk_f (by (try simp only [i32_lt, i32_le, i32_e, z32_0, z32_1]); omega) mh254
                          simp only [Option.some.injEq, Prod.mk.injEq] at mh254
                          obtain ⟨rfl, _⟩ := mh254
                          obtain ⟨_, mh251⟩ := zk_gd mh251
                          simp only [Option.some.injEq, Prod.mk.injEq] at mh251
                          obtain ⟨rfl, _⟩ := mh251
                          replace k := zk_f (by decide) k
                          replace k := zk_o2 k
                          obtain ⟨mv255, mv256, mh257, k⟩ := k
                          unfold f_X12_in at mh257
                          unfold B_X12_in_0 at mh257
                          by_cases mc258 : x2 < (0 : Int32)
                          · have mh257 := zk_t mc258 mh257
                            have mc258n := mc258
                            (try simp only [i32_lt, i32_le, i32_e, z32_0, z32_1] at mc258n)
                            first
                            | (exfalso; omega)
                            | simp only [Option.some.injEq, Prod.mk.injEq] at mh257
                              obtain ⟨rfl, _⟩ := mh257
                              replace k := zk_t rfl k
                              replace h := Option.some.inj h
                              replace k := Option.some.inj k
                              subst h
                              subst k
                              try dsimp only
                              all_goals first
                              | (exfalso; omega)
                              | exact ⟨rfl, rfl, fun e => by first | exact e | rw [e]⟩
                              | exact ⟨rfl, rfl, fun e => by rw [e]; rfl⟩
                          · have mh257 := zk_f mc258 mh257
                            have mc258n := mc258
                            (try simp only [i32_lt, i32_le, i32_e, z32_0, z32_1] at mc258n)
                            first
                            | (exfalso; omega)
                            | by_cases mc259 : (3 : Int32) < x2
                              · have mh257 := zk_t mc259 mh257
                                have mc259n := mc259
                                (try simp only [i32_lt, i32_le, i32_e, z32_0, z32_1, z32L_3] at mc259n)
                                first
                                | (exfalso; omega)
                                | simp only [Option.some.injEq, Prod.mk.injEq] at mh257
                                  obtain ⟨rfl, _⟩ := mh257
                                  replace k := zk_t rfl k
                                  replace h := Option.some.inj h
                                  replace k := Option.some.inj k
                                  subst h
                                  subst k
                                  try dsimp only
                                  all_goals first
                                  | (exfalso; omega)
                                  | exact ⟨rfl, rfl, fun e => by first | exact e | rw [e]⟩
                                  | exact ⟨rfl, rfl, fun e => by rw [e]; rfl⟩
                              · have mh257 := zk_f mc259 mh257
                                have mc259n := mc259
                                (try simp only [i32_lt, i32_le, i32_e, z32_0, z32_1, z32L_3] at mc259n)
                                first
                                | (exfalso; omega)
                                | simp only [Option.some.injEq, Prod.mk.injEq] at mh257
                                  obtain ⟨rfl, _⟩ := mh257
                                  replace k := zk_f (by decide) k
                                  replace k := zk_f cc15 k
                                  replace k := zk_f cc48 k
                                  replace k := zk_f cc113 k
                                  replace k := zk_o3 k
                                  obtain ⟨mv260, mv261, mv262, mh263, k⟩ := k
                                  unfold f_X12_tells at mh263
                                  unfold B_X12_tells_0 at mh263
                                  obtain ⟨mv264, mv265, mh266, mh263⟩ := zk_o2 mh263
                                  obtain mq267 := bk12_e (hB12 hi) mh266
                                  replace mq267 := mq267.symm
                                  subst mq267
                                  have mh263 := zk_t rfl mh263
                                  obtain ⟨mv268, mv269, mh270, mh263⟩ := zk_o2 mh263
                                  unfold f_X12_ran at mh270
                                  unfold B_X12_ran_0 at mh270
                                  have mh270 := zk_f (by decide) mh270
                                  obtain ⟨_, mh270⟩ := zk_gd mh270
                                  obtain ⟨mv271, me272, mh270⟩ := zk_lt mh270
                                  subst me272
                                  unfold B_X12_ran_19 at mh270
                                  obtain ⟨mv273, me274, mh270⟩ := zk_lt mh270
                                  subst me274
                                  simp only [Option.some.injEq, Prod.mk.injEq] at mh270
                                  obtain ⟨rfl, rfl⟩ := mh270
                                  obtain ⟨mv275, mv276, mv277, mh278, mh263⟩ := zk_o3 mh263
                                  unfold f_X12_plainTells at mh278
                                  unfold B_X12_plainTells_0 at mh278
                                  obtain ⟨mv279, mv280, mh281, mh278⟩ := zk_o2 mh278
                                  unfold f_X12_ran at mh281
                                  unfold B_X12_ran_0 at mh281
                                  have mh281 := zk_f (by decide) mh281
                                  obtain ⟨_, mh281⟩ := zk_gd mh281
                                  obtain ⟨mv282, me283, mh281⟩ := zk_lt mh281
                                  subst me283
                                  unfold B_X12_ran_19 at mh281
                                  obtain ⟨mv284, me285, mh281⟩ := zk_lt mh281
                                  subst me285
                                  simp only [Option.some.injEq, Prod.mk.injEq] at mh281
                                  obtain ⟨rfl, rfl⟩ := mh281
                                  obtain ⟨mv286, mv287, mv288, mh289, mh278⟩ := zk_o3 mh278
                                  unfold f_X12_settles at mh289
                                  unfold B_X12_settles_0 at mh289
                                  obtain ⟨mv290, mv291, mh292, mh289⟩ := zk_o2 mh289
                                  obtain mq293 := bk12_e (hB12 hi) mh292
                                  replace mq293 := mq293.symm
                                  subst mq293
                                  have mh289 := zk_t rfl mh289
                                  obtain ⟨mv294, mv295, mh296, mh289⟩ := zk_o2 mh289
                                  unfold f_X12_ran at mh296
                                  unfold B_X12_ran_0 at mh296
                                  have mh296 := zk_f (by decide) mh296
                                  obtain ⟨_, mh296⟩ := zk_gd mh296
                                  obtain ⟨mv297, me298, mh296⟩ := zk_lt mh296
                                  subst me298
                                  unfold B_X12_ran_19 at mh296
                                  obtain ⟨mv299, me300, mh296⟩ := zk_lt mh296
                                  subst me300
                                  simp only [Option.some.injEq, Prod.mk.injEq] at mh296
                                  obtain ⟨rfl, rfl⟩ := mh296
                                  obtain ⟨mv301, mv302, mv303, mh304, mh289⟩ := zk_o3 mh289
                                  unfold f_X12_plainSettles at mh304
                                  unfold B_X12_plainSettles_0 at mh304
                                  obtain ⟨mv305, mv306, mh307, mh304⟩ := zk_o2 mh304
                                  unfold f_X12_ran at mh307
                                  unfold B_X12_ran_0 at mh307
                                  have mh307 := zk_f (by decide) mh307
                                  obtain ⟨_, mh307⟩ := zk_gd mh307
                                  obtain ⟨mv308, me309, mh307⟩ := zk_lt mh307
                                  subst me309
                                  unfold B_X12_ran_19 at mh307
                                  obtain ⟨mv310, me311, mh307⟩ := zk_lt mh307
                                  subst me311
                                  simp only [Option.some.injEq, Prod.mk.injEq] at mh307
                                  obtain ⟨rfl, rfl⟩ := mh307
                                  obtain ⟨mv312, mv313, mv314, mh315, mh304⟩ := zk_o3 mh304
                                  unfold f_X12_closes at mh315
                                  unfold B_X12_closes_0 at mh315
                                  rw [ea] at mh315
                                  obtain ⟨mv316, mv317, mh318, mh315⟩ := zk_o2 mh315
                                  obtain mq319 := bk12_e (hB12 hi) mh318
                                  replace mq319 := mq319.symm
                                  subst mq319
                                  have mh315 := zk_f (by decide) mh315
                                  have mh315 := zk_t rfl mh315
                                  unfold B_X12_closes_16 at mh315
                                  obtain ⟨mv320, mv321, mh322, mh315⟩ := zk_o2 mh315
                                  unfold f_X12_ran at mh322
                                  unfold B_X12_ran_0 at mh322
                                  have mh322 := zk_f (by decide) mh322
                                  obtain ⟨_, mh322⟩ := zk_gd mh322
                                  obtain ⟨mv323, me324, mh322⟩ := zk_lt mh322
                                  subst me324
                                  unfold B_X12_ran_19 at mh322
                                  obtain ⟨mv325, me326, mh322⟩ := zk_lt mh322
                                  subst me326
                                  simp only [Option.some.injEq, Prod.mk.injEq] at mh322
                                  obtain ⟨rfl, rfl⟩ := mh322
                                  obtain ⟨mv327, mv328, mv329, mh330, mh315⟩ := zk_o3 mh315
                                  unfold f_X12_plainCloses at mh330
                                  unfold B_X12_plainCloses_0 at mh330
                                  obtain ⟨mv331, mv332, mh333, mh330⟩ := zk_o2 mh330
                                  unfold f_X12_ran at mh333
                                  unfold B_X12_ran_0 at mh333
                                  have mh333 := zk_f (by decide) mh333
                                  obtain ⟨_, mh333⟩ := zk_gd mh333
                                  obtain ⟨mv334, me335, mh333⟩ := zk_lt mh333
                                  subst me335
                                  unfold B_X12_ran_19 at mh333
                                  obtain ⟨mv336, me337, mh333⟩ := zk_lt mh333
                                  subst me337
                                  simp only [Option.some.injEq, Prod.mk.injEq] at mh333
                                  obtain ⟨rfl, rfl⟩ := mh333
                                  simp only [Option.some.injEq, Prod.mk.injEq] at mh330
                                  obtain ⟨rfl, rfl, rfl⟩ := mh330
                                  simp only [Option.some.injEq, Prod.mk.injEq] at mh315
                                  obtain ⟨rfl, rfl, rfl⟩ := mh315
                                  simp only [Option.some.injEq, Prod.mk.injEq] at mh304
                                  obtain ⟨rfl, rfl, rfl⟩ := mh304
                                  simp only [Option.some.injEq, Prod.mk.injEq] at mh289
                                  obtain ⟨rfl, rfl, rfl⟩ := mh289
                                  obtain ⟨mv338, mv339, mv340, mh341, mh278⟩ := zk_o3 mh278
                                  unfold f_X12_binds at mh341
                                  unfold B_X12_binds_0 at mh341
                                  obtain ⟨mv342, mv343, mh344, mh341⟩ := zk_o2 mh341
                                  obtain mq345 := bk12_e (hB12 hi) mh344
                                  replace mq345 := mq345.symm
                                  subst mq345
                                  obtain ⟨mv346, mv347, mh348, mh341⟩ := zk_o2 mh341
                                  unfold f_X12_isUnder at mh348
                                  unfold B_X12_isUnder_0 at mh348
                                  have mh348 := zk_f (by decide) mh348
                                  have mh348 := zk_f (by decide) mh348
                                  have mh348 := zk_f (by decide) mh348
                                  unfold B_X12_isUnder_19 at mh348
                                  have mh348 := zk_t rfl mh348
                                  have mh348 := zk_f (by decide) mh348
                                  unfold B_X12_isUnder_29 at mh348
                                  have mh348 := zk_f (by decide) mh348
                                  simp only [Option.some.injEq, Prod.mk.injEq] at mh348
                                  obtain ⟨rfl, _⟩ := mh348
                                  have mh341 := zk_t rfl mh341
                                  obtain ⟨mv349, mv350, mv351, mh352, mh341⟩ := zk_o3 mh341
                                  unfold f_X12_plainBinds at mh352
                                  unfold B_X12_plainBinds_0 at mh352
                                  obtain ⟨mv353, mv354, mh355, mh352⟩ := zk_o2 mh352
                                  unfold f_X12_ran at mh355
                                  unfold B_X12_ran_0 at mh355
                                  have mh355 := zk_f (by decide) mh355
                                  obtain ⟨_, mh355⟩ := zk_gd mh355
                                  obtain ⟨mv356, me357, mh355⟩ := zk_lt mh355
                                  subst me357
                                  unfold B_X12_ran_19 at mh355
                                  obtain ⟨mv358, me359, mh355⟩ := zk_lt mh355
                                  subst me359
                                  simp only [Option.some.injEq, Prod.mk.injEq] at mh355
                                  obtain ⟨rfl, rfl⟩ := mh355
                                  simp only [Option.some.injEq, Prod.mk.injEq] at mh352
                                  obtain ⟨rfl, rfl, rfl⟩ := mh352
                                  simp only [Option.some.injEq, Prod.mk.injEq] at mh341
                                  obtain ⟨rfl, rfl, rfl⟩ := mh341
                                  simp only [Option.some.injEq, Prod.mk.injEq] at mh278
                                  obtain ⟨rfl, rfl, rfl⟩ := mh278
                                  simp only [Option.some.injEq, Prod.mk.injEq] at mh263
                                  obtain ⟨rfl, rfl, rfl⟩ := mh263
                                  replace h := Option.some.inj h
                                  replace k := Option.some.inj k
                                  subst h
                                  subst k
                                  try dsimp only
                                  all_goals first
                                  | (exfalso; omega)
                                  | exact ⟨rfl, rfl, fun e => by first | exact e | rw [e]⟩
                                  | exact ⟨rfl, rfl, fun e => by rw [e]; rfl⟩

set_option maxHeartbeats 4000000 in
set_option maxRecDepth 20000 in
theorem pw_act5 {mod_code : Int32} {court_shoeCount : Int32} {mod_claims : Int32} {ts : Int32} {at_ : Int32} {f : Int32} {court_suitCount : Int32} {mod_doneMany : Int32} {mod_undoneMany : Int32} {mod_open : Int32} {mod_laid : Int32} {mod_isBoth : Int32} {mod_wished : Int32} {mod_bestMany : Int32} {mod_bestRow : Int32} {mod_ringDigits : Int32} {mod_traces : Int32} {mod_askedMany : Nat → Int32} {mod_endKind : Nat → Int32} {mod_undoneFrom : Nat → Int32} {mod_traced : Nat → Int32} {court_claimCount : Int32} {court_suits : Nat → Option Nat} {S_who : Nat → Int32} {S_against : Nat → Int32} {S_kind : Nat → Int32} {S_won : Nat → Int32} {S_day : Nat → Int32} {S_land : Nat → Int32} {S_undoneFrom : Nat → Int32} {S_asked : Nat → Nat → Int32} {S_askedCount : Nat → Int32} {S_askedBits : Nat → Int32} {S_first : Nat → Int32} {S_foundSo : Nat → Int32} {S_foundNot : Nat → Int32} {S_fought : Nat → Int32} {S_needed : Nat → Int32} {acts_ran : Int32} {acts_kind : Int32} {acts_number : Int32} {acts_claims : Int32} {acts_bodies : Nat → Int32} {x1 x2 x3 : Int32} {R : Int32 × Int32 × Int32 × Int32 × Int32 × (Nat → Int32)} {Q : Int32 × Int32 × (Nat → Int32)} (hn : 0 ≤ court_suitCount.toInt ∧ court_suitCount.toInt ≤ 40) (hA : WU court_suitCount S_askedCount mod_askedMany) (hB8 : ((S_undoneFrom x1.toNatClampNeg).toInt < 0 ∧ S_kind x1.toNatClampNeg = (5 : Int32)) ∨ (0 ≤ (S_undoneFrom x1.toNatClampNeg).toInt ∧ (5 : Int32) = 5)) (hB12 : x1.toNatClampNeg < court_suitCount.toInt.toNat → ((mod_undoneFrom x1.toNatClampNeg).toInt < 0 ∧ mod_endKind x1.toNatClampNeg = (5 : Int32)) ∨ (0 ≤ (mod_undoneFrom x1.toNatClampNeg).toInt ∧ (5 : Int32) = 5)) (h : f_X11_act x1 x2 x3 court_shoeCount court_claimCount court_suitCount court_suits acts_ran acts_kind acts_number acts_claims acts_bodies S_who S_against S_kind S_won S_day S_land S_undoneFrom S_asked S_askedCount S_askedBits S_first S_foundSo S_foundNot S_fought S_needed = some R) (k : f_X12_act x1 x2 x3 mod_code court_shoeCount mod_claims ts at_ f court_suitCount mod_doneMany mod_undoneMany mod_open mod_laid mod_isBoth mod_wished mod_bestMany mod_bestRow mod_ringDigits mod_traces mod_endKind mod_undoneFrom mod_askedMany mod_traced = some Q) : R.1 = Q.1 ∧ R.2.1 = Q.2.1 ∧ (acts_bodies = mod_traced → R.2.2.2.2.2 = Q.2.2) := by
  have hn1 := i32_m1 (a := court_suitCount) (by omega)
  unfold f_X11_act at h
  unfold f_X12_act at k
  unfold B_X11_act_0 at h
  replace h := zk_o2 h
  obtain ⟨cv1, cv2, ch3, h⟩ := h
  unfold f_X2_suitAt at ch3
  unfold B_X2_suitAt_0 at ch3
  by_cases cc4 : x1 < 0
  · have ch3 := zk_t cc4 ch3
    have cc4n := cc4
    (try simp only [i32_lt, i32_le, i32_e, z32_0, z32_1] at cc4n)
    first
    | (exfalso; omega)
    | simp only [Option.some.injEq, Prod.mk.injEq] at ch3
      obtain ⟨rfl, _⟩ := ch3
      replace h := zk_t (by decide) h
      unfold B_X12_act_0 at k
      replace k := zk_o2 k
      obtain ⟨mv1, mv2, mh3, k⟩ := k
      unfold f_X12_isSuit at mh3
      unfold B_X12_isSuit_0 at mh3
      obtain ⟨mv4, mv5, mh6, mh3⟩ := zk_o2 mh3
      unfold f_X12_in at mh6
      unfold B_X12_in_0 at mh6
      have mh6 := zk_t cc4 mh6
      simp only [Option.some.injEq, Prod.mk.injEq] at mh6
      obtain ⟨rfl, _⟩ := mh6
      obtain ⟨_, mh3⟩ := zk_gd mh3
      simp only [Option.some.injEq, Prod.mk.injEq] at mh3
      obtain ⟨rfl, _⟩ := mh3
      replace k := zk_t rfl k
      replace h := Option.some.inj h
      replace k := Option.some.inj k
      subst h
      subst k
      try dsimp only
      all_goals first
      | (exfalso; omega)
      | exact ⟨rfl, rfl, fun e => by first | exact e | rw [e]⟩
      | exact ⟨rfl, rfl, fun e => by rw [e]; rfl⟩
  · have ch3 := zk_f cc4 ch3
    have cc4n := cc4
    (try simp only [i32_lt, i32_le, i32_e, z32_0, z32_1] at cc4n)
    first
    | (exfalso; omega)
    | by_cases cc5 : court_suitCount ≤ x1
      · have ch3 := zk_t cc5 ch3
        have cc5n := cc5
        (try simp only [i32_lt, i32_le, i32_e, z32_0, z32_1] at cc5n)
        first
        | (exfalso; omega)
        | simp only [Option.some.injEq, Prod.mk.injEq] at ch3
          obtain ⟨rfl, _⟩ := ch3
          replace h := zk_t (by decide) h
          unfold B_X12_act_0 at k
          replace k := zk_o2 k
          obtain ⟨mv7, mv8, mh9, k⟩ := k
          unfold f_X12_isSuit at mh9
          unfold B_X12_isSuit_0 at mh9
          obtain ⟨mv10, mv11, mh12, mh9⟩ := zk_o2 mh9
          unfold f_X12_in at mh12
          unfold B_X12_in_0 at mh12
          have mh12 := zk_f cc4 mh12
          have mh12 := zk_t (by (try simp only [i32_lt, i32_le, i32_e, z32_0, z32_1]); omega) mh12
          simp only [Option.some.injEq, Prod.mk.injEq] at mh12
          obtain ⟨rfl, _⟩ := mh12
          obtain ⟨_, mh9⟩ := zk_gd mh9
          simp only [Option.some.injEq, Prod.mk.injEq] at mh9
          obtain ⟨rfl, _⟩ := mh9
          replace k := zk_t rfl k
          replace h := Option.some.inj h
          replace k := Option.some.inj k
          subst h
          subst k
          try dsimp only
          all_goals first
          | (exfalso; omega)
          | exact ⟨rfl, rfl, fun e => by first | exact e | rw [e]⟩
          | exact ⟨rfl, rfl, fun e => by rw [e]; rfl⟩
      · have ch3 := zk_f cc5 ch3
        have cc5n := cc5
        (try simp only [i32_lt, i32_le, i32_e, z32_0, z32_1] at cc5n)
        first
        | (exfalso; omega)
        | obtain ⟨_, ch3⟩ := zk_gd ch3
          obtain ⟨_, ch3⟩ := zk_gd ch3
          obtain ⟨_, ch3⟩ := zk_gd ch3
          simp only [Option.some.injEq, Prod.mk.injEq] at ch3
          obtain ⟨rfl, _⟩ := ch3
          replace h := zk_f cc4 h
          replace h := zk_gd h
          obtain ⟨_, h⟩ := h
          replace h := zk_o2 h
          obtain ⟨cv6, cv7, ch8, h⟩ := h
          obtain cq9 := bk8_e hB8 ch8
          replace cq9 := cq9.symm
          subst cq9
          replace h := zk_gd h
          obtain ⟨_, h⟩ := h
          replace h := zk_o4 h
          obtain ⟨cv10, cv11, cv12, cv13, ch14, h⟩ := h
          unfold f_X0_begin at ch14
          unfold B_X0_begin_0 at ch14
          simp only [Option.some.injEq, Prod.mk.injEq] at ch14
          obtain ⟨rfl, rfl, rfl, rfl⟩ := ch14
          by_cases cc15 : x2 = (0 : Int32)
          · replace h := zk_t cc15 h
            have cc15n := cc15
            (try simp only [i32_lt, i32_le, i32_e, z32_0, z32_1] at cc15n)
            first
            | (exfalso; omega)
            | obtain ⟨cv16, cv17, cv18, ch19, h⟩ := zk_o3 h
              have ch19 : f_X0_closes (grp_grp138 6) (5 : Int32) x3 (0 : Int32) (5 : Int32) x1 (S_askedCount x1.toNatClampNeg) acts_bodies = some (cv16, cv17, cv18) := ch19
              unfold f_X0_closes at ch19
              unfold B_X0_closes_0 at ch19
              have ch19 := zk_f (by decide) ch19
              have ch19 := zk_f (by decide) ch19
              have ch19 := zk_f (by decide) ch19
              have ch19 := zk_f (by decide) ch19
              have ch19 := zk_t rfl ch19
              obtain ⟨cv20, cv21, ch22, ch19⟩ := zk_o2 ch19
              unfold f_X0_note at ch22
              unfold B_X0_note_0 at ch22
              have ch22 := zk_f (by decide) ch22
              obtain ⟨_, ch22⟩ := zk_gd ch22
              obtain ⟨cv23, ce24, ch22⟩ := zk_lt ch22
              subst ce24
              unfold B_X0_note_19 at ch22
              obtain ⟨cv25, ce26, ch22⟩ := zk_lt ch22
              subst ce26
              simp only [Option.some.injEq, Prod.mk.injEq] at ch22
              obtain ⟨rfl, rfl⟩ := ch22
              obtain ⟨cv27, cv28, ch29, ch19⟩ := zk_o2 ch19
              unfold f_X0_above at ch29
              unfold B_X0_above_0 at ch29
              have ch29 := zk_f (by decide) ch29
              have ch29 := zk_t rfl ch29
              simp only [Option.some.injEq, Prod.mk.injEq] at ch29
              obtain ⟨rfl, _⟩ := ch29
              obtain ⟨cv30, cv31, cv32, ch33, ch19⟩ := zk_o3 ch19
              have ch33 : f_X0_closes (grp_grp138 5) (2 : Int32) (x3 + (1 : Int32)) ((0 : Int32) + (1 : Int32)) (5 : Int32) x1 (S_askedCount x1.toNatClampNeg) (upd acts_bodies (0 : Int32).toNatClampNeg (60 : Int32)) = some (cv30, cv31, cv32) := ch33
              unfold f_X0_closes at ch33
              unfold B_X0_closes_0 at ch33
              have ch33 := zk_f (by decide) ch33
              have ch33 := zk_t rfl ch33
              obtain ⟨cv34, cv35, ch36, ch33⟩ := zk_o2 ch33
              unfold f_X0_above at ch36
              unfold B_X0_above_0 at ch36
              have ch36 := zk_f (by decide) ch36
              have ch36 := zk_f (by decide) ch36
              have ch36 := zk_f (by decide) ch36
              simp only [Option.some.injEq, Prod.mk.injEq] at ch36
              obtain ⟨rfl, _⟩ := ch36
              obtain ⟨cv37, cv38, cv39, ch40, ch33⟩ := zk_o3 ch33
              have ch40 : f_X0_closes (grp_grp138 4) (0 : Int32) (x3 + (1 : Int32)) ((0 : Int32) + (1 : Int32)) (5 : Int32) x1 (S_askedCount x1.toNatClampNeg) (upd acts_bodies (0 : Int32).toNatClampNeg (60 : Int32)) = some (cv37, cv38, cv39) := ch40
              unfold f_X0_closes at ch40
              unfold B_X0_closes_0 at ch40
              have ch40 := zk_f (by decide) ch40
              have ch40 := zk_f (by decide) ch40
              have ch40 := zk_f (by decide) ch40
              have ch40 := zk_f (by decide) ch40
              have ch40 := zk_f (by decide) ch40
              have ch40 := zk_f (by decide) ch40
              obtain ⟨cv41, cv42, ch43, ch40⟩ := zk_o2 ch40
              unfold f_X0_note at ch43
              unfold B_X0_note_0 at ch43
              have ch43 := zk_f (by decide) ch43
              obtain ⟨_, ch43⟩ := zk_gd ch43
              obtain ⟨cv44, ce45, ch43⟩ := zk_lt ch43
              subst ce45
              unfold B_X0_note_19 at ch43
              obtain ⟨cv46, ce47, ch43⟩ := zk_lt ch43
              subst ce47
              simp only [Option.some.injEq, Prod.mk.injEq] at ch43
              obtain ⟨rfl, rfl⟩ := ch43
              simp only [Option.some.injEq, Prod.mk.injEq] at ch40
              obtain ⟨rfl, rfl, rfl⟩ := ch40
              simp only [Option.some.injEq, Prod.mk.injEq] at ch33
              obtain ⟨rfl, rfl, rfl⟩ := ch33
              simp only [Option.some.injEq, Prod.mk.injEq] at ch19
              obtain ⟨rfl, rfl, rfl⟩ := ch19
              have hi : x1.toNatClampNeg < court_suitCount.toInt.toNat := by rw [tcn]; omega
              have ea : mod_askedMany x1.toNatClampNeg = S_askedCount x1.toNatClampNeg := (hA _ hi).symm
              unfold B_X12_act_0 at k
              replace k := zk_o2 k
              obtain ⟨mv13, mv14, mh15, k⟩ := k
              unfold f_X12_isSuit at mh15
              unfold B_X12_isSuit_0 at mh15
              obtain ⟨mv16, mv17, mh18, mh15⟩ := zk_o2 mh15
              unfold f_X12_in at mh18
              unfold B_X12_in_0 at mh18
              have mh18 := zk_f cc4 mh18
              have mh18 := zk_f (by (try simp only [i32_lt, i32_le, i32_e, z32_0, z32_1]); omega) mh18
              simp only [Option.some.injEq, Prod.mk.injEq] at mh18
              obtain ⟨rfl, _⟩ := mh18
              obtain ⟨_, mh15⟩ := zk_gd mh15
              simp only [Option.some.injEq, Prod.mk.injEq] at mh15
              obtain ⟨rfl, _⟩ := mh15
              replace k := zk_f (by decide) k
              replace k := zk_o2 k
              obtain ⟨mv19, mv20, mh21, k⟩ := k
              unfold f_X12_in at mh21
              unfold B_X12_in_0 at mh21
              have mh21 := zk_f (by (try simp only [i32_lt, i32_le, i32_e, z32_0, z32_1]); omega) mh21
              have mh21 := zk_f (by (try simp only [i32_lt, i32_le, i32_e, z32_0, z32_1, z32L_3]); omega) mh21
              simp only [Option.some.injEq, Prod.mk.injEq] at mh21
              obtain ⟨rfl, _⟩ := mh21
              replace k := zk_f (by decide) k
              replace k := zk_t cc15 k
              replace k := zk_o3 k
              obtain ⟨mv22, mv23, mv24, mh25, k⟩ := k
              unfold f_X12_closes at mh25
              unfold B_X12_closes_0 at mh25
              rw [ea] at mh25
              obtain ⟨mv26, mv27, mh28, mh25⟩ := zk_o2 mh25
              obtain mq29 := bk12_e (hB12 hi) mh28
              replace mq29 := mq29.symm
              subst mq29
              have mh25 := zk_f (by decide) mh25
              have mh25 := zk_f (by decide) mh25
              have mh25 := zk_t rfl mh25
              obtain ⟨mv30, mv31, mh32, mh25⟩ := zk_o2 mh25
              unfold f_X12_ran at mh32
              unfold B_X12_ran_0 at mh32
              have mh32 := zk_f (by decide) mh32
              obtain ⟨_, mh32⟩ := zk_gd mh32
              obtain ⟨mv33, me34, mh32⟩ := zk_lt mh32
              subst me34
              unfold B_X12_ran_19 at mh32
              obtain ⟨mv35, me36, mh32⟩ := zk_lt mh32
              subst me36
              simp only [Option.some.injEq, Prod.mk.injEq] at mh32
              obtain ⟨rfl, rfl⟩ := mh32
              obtain ⟨mv37, mv38, mv39, mh40, mh25⟩ := zk_o3 mh25
              unfold f_X12_plainCloses at mh40
              unfold B_X12_plainCloses_0 at mh40
              obtain ⟨mv41, mv42, mh43, mh40⟩ := zk_o2 mh40
              unfold f_X12_ran at mh43
              unfold B_X12_ran_0 at mh43
              have mh43 := zk_f (by decide) mh43
              obtain ⟨_, mh43⟩ := zk_gd mh43
              obtain ⟨mv44, me45, mh43⟩ := zk_lt mh43
              subst me45
              unfold B_X12_ran_19 at mh43
              obtain ⟨mv46, me47, mh43⟩ := zk_lt mh43
              subst me47
              simp only [Option.some.injEq, Prod.mk.injEq] at mh43
              obtain ⟨rfl, rfl⟩ := mh43
              simp only [Option.some.injEq, Prod.mk.injEq] at mh40
              obtain ⟨rfl, rfl, rfl⟩ := mh40
              simp only [Option.some.injEq, Prod.mk.injEq] at mh25
              obtain ⟨rfl, rfl, rfl⟩ := mh25
              replace h := Option.some.inj h
              replace k := Option.some.inj k
              subst h
              subst k
              try dsimp only
              all_goals first
              | (exfalso; omega)
              | exact ⟨rfl, rfl, fun e => by first | exact e | rw [e]⟩
              | exact ⟨rfl, rfl, fun e => by rw [e]; rfl⟩
          · replace h := zk_f cc15 h
            have cc15n := cc15
            (try simp only [i32_lt, i32_le, i32_e, z32_0, z32_1] at cc15n)
            first
            | (exfalso; omega)
            | by_cases cc48 : x2 = (1 : Int32)
              · replace h := zk_t cc48 h
                have cc48n := cc48
                (try simp only [i32_lt, i32_le, i32_e, z32_0, z32_1] at cc48n)
                first
                | (exfalso; omega)
                | obtain ⟨cv49, cv50, cv51, ch52, h⟩ := zk_o3 h
                  have ch52 : f_X0_settles (grp_grp140 6) (5 : Int32) x3 (0 : Int32) (5 : Int32) x1 (S_askedCount x1.toNatClampNeg) acts_bodies = some (cv49, cv50, cv51) := ch52
                  unfold f_X0_settles at ch52
                  unfold B_X0_settles_0 at ch52
                  have ch52 := zk_f (by decide) ch52
                  have ch52 := zk_f (by decide) ch52
                  have ch52 := zk_f (by decide) ch52
                  have ch52 := zk_f (by decide) ch52
                  have ch52 := zk_t rfl ch52
                  obtain ⟨cv53, cv54, ch55, ch52⟩ := zk_o2 ch52
                  unfold f_X0_above at ch55
                  unfold B_X0_above_0 at ch55
                  have ch55 := zk_f (by decide) ch55
                  have ch55 := zk_t rfl ch55
                  simp only [Option.some.injEq, Prod.mk.injEq] at ch55
                  obtain ⟨rfl, _⟩ := ch55
                  obtain ⟨cv56, cv57, cv58, ch59, ch52⟩ := zk_o3 ch52
                  have ch59 : f_X0_settles (grp_grp140 5) (2 : Int32) x3 (0 : Int32) (5 : Int32) x1 (S_askedCount x1.toNatClampNeg) acts_bodies = some (cv56, cv57, cv58) := ch59
                  unfold f_X0_settles at ch59
                  unfold B_X0_settles_0 at ch59
                  have ch59 := zk_f (by decide) ch59
                  have ch59 := zk_t rfl ch59
                  obtain ⟨cv60, cv61, ch62, ch59⟩ := zk_o2 ch59
                  unfold f_X0_above at ch62
                  unfold B_X0_above_0 at ch62
                  have ch62 := zk_f (by decide) ch62
                  have ch62 := zk_f (by decide) ch62
                  have ch62 := zk_f (by decide) ch62
                  simp only [Option.some.injEq, Prod.mk.injEq] at ch62
                  obtain ⟨rfl, _⟩ := ch62
                  obtain ⟨cv63, cv64, cv65, ch66, ch59⟩ := zk_o3 ch59
                  have ch66 : f_X0_settles (grp_grp140 4) (0 : Int32) x3 (0 : Int32) (5 : Int32) x1 (S_askedCount x1.toNatClampNeg) acts_bodies = some (cv63, cv64, cv65) := ch66
                  unfold f_X0_settles at ch66
                  unfold B_X0_settles_0 at ch66
                  have ch66 := zk_f (by decide) ch66
                  have ch66 := zk_f (by decide) ch66
                  have ch66 := zk_f (by decide) ch66
                  have ch66 := zk_f (by decide) ch66
                  have ch66 := zk_f (by decide) ch66
                  have ch66 := zk_f (by decide) ch66
                  obtain ⟨cv67, cv68, ch69, ch66⟩ := zk_o2 ch66
                  unfold f_X0_note at ch69
                  unfold B_X0_note_0 at ch69
                  have ch69 := zk_f (by decide) ch69
                  obtain ⟨_, ch69⟩ := zk_gd ch69
                  obtain ⟨cv70, ce71, ch69⟩ := zk_lt ch69
                  subst ce71
                  unfold B_X0_note_19 at ch69
                  obtain ⟨cv72, ce73, ch69⟩ := zk_lt ch69
                  subst ce73
                  simp only [Option.some.injEq, Prod.mk.injEq] at ch69
                  obtain ⟨rfl, rfl⟩ := ch69
                  obtain ⟨cv74, cv75, cv76, ch77, ch66⟩ := zk_o3 ch66
                  have ch77 : f_X0_closes (grp_grp138 6) (5 : Int32) x3 ((0 : Int32) + (1 : Int32)) (5 : Int32) x1 (S_askedCount x1.toNatClampNeg) (upd acts_bodies (0 : Int32).toNatClampNeg (10 : Int32)) = some (cv74, cv75, cv76) := ch77
                  unfold f_X0_closes at ch77
                  unfold B_X0_closes_0 at ch77
                  have ch77 := zk_f (by decide) ch77
                  have ch77 := zk_f (by decide) ch77
                  have ch77 := zk_f (by decide) ch77
                  have ch77 := zk_f (by decide) ch77
                  have ch77 := zk_t rfl ch77
                  obtain ⟨cv78, cv79, ch80, ch77⟩ := zk_o2 ch77
                  unfold f_X0_note at ch80
                  unfold B_X0_note_0 at ch80
                  have ch80 := zk_f (by decide) ch80
                  obtain ⟨_, ch80⟩ := zk_gd ch80
                  obtain ⟨cv81, ce82, ch80⟩ := zk_lt ch80
                  subst ce82
                  unfold B_X0_note_19 at ch80
                  obtain ⟨cv83, ce84, ch80⟩ := zk_lt ch80
                  subst ce84
                  simp only [Option.some.injEq, Prod.mk.injEq] at ch80
                  obtain ⟨rfl, rfl⟩ := ch80
                  obtain ⟨cv85, cv86, ch87, ch77⟩ := zk_o2 ch77
                  unfold f_X0_above at ch87
                  unfold B_X0_above_0 at ch87
                  have ch87 := zk_f (by decide) ch87
                  have ch87 := zk_t rfl ch87
                  simp only [Option.some.injEq, Prod.mk.injEq] at ch87
                  obtain ⟨rfl, _⟩ := ch87
                  obtain ⟨cv88, cv89, cv90, ch91, ch77⟩ := zk_o3 ch77
                  have ch91 : f_X0_closes (grp_grp138 5) (2 : Int32) (x3 + (1 : Int32)) (((0 : Int32) + (1 : Int32)) + (1 : Int32)) (5 : Int32) x1 (S_askedCount x1.toNatClampNeg) (upd (upd acts_bodies (0 : Int32).toNatClampNeg (10 : Int32)) ((0 : Int32) + (1 : Int32)).toNatClampNeg (60 : Int32)) = some (cv88, cv89, cv90) := ch91
                  unfold f_X0_closes at ch91
                  unfold B_X0_closes_0 at ch91
                  have ch91 := zk_f (by decide) ch91
                  have ch91 := zk_t rfl ch91
                  obtain ⟨cv92, cv93, ch94, ch91⟩ := zk_o2 ch91
                  unfold f_X0_above at ch94
                  unfold B_X0_above_0 at ch94
                  have ch94 := zk_f (by decide) ch94
                  have ch94 := zk_f (by decide) ch94
                  have ch94 := zk_f (by decide) ch94
                  simp only [Option.some.injEq, Prod.mk.injEq] at ch94
                  obtain ⟨rfl, _⟩ := ch94
                  obtain ⟨cv95, cv96, cv97, ch98, ch91⟩ := zk_o3 ch91
                  have ch98 : f_X0_closes (grp_grp138 4) (0 : Int32) (x3 + (1 : Int32)) (((0 : Int32) + (1 : Int32)) + (1 : Int32)) (5 : Int32) x1 (S_askedCount x1.toNatClampNeg) (upd (upd acts_bodies (0 : Int32).toNatClampNeg (10 : Int32)) ((0 : Int32) + (1 : Int32)).toNatClampNeg (60 : Int32)) = some (cv95, cv96, cv97) := ch98
                  unfold f_X0_closes at ch98
                  unfold B_X0_closes_0 at ch98
                  have ch98 := zk_f (by decide) ch98
                  have ch98 := zk_f (by decide) ch98
                  have ch98 := zk_f (by decide) ch98
                  have ch98 := zk_f (by decide) ch98
                  have ch98 := zk_f (by decide) ch98
                  have ch98 := zk_f (by decide) ch98
                  obtain ⟨cv99, cv100, ch101, ch98⟩ := zk_o2 ch98
                  unfold f_X0_note at ch101
                  unfold B_X0_note_0 at ch101
                  have ch101 := zk_f (by decide) ch101
                  obtain ⟨_, ch101⟩ := zk_gd ch101
                  obtain ⟨cv102, ce103, ch101⟩ := zk_lt ch101
                  subst ce103
                  unfold B_X0_note_19 at ch101
                  obtain ⟨cv104, ce105, ch101⟩ := zk_lt ch101
                  subst ce105
                  simp only [Option.some.injEq, Prod.mk.injEq] at ch101
                  obtain ⟨rfl, rfl⟩ := ch101
                  simp only [Option.some.injEq, Prod.mk.injEq] at ch98
                  obtain ⟨rfl, rfl, rfl⟩ := ch98
                  simp only [Option.some.injEq, Prod.mk.injEq] at ch91
                  obtain ⟨rfl, rfl, rfl⟩ := ch91
                  simp only [Option.some.injEq, Prod.mk.injEq] at ch77
                  obtain ⟨rfl, rfl, rfl⟩ := ch77
                  simp only [Option.some.injEq, Prod.mk.injEq] at ch66
                  obtain ⟨rfl, rfl, rfl⟩ := ch66
                  simp only [Option.some.injEq, Prod.mk.injEq] at ch59
                  obtain ⟨rfl, rfl, rfl⟩ := ch59
                  simp only [Option.some.injEq, Prod.mk.injEq] at ch52
                  obtain ⟨rfl, rfl, rfl⟩ := ch52
                  have hi : x1.toNatClampNeg < court_suitCount.toInt.toNat := by rw [tcn]; omega
                  have ea : mod_askedMany x1.toNatClampNeg = S_askedCount x1.toNatClampNeg := (hA _ hi).symm
                  unfold B_X12_act_0 at k
                  replace k := zk_o2 k
                  obtain ⟨mv48, mv49, mh50, k⟩ := k
                  unfold f_X12_isSuit at mh50
                  unfold B_X12_isSuit_0 at mh50
                  obtain ⟨mv51, mv52, mh53, mh50⟩ := zk_o2 mh50
                  unfold f_X12_in at mh53
                  unfold B_X12_in_0 at mh53
                  have mh53 := zk_f cc4 mh53
                  have mh53 := zk_f (by (try simp only [i32_lt, i32_le, i32_e, z32_0, z32_1]); omega) mh53
                  simp only [Option.some.injEq, Prod.mk.injEq] at mh53
                  obtain ⟨rfl, _⟩ := mh53
                  obtain ⟨_, mh50⟩ := zk_gd mh50
                  simp only [Option.some.injEq, Prod.mk.injEq] at mh50
                  obtain ⟨rfl, _⟩ := mh50
                  replace k := zk_f (by decide) k
                  replace k := zk_o2 k
                  obtain ⟨mv54, mv55, mh56, k⟩ := k
                  unfold f_X12_in at mh56
                  unfold B_X12_in_0 at mh56
                  have mh56 := zk_f (by (try simp only [i32_lt, i32_le, i32_e, z32_0, z32_1]); omega) mh56
                  have mh56 := zk_f (by (try simp only [i32_lt, i32_le, i32_e, z32_0, z32_1, z32L_3]); omega) mh56
                  simp only [Option.some.injEq, Prod.mk.injEq] at mh56
                  obtain ⟨rfl, _⟩ := mh56
                  replace k := zk_f (by decide) k
                  replace k := zk_f cc15 k
                  replace k := zk_t cc48 k
                  replace k := zk_o3 k
                  obtain ⟨mv57, mv58, mv59, mh60, k⟩ := k
                  unfold f_X12_settles at mh60
                  unfold B_X12_settles_0 at mh60
                  obtain ⟨mv61, mv62, mh63, mh60⟩ := zk_o2 mh60
                  obtain mq64 := bk12_e (hB12 hi) mh63
                  replace mq64 := mq64.symm
                  subst mq64
                  have mh60 := zk_f (by decide) mh60
                  have mh60 := zk_f (by decide) mh60
                  have mh60 := zk_f (by decide) mh60
                  obtain ⟨mv65, mv66, mv67, mh68, mh60⟩ := zk_o3 mh60
                  unfold f_X12_plainSettles at mh68
                  unfold B_X12_plainSettles_0 at mh68
                  obtain ⟨mv69, mv70, mh71, mh68⟩ := zk_o2 mh68
                  unfold f_X12_ran at mh71
                  unfold B_X12_ran_0 at mh71
                  have mh71 := zk_f (by decide) mh71
                  obtain ⟨_, mh71⟩ := zk_gd mh71
                  obtain ⟨mv72, me73, mh71⟩ := zk_lt mh71
                  subst me73
                  unfold B_X12_ran_19 at mh71
                  obtain ⟨mv74, me75, mh71⟩ := zk_lt mh71
                  subst me75
                  simp only [Option.some.injEq, Prod.mk.injEq] at mh71
                  obtain ⟨rfl, rfl⟩ := mh71
                  obtain ⟨mv76, mv77, mv78, mh79, mh68⟩ := zk_o3 mh68
                  unfold f_X12_closes at mh79
                  unfold B_X12_closes_0 at mh79
                  rw [ea] at mh79
                  obtain ⟨mv80, mv81, mh82, mh79⟩ := zk_o2 mh79
                  obtain mq83 := bk12_e (hB12 hi) mh82
                  replace mq83 := mq83.symm
                  subst mq83
                  have mh79 := zk_f (by decide) mh79
                  have mh79 := zk_f (by decide) mh79
                  have mh79 := zk_t rfl mh79
                  obtain ⟨mv84, mv85, mh86, mh79⟩ := zk_o2 mh79
                  unfold f_X12_ran at mh86
                  unfold B_X12_ran_0 at mh86
                  have mh86 := zk_f (by decide) mh86
                  obtain ⟨_, mh86⟩ := zk_gd mh86
                  obtain ⟨mv87, me88, mh86⟩ := zk_lt mh86
                  subst me88
                  unfold B_X12_ran_19 at mh86
                  obtain ⟨mv89, me90, mh86⟩ := zk_lt mh86
                  subst me90
                  simp only [Option.some.injEq, Prod.mk.injEq] at mh86
                  obtain ⟨rfl, rfl⟩ := mh86
                  obtain ⟨mv91, mv92, mv93, mh94, mh79⟩ := zk_o3 mh79
                  unfold f_X12_plainCloses at mh94
                  unfold B_X12_plainCloses_0 at mh94
                  obtain ⟨mv95, mv96, mh97, mh94⟩ := zk_o2 mh94
                  unfold f_X12_ran at mh97
                  unfold B_X12_ran_0 at mh97
                  have mh97 := zk_f (by decide) mh97
                  obtain ⟨_, mh97⟩ := zk_gd mh97
                  obtain ⟨mv98, me99, mh97⟩ := zk_lt mh97
                  subst me99
                  unfold B_X12_ran_19 at mh97
                  obtain ⟨mv100, me101, mh97⟩ := zk_lt mh97
                  subst me101
                  simp only [Option.some.injEq, Prod.mk.injEq] at mh97
                  obtain ⟨rfl, rfl⟩ := mh97
                  simp only [Option.some.injEq, Prod.mk.injEq] at mh94
                  obtain ⟨rfl, rfl, rfl⟩ := mh94
                  simp only [Option.some.injEq, Prod.mk.injEq] at mh79
                  obtain ⟨rfl, rfl, rfl⟩ := mh79
                  simp only [Option.some.injEq, Prod.mk.injEq] at mh68
                  obtain ⟨rfl, rfl, rfl⟩ := mh68
                  simp only [Option.some.injEq, Prod.mk.injEq] at mh60
                  obtain ⟨rfl, rfl, rfl⟩ := mh60
                  replace h := Option.some.inj h
                  replace k := Option.some.inj k
                  subst h
                  subst k
                  try dsimp only
                  all_goals first
                  | (exfalso; omega)
                  | exact ⟨rfl, rfl, fun e => by first | exact e | rw [e]⟩
                  | exact ⟨rfl, rfl, fun e => by rw [e]; rfl⟩
              · replace h := zk_f cc48 h
                have cc48n := cc48
                (try simp only [i32_lt, i32_le, i32_e, z32_0, z32_1] at cc48n)
                first
                | (exfalso; omega)
                | by_cases cc106 : x2 = (2 : Int32)
                  · replace h := zk_t cc106 h
                    have cc106n := cc106
                    (try simp only [i32_lt, i32_le, i32_e, z32_0, z32_1, z32L_2] at cc106n)
                    first
                    | (exfalso; omega)
                    | obtain ⟨cv107, cv108, cv109, ch110, h⟩ := zk_o3 h
                      have ch110 : f_X0_binds (grp_grp139 6) (5 : Int32) x3 (0 : Int32) (5 : Int32) x1 (S_askedCount x1.toNatClampNeg) acts_bodies = some (cv107, cv108, cv109) := ch110
                      unfold f_X0_binds at ch110
                      unfold B_X0_binds_0 at ch110
                      have ch110 := zk_f (by decide) ch110
                      have ch110 := zk_f (by decide) ch110
                      obtain ⟨cv111, cv112, ch113, ch110⟩ := zk_o2 ch110
                      unfold f_X0_above at ch113
                      unfold B_X0_above_0 at ch113
                      have ch113 := zk_f (by decide) ch113
                      have ch113 := zk_t rfl ch113
                      simp only [Option.some.injEq, Prod.mk.injEq] at ch113
                      obtain ⟨rfl, _⟩ := ch113
                      obtain ⟨cv114, cv115, cv116, ch117, ch110⟩ := zk_o3 ch110
                      have ch117 : f_X0_binds (grp_grp139 5) (2 : Int32) x3 (0 : Int32) (5 : Int32) x1 (S_askedCount x1.toNatClampNeg) acts_bodies = some (cv114, cv115, cv116) := ch117
                      unfold f_X0_binds at ch117
                      unfold B_X0_binds_0 at ch117
                      have ch117 := zk_t rfl ch117
                      obtain ⟨cv118, cv119, ch120, ch117⟩ := zk_o2 ch117
                      unfold f_X0_note at ch120
                      unfold B_X0_note_0 at ch120
                      have ch120 := zk_f (by decide) ch120
                      obtain ⟨_, ch120⟩ := zk_gd ch120
                      obtain ⟨cv121, ce122, ch120⟩ := zk_lt ch120
                      subst ce122
                      unfold B_X0_note_19 at ch120
                      obtain ⟨cv123, ce124, ch120⟩ := zk_lt ch120
                      subst ce124
                      simp only [Option.some.injEq, Prod.mk.injEq] at ch120
                      obtain ⟨rfl, rfl⟩ := ch120
                      obtain ⟨cv125, cv126, ch127, ch117⟩ := zk_o2 ch117
                      unfold f_X0_above at ch127
                      unfold B_X0_above_0 at ch127
                      have ch127 := zk_f (by decide) ch127
                      have ch127 := zk_f (by decide) ch127
                      have ch127 := zk_f (by decide) ch127
                      simp only [Option.some.injEq, Prod.mk.injEq] at ch127
                      obtain ⟨rfl, _⟩ := ch127
                      obtain ⟨cv128, cv129, cv130, ch131, ch117⟩ := zk_o3 ch117
                      have ch131 : f_X0_binds (grp_grp139 4) (0 : Int32) x3 ((0 : Int32) + (1 : Int32)) (5 : Int32) x1 (S_askedCount x1.toNatClampNeg) (upd acts_bodies (0 : Int32).toNatClampNeg (30 : Int32)) = some (cv128, cv129, cv130) := ch131
                      unfold f_X0_binds at ch131
                      unfold B_X0_binds_0 at ch131
                      have ch131 := zk_f (by decide) ch131
                      have ch131 := zk_t (Int32.le_refl _) ch131
                      obtain ⟨cv132, cv133, ch134, ch131⟩ := zk_o2 ch131
                      unfold f_X0_note at ch134
                      unfold B_X0_note_0 at ch134
                      have ch134 := zk_f (by decide) ch134
                      obtain ⟨_, ch134⟩ := zk_gd ch134
                      obtain ⟨cv135, ce136, ch134⟩ := zk_lt ch134
                      subst ce136
                      unfold B_X0_note_19 at ch134
                      obtain ⟨cv137, ce138, ch134⟩ := zk_lt ch134
                      subst ce138
                      simp only [Option.some.injEq, Prod.mk.injEq] at ch134
                      obtain ⟨rfl, rfl⟩ := ch134
                      simp only [Option.some.injEq, Prod.mk.injEq] at ch131
                      obtain ⟨rfl, rfl, rfl⟩ := ch131
                      simp only [Option.some.injEq, Prod.mk.injEq] at ch117
                      obtain ⟨rfl, rfl, rfl⟩ := ch117
                      simp only [Option.some.injEq, Prod.mk.injEq] at ch110
                      obtain ⟨rfl, rfl, rfl⟩ := ch110
                      have hi : x1.toNatClampNeg < court_suitCount.toInt.toNat := by rw [tcn]; omega
                      have ea : mod_askedMany x1.toNatClampNeg = S_askedCount x1.toNatClampNeg := (hA _ hi).symm
                      unfold B_X12_act_0 at k
                      replace k := zk_o2 k
                      obtain ⟨mv102, mv103, mh104, k⟩ := k
                      unfold f_X12_isSuit at mh104
                      unfold B_X12_isSuit_0 at mh104
                      obtain ⟨mv105, mv106, mh107, mh104⟩ := zk_o2 mh104
                      unfold f_X12_in at mh107
                      unfold B_X12_in_0 at mh107
                      have mh107 := zk_f cc4 mh107
                      have mh107 := zk_f (by (try simp only [i32_lt, i32_le, i32_e, z32_0, z32_1]); omega) mh107
                      simp only [Option.some.injEq, Prod.mk.injEq] at mh107
                      obtain ⟨rfl, _⟩ := mh107
                      obtain ⟨_, mh104⟩ := zk_gd mh104
                      simp only [Option.some.injEq, Prod.mk.injEq] at mh104
                      obtain ⟨rfl, _⟩ := mh104
                      replace k := zk_f (by decide) k
                      replace k := zk_o2 k
                      obtain ⟨mv108, mv109, mh110, k⟩ := k
                      unfold f_X12_in at mh110
                      unfold B_X12_in_0 at mh110
                      have mh110 := zk_f (by (try simp only [i32_lt, i32_le, i32_e, z32_0, z32_1]); omega) mh110
                      have mh110 := zk_f (by (try simp only [i32_lt, i32_le, i32_e, z32_0, z32_1, z32L_3]); omega) mh110
                      simp only [Option.some.injEq, Prod.mk.injEq] at mh110
                      obtain ⟨rfl, _⟩ := mh110
                      replace k := zk_f (by decide) k
                      replace k := zk_f cc15 k
                      replace k := zk_f cc48 k
                      replace k := zk_t cc106 k
                      replace k := zk_o3 k
                      obtain ⟨mv111, mv112, mv113, mh114, k⟩ := k
                      unfold f_X12_binds at mh114
                      unfold B_X12_binds_0 at mh114
                      obtain ⟨mv115, mv116, mh117, mh114⟩ := zk_o2 mh114
                      obtain mq118 := bk12_e (hB12 hi) mh117
                      replace mq118 := mq118.symm
                      subst mq118
                      obtain ⟨mv119, mv120, mh121, mh114⟩ := zk_o2 mh114
                      unfold f_X12_isUnder at mh121
                      unfold B_X12_isUnder_0 at mh121
                      have mh121 := zk_f (by decide) mh121
                      have mh121 := zk_f (by decide) mh121
                      have mh121 := zk_f (by decide) mh121
                      unfold B_X12_isUnder_19 at mh121
                      have mh121 := zk_t rfl mh121
                      have mh121 := zk_t rfl mh121
                      unfold B_X12_isUnder_40 at mh121
                      simp only [Option.some.injEq, Prod.mk.injEq] at mh121
                      obtain ⟨rfl, _⟩ := mh121
                      have mh114 := zk_f (by decide) mh114
                      obtain ⟨mv122, mv123, mh124, mh114⟩ := zk_o2 mh114
                      unfold f_X12_ran at mh124
                      unfold B_X12_ran_0 at mh124
                      have mh124 := zk_f (by decide) mh124
                      obtain ⟨_, mh124⟩ := zk_gd mh124
                      obtain ⟨mv125, me126, mh124⟩ := zk_lt mh124
                      subst me126
                      unfold B_X12_ran_19 at mh124
                      obtain ⟨mv127, me128, mh124⟩ := zk_lt mh124
                      subst me128
                      simp only [Option.some.injEq, Prod.mk.injEq] at mh124
                      obtain ⟨rfl, rfl⟩ := mh124
                      obtain ⟨mv129, mv130, mv131, mh132, mh114⟩ := zk_o3 mh114
                      unfold f_X12_plainBinds at mh132
                      unfold B_X12_plainBinds_0 at mh132
                      obtain ⟨mv133, mv134, mh135, mh132⟩ := zk_o2 mh132
                      unfold f_X12_ran at mh135
                      unfold B_X12_ran_0 at mh135
                      have mh135 := zk_f (by decide) mh135
                      obtain ⟨_, mh135⟩ := zk_gd mh135
                      obtain ⟨mv136, me137, mh135⟩ := zk_lt mh135
                      subst me137
                      unfold B_X12_ran_19 at mh135
                      obtain ⟨mv138, me139, mh135⟩ := zk_lt mh135
                      subst me139
                      simp only [Option.some.injEq, Prod.mk.injEq] at mh135
                      obtain ⟨rfl, rfl⟩ := mh135
                      simp only [Option.some.injEq, Prod.mk.injEq] at mh132
                      obtain ⟨rfl, rfl, rfl⟩ := mh132
                      simp only [Option.some.injEq, Prod.mk.injEq] at mh114
                      obtain ⟨rfl, rfl, rfl⟩ := mh114
                      replace h := Option.some.inj h
                      replace k := Option.some.inj k
                      subst h
                      subst k
                      try dsimp only
                      all_goals first
                      | (exfalso; omega)
                      | exact ⟨rfl, rfl, fun e => by first | exact e | rw [e]⟩
                      | exact ⟨rfl, rfl, fun e => by rw [e]; rfl⟩
                  · replace h := zk_f cc106 h
                    have cc106n := cc106
                    (try simp only [i32_lt, i32_le, i32_e, z32_0, z32_1, z32L_2] at cc106n)
                    first
                    | (exfalso; omega)
                    | by_cases cc139 : x2 = (3 : Int32)
                      · replace h := zk_t cc139 h
                        have cc139n := cc139
                        (try simp only [i32_lt, i32_le, i32_e, z32_0, z32_1, z32L_3] at cc139n)
                        first
                        | (exfalso; omega)
                        | obtain ⟨cv140, cv141, cv142, ch143, h⟩ := zk_o3 h
                          have ch143 : f_X0_tells (grp_grp141 6) (5 : Int32) x3 (0 : Int32) (5 : Int32) x1 (S_askedCount x1.toNatClampNeg) acts_bodies = some (cv140, cv141, cv142) := ch143
                          unfold f_X0_tells at ch143
                          unfold B_X0_tells_0 at ch143
                          have ch143 := zk_f (by decide) ch143
                          have ch143 := zk_f (by decide) ch143
                          obtain ⟨cv144, cv145, ch146, ch143⟩ := zk_o2 ch143
                          unfold f_X0_above at ch146
                          unfold B_X0_above_0 at ch146
                          have ch146 := zk_f (by decide) ch146
                          have ch146 := zk_t rfl ch146
                          simp only [Option.some.injEq, Prod.mk.injEq] at ch146
                          obtain ⟨rfl, _⟩ := ch146
                          obtain ⟨cv147, cv148, cv149, ch150, ch143⟩ := zk_o3 ch143
                          have ch150 : f_X0_tells (grp_grp141 5) (2 : Int32) x3 (0 : Int32) (5 : Int32) x1 (S_askedCount x1.toNatClampNeg) acts_bodies = some (cv147, cv148, cv149) := ch150
                          unfold f_X0_tells at ch150
                          unfold B_X0_tells_0 at ch150
                          have ch150 := zk_f (by decide) ch150
                          have ch150 := zk_f (by decide) ch150
                          obtain ⟨cv151, cv152, ch153, ch150⟩ := zk_o2 ch150
                          unfold f_X0_above at ch153
                          unfold B_X0_above_0 at ch153
                          have ch153 := zk_f (by decide) ch153
                          have ch153 := zk_f (by decide) ch153
                          have ch153 := zk_f (by decide) ch153
                          simp only [Option.some.injEq, Prod.mk.injEq] at ch153
                          obtain ⟨rfl, _⟩ := ch153
                          obtain ⟨cv154, cv155, cv156, ch157, ch150⟩ := zk_o3 ch150
                          have ch157 : f_X0_tells (grp_grp141 4) (0 : Int32) x3 (0 : Int32) (5 : Int32) x1 (S_askedCount x1.toNatClampNeg) acts_bodies = some (cv154, cv155, cv156) := ch157
                          unfold f_X0_tells at ch157
                          unfold B_X0_tells_0 at ch157
                          have ch157 := zk_f (by decide) ch157
                          have ch157 := zk_t (Int32.le_refl _) ch157
                          obtain ⟨cv158, cv159, ch160, ch157⟩ := zk_o2 ch157
                          unfold f_X0_note at ch160
                          unfold B_X0_note_0 at ch160
                          have ch160 := zk_f (by decide) ch160
                          obtain ⟨_, ch160⟩ := zk_gd ch160
                          obtain ⟨cv161, ce162, ch160⟩ := zk_lt ch160
                          subst ce162
                          unfold B_X0_note_19 at ch160
                          obtain ⟨cv163, ce164, ch160⟩ := zk_lt ch160
                          subst ce164
                          simp only [Option.some.injEq, Prod.mk.injEq] at ch160
                          obtain ⟨rfl, rfl⟩ := ch160
                          obtain ⟨cv165, cv166, cv167, ch168, ch157⟩ := zk_o3 ch157
                          have ch168 : f_X0_settles (grp_grp140 6) (5 : Int32) x3 ((0 : Int32) + (1 : Int32)) (5 : Int32) x1 (S_askedCount x1.toNatClampNeg) (upd acts_bodies (0 : Int32).toNatClampNeg (2 : Int32)) = some (cv165, cv166, cv167) := ch168
                          unfold f_X0_settles at ch168
                          unfold B_X0_settles_0 at ch168
                          have ch168 := zk_f (by decide) ch168
                          have ch168 := zk_f (by decide) ch168
                          have ch168 := zk_f (by decide) ch168
                          have ch168 := zk_f (by decide) ch168
                          have ch168 := zk_t rfl ch168
                          obtain ⟨cv169, cv170, ch171, ch168⟩ := zk_o2 ch168
                          unfold f_X0_above at ch171
                          unfold B_X0_above_0 at ch171
                          have ch171 := zk_f (by decide) ch171
                          have ch171 := zk_t rfl ch171
                          simp only [Option.some.injEq, Prod.mk.injEq] at ch171
                          obtain ⟨rfl, _⟩ := ch171
                          obtain ⟨cv172, cv173, cv174, ch175, ch168⟩ := zk_o3 ch168
                          have ch175 : f_X0_settles (grp_grp140 5) (2 : Int32) x3 ((0 : Int32) + (1 : Int32)) (5 : Int32) x1 (S_askedCount x1.toNatClampNeg) (upd acts_bodies (0 : Int32).toNatClampNeg (2 : Int32)) = some (cv172, cv173, cv174) := ch175
                          unfold f_X0_settles at ch175
                          unfold B_X0_settles_0 at ch175
                          have ch175 := zk_f (by decide) ch175
                          have ch175 := zk_t rfl ch175
                          obtain ⟨cv176, cv177, ch178, ch175⟩ := zk_o2 ch175
                          unfold f_X0_above at ch178
                          unfold B_X0_above_0 at ch178
                          have ch178 := zk_f (by decide) ch178
                          have ch178 := zk_f (by decide) ch178
                          have ch178 := zk_f (by decide) ch178
                          simp only [Option.some.injEq, Prod.mk.injEq] at ch178
                          obtain ⟨rfl, _⟩ := ch178
                          obtain ⟨cv179, cv180, cv181, ch182, ch175⟩ := zk_o3 ch175
                          have ch182 : f_X0_settles (grp_grp140 4) (0 : Int32) x3 ((0 : Int32) + (1 : Int32)) (5 : Int32) x1 (S_askedCount x1.toNatClampNeg) (upd acts_bodies (0 : Int32).toNatClampNeg (2 : Int32)) = some (cv179, cv180, cv181) := ch182
                          unfold f_X0_settles at ch182
                          unfold B_X0_settles_0 at ch182
                          have ch182 := zk_f (by decide) ch182
                          have ch182 := zk_f (by decide) ch182
                          have ch182 := zk_f (by decide) ch182
                          have ch182 := zk_f (by decide) ch182
                          have ch182 := zk_f (by decide) ch182
                          have ch182 := zk_f (by decide) ch182
                          obtain ⟨cv183, cv184, ch185, ch182⟩ := zk_o2 ch182
                          unfold f_X0_note at ch185
                          unfold B_X0_note_0 at ch185
                          have ch185 := zk_f (by decide) ch185
                          obtain ⟨_, ch185⟩ := zk_gd ch185
                          obtain ⟨cv186, ce187, ch185⟩ := zk_lt ch185
                          subst ce187
                          unfold B_X0_note_19 at ch185
                          obtain ⟨cv188, ce189, ch185⟩ := zk_lt ch185
                          subst ce189
                          simp only [Option.some.injEq, Prod.mk.injEq] at ch185
                          obtain ⟨rfl, rfl⟩ := ch185
                          obtain ⟨cv190, cv191, cv192, ch193, ch182⟩ := zk_o3 ch182
                          have ch193 : f_X0_closes (grp_grp138 6) (5 : Int32) x3 (((0 : Int32) + (1 : Int32)) + (1 : Int32)) (5 : Int32) x1 (S_askedCount x1.toNatClampNeg) (upd (upd acts_bodies (0 : Int32).toNatClampNeg (2 : Int32)) ((0 : Int32) + (1 : Int32)).toNatClampNeg (10 : Int32)) = some (cv190, cv191, cv192) := ch193
                          unfold f_X0_closes at ch193
                          unfold B_X0_closes_0 at ch193
                          have ch193 := zk_f (by decide) ch193
                          have ch193 := zk_f (by decide) ch193
                          have ch193 := zk_f (by decide) ch193
                          have ch193 := zk_f (by decide) ch193
                          have ch193 := zk_t rfl ch193
                          obtain ⟨cv194, cv195, ch196, ch193⟩ := zk_o2 ch193
                          unfold f_X0_note at ch196
                          unfold B_X0_note_0 at ch196
                          have ch196 := zk_f (by decide) ch196
                          obtain ⟨_, ch196⟩ := zk_gd ch196
                          obtain ⟨cv197, ce198, ch196⟩ := zk_lt ch196
                          subst ce198
                          unfold B_X0_note_19 at ch196
                          obtain ⟨cv199, ce200, ch196⟩ := zk_lt ch196
                          subst ce200
                          simp only [Option.some.injEq, Prod.mk.injEq] at ch196
                          obtain ⟨rfl, rfl⟩ := ch196
                          obtain ⟨cv201, cv202, ch203, ch193⟩ := zk_o2 ch193
                          unfold f_X0_above at ch203
                          unfold B_X0_above_0 at ch203
                          have ch203 := zk_f (by decide) ch203
                          have ch203 := zk_t rfl ch203
                          simp only [Option.some.injEq, Prod.mk.injEq] at ch203
                          obtain ⟨rfl, _⟩ := ch203
                          obtain ⟨cv204, cv205, cv206, ch207, ch193⟩ := zk_o3 ch193
                          have ch207 : f_X0_closes (grp_grp138 5) (2 : Int32) (x3 + (1 : Int32)) ((((0 : Int32) + (1 : Int32)) + (1 : Int32)) + (1 : Int32)) (5 : Int32) x1 (S_askedCount x1.toNatClampNeg) (upd (upd (upd acts_bodies (0 : Int32).toNatClampNeg (2 : Int32)) ((0 : Int32) + (1 : Int32)).toNatClampNeg (10 : Int32)) (((0 : Int32) + (1 : Int32)) + (1 : Int32)).toNatClampNeg (60 : Int32)) = some (cv204, cv205, cv206) := ch207
                          unfold f_X0_closes at ch207
                          unfold B_X0_closes_0 at ch207
                          have ch207 := zk_f (by decide) ch207
                          have ch207 := zk_t rfl ch207
                          obtain ⟨cv208, cv209, ch210, ch207⟩ := zk_o2 ch207
                          unfold f_X0_above at ch210
                          unfold B_X0_above_0 at ch210
                          have ch210 := zk_f (by decide) ch210
                          have ch210 := zk_f (by decide) ch210
                          have ch210 := zk_f (by decide) ch210
                          simp only [Option.some.injEq, Prod.mk.injEq] at ch210
                          obtain ⟨rfl, _⟩ := ch210
                          obtain ⟨cv211, cv212, cv213, ch214, ch207⟩ := zk_o3 ch207
                          have ch214 : f_X0_closes (grp_grp138 4) (0 : Int32) (x3 + (1 : Int32)) ((((0 : Int32) + (1 : Int32)) + (1 : Int32)) + (1 : Int32)) (5 : Int32) x1 (S_askedCount x1.toNatClampNeg) (upd (upd (upd acts_bodies (0 : Int32).toNatClampNeg (2 : Int32)) ((0 : Int32) + (1 : Int32)).toNatClampNeg (10 : Int32)) (((0 : Int32) + (1 : Int32)) + (1 : Int32)).toNatClampNeg (60 : Int32)) = some (cv211, cv212, cv213) := ch214
                          unfold f_X0_closes at ch214
                          unfold B_X0_closes_0 at ch214
                          have ch214 := zk_f (by decide) ch214
                          have ch214 := zk_f (by decide) ch214
                          have ch214 := zk_f (by decide) ch214
                          have ch214 := zk_f (by decide) ch214
                          have ch214 := zk_f (by decide) ch214
                          have ch214 := zk_f (by decide) ch214
                          obtain ⟨cv215, cv216, ch217, ch214⟩ := zk_o2 ch214
                          unfold f_X0_note at ch217
                          unfold B_X0_note_0 at ch217
                          have ch217 := zk_f (by decide) ch217
                          obtain ⟨_, ch217⟩ := zk_gd ch217
                          obtain ⟨cv218, ce219, ch217⟩ := zk_lt ch217
                          subst ce219
                          unfold B_X0_note_19 at ch217
                          obtain ⟨cv220, ce221, ch217⟩ := zk_lt ch217
                          subst ce221
                          simp only [Option.some.injEq, Prod.mk.injEq] at ch217
                          obtain ⟨rfl, rfl⟩ := ch217
                          simp only [Option.some.injEq, Prod.mk.injEq] at ch214
                          obtain ⟨rfl, rfl, rfl⟩ := ch214
                          simp only [Option.some.injEq, Prod.mk.injEq] at ch207
                          obtain ⟨rfl, rfl, rfl⟩ := ch207
                          simp only [Option.some.injEq, Prod.mk.injEq] at ch193
                          obtain ⟨rfl, rfl, rfl⟩ := ch193
                          simp only [Option.some.injEq, Prod.mk.injEq] at ch182
                          obtain ⟨rfl, rfl, rfl⟩ := ch182
                          simp only [Option.some.injEq, Prod.mk.injEq] at ch175
                          obtain ⟨rfl, rfl, rfl⟩ := ch175
                          simp only [Option.some.injEq, Prod.mk.injEq] at ch168
                          obtain ⟨rfl, rfl, rfl⟩ := ch168
                          obtain ⟨cv222, cv223, cv224, ch225, ch157⟩ := zk_o3 ch157
                          have ch225 : f_X0_binds (grp_grp139 6) (5 : Int32) (1 : Int32) (((((0 : Int32) + (1 : Int32)) + (1 : Int32)) + (1 : Int32)) + (1 : Int32)) (5 : Int32) x1 (S_askedCount x1.toNatClampNeg) (upd (upd (upd (upd acts_bodies (0 : Int32).toNatClampNeg (2 : Int32)) ((0 : Int32) + (1 : Int32)).toNatClampNeg (10 : Int32)) (((0 : Int32) + (1 : Int32)) + (1 : Int32)).toNatClampNeg (60 : Int32)) ((((0 : Int32) + (1 : Int32)) + (1 : Int32)) + (1 : Int32)).toNatClampNeg (1 : Int32)) = some (cv222, cv223, cv224) := ch225
                          unfold f_X0_binds at ch225
                          unfold B_X0_binds_0 at ch225
                          have ch225 := zk_f (by decide) ch225
                          have ch225 := zk_f (by decide) ch225
                          obtain ⟨cv226, cv227, ch228, ch225⟩ := zk_o2 ch225
                          unfold f_X0_above at ch228
                          unfold B_X0_above_0 at ch228
                          have ch228 := zk_f (by decide) ch228
                          have ch228 := zk_t rfl ch228
                          simp only [Option.some.injEq, Prod.mk.injEq] at ch228
                          obtain ⟨rfl, _⟩ := ch228
                          obtain ⟨cv229, cv230, cv231, ch232, ch225⟩ := zk_o3 ch225
                          have ch232 : f_X0_binds (grp_grp139 5) (2 : Int32) (1 : Int32) (((((0 : Int32) + (1 : Int32)) + (1 : Int32)) + (1 : Int32)) + (1 : Int32)) (5 : Int32) x1 (S_askedCount x1.toNatClampNeg) (upd (upd (upd (upd acts_bodies (0 : Int32).toNatClampNeg (2 : Int32)) ((0 : Int32) + (1 : Int32)).toNatClampNeg (10 : Int32)) (((0 : Int32) + (1 : Int32)) + (1 : Int32)).toNatClampNeg (60 : Int32)) ((((0 : Int32) + (1 : Int32)) + (1 : Int32)) + (1 : Int32)).toNatClampNeg (1 : Int32)) = some (cv229, cv230, cv231) := ch232
                          unfold f_X0_binds at ch232
                          unfold B_X0_binds_0 at ch232
                          have ch232 := zk_t rfl ch232
                          obtain ⟨cv233, cv234, ch235, ch232⟩ := zk_o2 ch232
                          unfold f_X0_note at ch235
                          unfold B_X0_note_0 at ch235
                          have ch235 := zk_f (by decide) ch235
                          obtain ⟨_, ch235⟩ := zk_gd ch235
                          obtain ⟨cv236, ce237, ch235⟩ := zk_lt ch235
                          subst ce237
                          unfold B_X0_note_19 at ch235
                          obtain ⟨cv238, ce239, ch235⟩ := zk_lt ch235
                          subst ce239
                          simp only [Option.some.injEq, Prod.mk.injEq] at ch235
                          obtain ⟨rfl, rfl⟩ := ch235
                          obtain ⟨cv240, cv241, ch242, ch232⟩ := zk_o2 ch232
                          unfold f_X0_above at ch242
                          unfold B_X0_above_0 at ch242
                          have ch242 := zk_f (by decide) ch242
                          have ch242 := zk_f (by decide) ch242
                          have ch242 := zk_f (by decide) ch242
                          simp only [Option.some.injEq, Prod.mk.injEq] at ch242
                          obtain ⟨rfl, _⟩ := ch242
                          obtain ⟨cv243, cv244, cv245, ch246, ch232⟩ := zk_o3 ch232
                          have ch246 : f_X0_binds (grp_grp139 4) (0 : Int32) (1 : Int32) ((((((0 : Int32) + (1 : Int32)) + (1 : Int32)) + (1 : Int32)) + (1 : Int32)) + (1 : Int32)) (5 : Int32) x1 (S_askedCount x1.toNatClampNeg) (upd (upd (upd (upd (upd acts_bodies (0 : Int32).toNatClampNeg (2 : Int32)) ((0 : Int32) + (1 : Int32)).toNatClampNeg (10 : Int32)) (((0 : Int32) + (1 : Int32)) + (1 : Int32)).toNatClampNeg (60 : Int32)) ((((0 : Int32) + (1 : Int32)) + (1 : Int32)) + (1 : Int32)).toNatClampNeg (1 : Int32)) (((((0 : Int32) + (1 : Int32)) + (1 : Int32)) + (1 : Int32)) + (1 : Int32)).toNatClampNeg (30 : Int32)) = some (cv243, cv244, cv245) := ch246
                          unfold f_X0_binds at ch246
                          unfold B_X0_binds_0 at ch246
                          have ch246 := zk_f (by decide) ch246
                          have ch246 := zk_t (Int32.le_refl _) ch246
                          obtain ⟨cv247, cv248, ch249, ch246⟩ := zk_o2 ch246
                          unfold f_X0_note at ch249
                          unfold B_X0_note_0 at ch249
                          have ch249 := zk_f (by decide) ch249
                          obtain ⟨_, ch249⟩ := zk_gd ch249
                          obtain ⟨cv250, ce251, ch249⟩ := zk_lt ch249
                          subst ce251
                          unfold B_X0_note_19 at ch249
                          obtain ⟨cv252, ce253, ch249⟩ := zk_lt ch249
                          subst ce253
                          simp only [Option.some.injEq, Prod.mk.injEq] at ch249
                          obtain ⟨rfl, rfl⟩ := ch249
                          simp only [Option.some.injEq, Prod.mk.injEq] at ch246
                          obtain ⟨rfl, rfl, rfl⟩ := ch246
                          simp only [Option.some.injEq, Prod.mk.injEq] at ch232
                          obtain ⟨rfl, rfl, rfl⟩ := ch232
                          simp only [Option.some.injEq, Prod.mk.injEq] at ch225
                          obtain ⟨rfl, rfl, rfl⟩ := ch225
                          simp only [Option.some.injEq, Prod.mk.injEq] at ch157
                          obtain ⟨rfl, rfl, rfl⟩ := ch157
                          simp only [Option.some.injEq, Prod.mk.injEq] at ch150
                          obtain ⟨rfl, rfl, rfl⟩ := ch150
                          simp only [Option.some.injEq, Prod.mk.injEq] at ch143
                          obtain ⟨rfl, rfl, rfl⟩ := ch143
                          have hi : x1.toNatClampNeg < court_suitCount.toInt.toNat := by rw [tcn]; omega
                          have ea : mod_askedMany x1.toNatClampNeg = S_askedCount x1.toNatClampNeg := (hA _ hi).symm
                          unfold B_X12_act_0 at k
                          replace k := zk_o2 k
                          obtain ⟨mv140, mv141, mh142, k⟩ := k
                          unfold f_X12_isSuit at mh142
                          unfold B_X12_isSuit_0 at mh142
                          obtain ⟨mv143, mv144, mh145, mh142⟩ := zk_o2 mh142
                          unfold f_X12_in at mh145
                          unfold B_X12_in_0 at mh145
                          have mh145 := zk_f cc4 mh145
                          have mh145 := zk_f (by (try simp only [i32_lt, i32_le, i32_e, z32_0, z32_1]); omega) mh145
                          simp only [Option.some.injEq, Prod.mk.injEq] at mh145
                          obtain ⟨rfl, _⟩ := mh145
                          obtain ⟨_, mh142⟩ := zk_gd mh142
                          simp only [Option.some.injEq, Prod.mk.injEq] at mh142
                          obtain ⟨rfl, _⟩ := mh142
                          replace k := zk_f (by decide) k
                          replace k := zk_o2 k
                          obtain ⟨mv146, mv147, mh148, k⟩ := k
                          unfold f_X12_in at mh148
                          unfold B_X12_in_0 at mh148
                          have mh148 := zk_f (by (try simp only [i32_lt, i32_le, i32_e, z32_0, z32_1]); omega) mh148
                          have mh148 := zk_f (by (try simp only [i32_lt, i32_le, i32_e, z32_0, z32_1, z32L_3]); omega) mh148
                          simp only [Option.some.injEq, Prod.mk.injEq] at mh148
                          obtain ⟨rfl, _⟩ := mh148
                          replace k := zk_f (by decide) k
                          replace k := zk_f cc15 k
                          replace k := zk_f cc48 k
                          replace k := zk_f cc106 k
                          replace k := zk_o3 k
                          obtain ⟨mv149, mv150, mv151, mh152, k⟩ := k
                          unfold f_X12_tells at mh152
                          unfold B_X12_tells_0 at mh152
                          obtain ⟨mv153, mv154, mh155, mh152⟩ := zk_o2 mh152
                          obtain mq156 := bk12_e (hB12 hi) mh155
                          replace mq156 := mq156.symm
                          subst mq156
                          have mh152 := zk_f (by decide) mh152
                          obtain ⟨mv157, mv158, mv159, mh160, mh152⟩ := zk_o3 mh152
                          unfold f_X12_plainTells at mh160
                          unfold B_X12_plainTells_0 at mh160
                          obtain ⟨mv161, mv162, mh163, mh160⟩ := zk_o2 mh160
                          unfold f_X12_ran at mh163
                          unfold B_X12_ran_0 at mh163
                          have mh163 := zk_f (by decide) mh163
                          obtain ⟨_, mh163⟩ := zk_gd mh163
                          obtain ⟨mv164, me165, mh163⟩ := zk_lt mh163
                          subst me165
                          unfold B_X12_ran_19 at mh163
                          obtain ⟨mv166, me167, mh163⟩ := zk_lt mh163
                          subst me167
                          simp only [Option.some.injEq, Prod.mk.injEq] at mh163
                          obtain ⟨rfl, rfl⟩ := mh163
                          obtain ⟨mv168, mv169, mv170, mh171, mh160⟩ := zk_o3 mh160
                          unfold f_X12_settles at mh171
                          unfold B_X12_settles_0 at mh171
                          obtain ⟨mv172, mv173, mh174, mh171⟩ := zk_o2 mh171
                          obtain mq175 := bk12_e (hB12 hi) mh174
                          replace mq175 := mq175.symm
                          subst mq175
                          have mh171 := zk_f (by decide) mh171
                          have mh171 := zk_f (by decide) mh171
                          have mh171 := zk_f (by decide) mh171
                          obtain ⟨mv176, mv177, mv178, mh179, mh171⟩ := zk_o3 mh171
                          unfold f_X12_plainSettles at mh179
                          unfold B_X12_plainSettles_0 at mh179
                          obtain ⟨mv180, mv181, mh182, mh179⟩ := zk_o2 mh179
                          unfold f_X12_ran at mh182
                          unfold B_X12_ran_0 at mh182
                          have mh182 := zk_f (by decide) mh182
                          obtain ⟨_, mh182⟩ := zk_gd mh182
                          obtain ⟨mv183, me184, mh182⟩ := zk_lt mh182
                          subst me184
                          unfold B_X12_ran_19 at mh182
                          obtain ⟨mv185, me186, mh182⟩ := zk_lt mh182
                          subst me186
                          simp only [Option.some.injEq, Prod.mk.injEq] at mh182
                          obtain ⟨rfl, rfl⟩ := mh182
                          obtain ⟨mv187, mv188, mv189, mh190, mh179⟩ := zk_o3 mh179
                          unfold f_X12_closes at mh190
                          unfold B_X12_closes_0 at mh190
                          rw [ea] at mh190
                          obtain ⟨mv191, mv192, mh193, mh190⟩ := zk_o2 mh190
                          obtain mq194 := bk12_e (hB12 hi) mh193
                          replace mq194 := mq194.symm
                          subst mq194
                          have mh190 := zk_f (by decide) mh190
                          have mh190 := zk_f (by decide) mh190
                          have mh190 := zk_t rfl mh190
                          obtain ⟨mv195, mv196, mh197, mh190⟩ := zk_o2 mh190
                          unfold f_X12_ran at mh197
                          unfold B_X12_ran_0 at mh197
                          have mh197 := zk_f (by decide) mh197
                          obtain ⟨_, mh197⟩ := zk_gd mh197
                          obtain ⟨mv198, me199, mh197⟩ := zk_lt mh197
                          subst me199
                          unfold B_X12_ran_19 at mh197
                          obtain ⟨mv200, me201, mh197⟩ := zk_lt mh197
                          subst me201
                          simp only [Option.some.injEq, Prod.mk.injEq] at mh197
                          obtain ⟨rfl, rfl⟩ := mh197
                          obtain ⟨mv202, mv203, mv204, mh205, mh190⟩ := zk_o3 mh190
                          unfold f_X12_plainCloses at mh205
                          unfold B_X12_plainCloses_0 at mh205
                          obtain ⟨mv206, mv207, mh208, mh205⟩ := zk_o2 mh205
                          unfold f_X12_ran at mh208
                          unfold B_X12_ran_0 at mh208
                          have mh208 := zk_f (by decide) mh208
                          obtain ⟨_, mh208⟩ := zk_gd mh208
                          obtain ⟨mv209, me210, mh208⟩ := zk_lt mh208
                          subst me210
                          unfold B_X12_ran_19 at mh208
                          obtain ⟨mv211, me212, mh208⟩ := zk_lt mh208
                          subst me212
                          simp only [Option.some.injEq, Prod.mk.injEq] at mh208
                          obtain ⟨rfl, rfl⟩ := mh208
                          simp only [Option.some.injEq, Prod.mk.injEq] at mh205
                          obtain ⟨rfl, rfl, rfl⟩ := mh205
                          simp only [Option.some.injEq, Prod.mk.injEq] at mh190
                          obtain ⟨rfl, rfl, rfl⟩ := mh190
                          simp only [Option.some.injEq, Prod.mk.injEq] at mh179
                          obtain ⟨rfl, rfl, rfl⟩ := mh179
                          simp only [Option.some.injEq, Prod.mk.injEq] at mh171
                          obtain ⟨rfl, rfl, rfl⟩ := mh171
                          obtain ⟨mv213, mv214, mv215, mh216, mh160⟩ := zk_o3 mh160
                          unfold f_X12_binds at mh216
                          unfold B_X12_binds_0 at mh216
                          obtain ⟨mv217, mv218, mh219, mh216⟩ := zk_o2 mh216
                          obtain mq220 := bk12_e (hB12 hi) mh219
                          replace mq220 := mq220.symm
                          subst mq220
                          obtain ⟨mv221, mv222, mh223, mh216⟩ := zk_o2 mh216
                          unfold f_X12_isUnder at mh223
                          unfold B_X12_isUnder_0 at mh223
                          have mh223 := zk_f (by decide) mh223
                          have mh223 := zk_f (by decide) mh223
                          have mh223 := zk_f (by decide) mh223
                          unfold B_X12_isUnder_19 at mh223
                          have mh223 := zk_t rfl mh223
                          have mh223 := zk_t rfl mh223
                          unfold B_X12_isUnder_40 at mh223
                          simp only [Option.some.injEq, Prod.mk.injEq] at mh223
                          obtain ⟨rfl, _⟩ := mh223
                          have mh216 := zk_f (by decide) mh216
                          obtain ⟨mv224, mv225, mh226, mh216⟩ := zk_o2 mh216
                          unfold f_X12_ran at mh226
                          unfold B_X12_ran_0 at mh226
                          have mh226 := zk_f (by decide) mh226
                          obtain ⟨_, mh226⟩ := zk_gd mh226
                          obtain ⟨mv227, me228, mh226⟩ := zk_lt mh226
                          subst me228
                          unfold B_X12_ran_19 at mh226
                          obtain ⟨mv229, me230, mh226⟩ := zk_lt mh226
                          subst me230
                          simp only [Option.some.injEq, Prod.mk.injEq] at mh226
                          obtain ⟨rfl, rfl⟩ := mh226
                          obtain ⟨mv231, mv232, mv233, mh234, mh216⟩ := zk_o3 mh216
                          unfold f_X12_plainBinds at mh234
                          unfold B_X12_plainBinds_0 at mh234
                          obtain ⟨mv235, mv236, mh237, mh234⟩ := zk_o2 mh234
                          unfold f_X12_ran at mh237
                          unfold B_X12_ran_0 at mh237
                          have mh237 := zk_f (by decide) mh237
                          obtain ⟨_, mh237⟩ := zk_gd mh237
                          obtain ⟨mv238, me239, mh237⟩ := zk_lt mh237
                          subst me239
                          unfold B_X12_ran_19 at mh237
                          obtain ⟨mv240, me241, mh237⟩ := zk_lt mh237
                          subst me241
                          simp only [Option.some.injEq, Prod.mk.injEq] at mh237
                          obtain ⟨rfl, rfl⟩ := mh237
                          simp only [Option.some.injEq, Prod.mk.injEq] at mh234
                          obtain ⟨rfl, rfl, rfl⟩ := mh234
                          simp only [Option.some.injEq, Prod.mk.injEq] at mh216
                          obtain ⟨rfl, rfl, rfl⟩ := mh216
                          simp only [Option.some.injEq, Prod.mk.injEq] at mh160
                          obtain ⟨rfl, rfl, rfl⟩ := mh160
                          simp only [Option.some.injEq, Prod.mk.injEq] at mh152
                          obtain ⟨rfl, rfl, rfl⟩ := mh152
                          replace h := Option.some.inj h
                          replace k := Option.some.inj k
                          subst h
                          subst k
                          try dsimp only
                          all_goals first
                          | (exfalso; omega)
                          | exact ⟨rfl, rfl, fun e => by first | exact e | rw [e]⟩
                          | exact ⟨rfl, rfl, fun e => by rw [e]; rfl⟩
                      · replace h := zk_f cc139 h
                        have cc139n := cc139
                        (try simp only [i32_lt, i32_le, i32_e, z32_0, z32_1, z32L_3] at cc139n)
                        first
                        | (exfalso; omega)
                        | have hi : x1.toNatClampNeg < court_suitCount.toInt.toNat := by rw [tcn]; omega
                          have ea : mod_askedMany x1.toNatClampNeg = S_askedCount x1.toNatClampNeg := (hA _ hi).symm
                          unfold B_X12_act_0 at k
                          replace k := zk_o2 k
                          obtain ⟨mv242, mv243, mh244, k⟩ := k
                          unfold f_X12_isSuit at mh244
                          unfold B_X12_isSuit_0 at mh244
                          obtain ⟨mv245, mv246, mh247, mh244⟩ := zk_o2 mh244
                          unfold f_X12_in at mh247
                          unfold B_X12_in_0 at mh247
                          have mh247 := zk_f cc4 mh247
                          have mh247 := zk_f (by (try simp only [i32_lt, i32_le, i32_e, z32_0, z32_1]); omega) mh247
                          simp only [Option.some.injEq, Prod.mk.injEq] at mh247
                          obtain ⟨rfl, _⟩ := mh247
                          obtain ⟨_, mh244⟩ := zk_gd mh244
                          simp only [Option.some.injEq, Prod.mk.injEq] at mh244
                          obtain ⟨rfl, _⟩ := mh244
                          replace k := zk_f (by decide) k
                          replace k := zk_o2 k
                          obtain ⟨mv248, mv249, mh250, k⟩ := k
                          unfold f_X12_in at mh250
                          unfold B_X12_in_0 at mh250
                          by_cases mc251 : x2 < (0 : Int32)
                          · have mh250 := zk_t mc251 mh250
                            have mc251n := mc251
                            (try simp only [i32_lt, i32_le, i32_e, z32_0, z32_1] at mc251n)
                            first
                            | (exfalso; omega)
                            | simp only [Option.some.injEq, Prod.mk.injEq] at mh250
                              obtain ⟨rfl, _⟩ := mh250
                              replace k := zk_t rfl k
                              replace h := Option.some.inj h
                              replace k := Option.some.inj k
                              subst h
                              subst k
                              try dsimp only
                              all_goals first
                              | (exfalso; omega)
                              | exact ⟨rfl, rfl, fun e => by first | exact e | rw [e]⟩
                              | exact ⟨rfl, rfl, fun e => by rw [e]; rfl⟩
                          · have mh250 := zk_f mc251 mh250
                            have mc251n := mc251
                            (try simp only [i32_lt, i32_le, i32_e, z32_0, z32_1] at mc251n)
                            first
                            | (exfalso; omega)
                            | by_cases mc252 : (3 : Int32) < x2
                              · have mh250 := zk_t mc252 mh250
                                have mc252n := mc252
                                (try simp only [i32_lt, i32_le, i32_e, z32_0, z32_1, z32L_3] at mc252n)
                                first
                                | (exfalso; omega)
                                | simp only [Option.some.injEq, Prod.mk.injEq] at mh250
                                  obtain ⟨rfl, _⟩ := mh250
                                  replace k := zk_t rfl k
                                  replace h := Option.some.inj h
                                  replace k := Option.some.inj k
                                  subst h
                                  subst k
                                  try dsimp only
                                  all_goals first
                                  | (exfalso; omega)
                                  | exact ⟨rfl, rfl, fun e => by first | exact e | rw [e]⟩
                                  | exact ⟨rfl, rfl, fun e => by rw [e]; rfl⟩
                              · have mh250 := zk_f mc252 mh250
                                have mc252n := mc252
                                (try simp only [i32_lt, i32_le, i32_e, z32_0, z32_1, z32L_3] at mc252n)
                                first
                                | (exfalso; omega)
                                | simp only [Option.some.injEq, Prod.mk.injEq] at mh250
                                  obtain ⟨rfl, _⟩ := mh250
                                  replace k := zk_f (by decide) k
                                  replace k := zk_f cc15 k
                                  replace k := zk_f cc48 k
                                  replace k := zk_f cc106 k
                                  replace k := zk_o3 k
                                  obtain ⟨mv253, mv254, mv255, mh256, k⟩ := k
                                  unfold f_X12_tells at mh256
                                  unfold B_X12_tells_0 at mh256
                                  obtain ⟨mv257, mv258, mh259, mh256⟩ := zk_o2 mh256
                                  obtain mq260 := bk12_e (hB12 hi) mh259
                                  replace mq260 := mq260.symm
                                  subst mq260
                                  have mh256 := zk_f (by decide) mh256
                                  obtain ⟨mv261, mv262, mv263, mh264, mh256⟩ := zk_o3 mh256
                                  unfold f_X12_plainTells at mh264
                                  unfold B_X12_plainTells_0 at mh264
                                  obtain ⟨mv265, mv266, mh267, mh264⟩ := zk_o2 mh264
                                  unfold f_X12_ran at mh267
                                  unfold B_X12_ran_0 at mh267
                                  have mh267 := zk_f (by decide) mh267
                                  obtain ⟨_, mh267⟩ := zk_gd mh267
                                  obtain ⟨mv268, me269, mh267⟩ := zk_lt mh267
                                  subst me269
                                  unfold B_X12_ran_19 at mh267
                                  obtain ⟨mv270, me271, mh267⟩ := zk_lt mh267
                                  subst me271
                                  simp only [Option.some.injEq, Prod.mk.injEq] at mh267
                                  obtain ⟨rfl, rfl⟩ := mh267
                                  obtain ⟨mv272, mv273, mv274, mh275, mh264⟩ := zk_o3 mh264
                                  unfold f_X12_settles at mh275
                                  unfold B_X12_settles_0 at mh275
                                  obtain ⟨mv276, mv277, mh278, mh275⟩ := zk_o2 mh275
                                  obtain mq279 := bk12_e (hB12 hi) mh278
                                  replace mq279 := mq279.symm
                                  subst mq279
                                  have mh275 := zk_f (by decide) mh275
                                  have mh275 := zk_f (by decide) mh275
                                  have mh275 := zk_f (by decide) mh275
                                  obtain ⟨mv280, mv281, mv282, mh283, mh275⟩ := zk_o3 mh275
                                  unfold f_X12_plainSettles at mh283
                                  unfold B_X12_plainSettles_0 at mh283
                                  obtain ⟨mv284, mv285, mh286, mh283⟩ := zk_o2 mh283
                                  unfold f_X12_ran at mh286
                                  unfold B_X12_ran_0 at mh286
                                  have mh286 := zk_f (by decide) mh286
                                  obtain ⟨_, mh286⟩ := zk_gd mh286
                                  obtain ⟨mv287, me288, mh286⟩ := zk_lt mh286
                                  subst me288
                                  unfold B_X12_ran_19 at mh286
                                  obtain ⟨mv289, me290, mh286⟩ := zk_lt mh286
                                  subst me290
                                  simp only [Option.some.injEq, Prod.mk.injEq] at mh286
                                  obtain ⟨rfl, rfl⟩ := mh286
                                  obtain ⟨mv291, mv292, mv293, mh294, mh283⟩ := zk_o3 mh283
                                  unfold f_X12_closes at mh294
                                  unfold B_X12_closes_0 at mh294
                                  rw [ea] at mh294
                                  obtain ⟨mv295, mv296, mh297, mh294⟩ := zk_o2 mh294
                                  obtain mq298 := bk12_e (hB12 hi) mh297
                                  replace mq298 := mq298.symm
                                  subst mq298
                                  have mh294 := zk_f (by decide) mh294
                                  have mh294 := zk_f (by decide) mh294
                                  have mh294 := zk_t rfl mh294
                                  obtain ⟨mv299, mv300, mh301, mh294⟩ := zk_o2 mh294
                                  unfold f_X12_ran at mh301
                                  unfold B_X12_ran_0 at mh301
                                  have mh301 := zk_f (by decide) mh301
                                  obtain ⟨_, mh301⟩ := zk_gd mh301
                                  obtain ⟨mv302, me303, mh301⟩ := zk_lt mh301
                                  subst me303
                                  unfold B_X12_ran_19 at mh301
                                  obtain ⟨mv304, me305, mh301⟩ := zk_lt mh301
                                  subst me305
                                  simp only [Option.some.injEq, Prod.mk.injEq] at mh301
                                  obtain ⟨rfl, rfl⟩ := mh301
                                  obtain ⟨mv306, mv307, mv308, mh309, mh294⟩ := zk_o3 mh294
                                  unfold f_X12_plainCloses at mh309
                                  unfold B_X12_plainCloses_0 at mh309
                                  obtain ⟨mv310, mv311, mh312, mh309⟩ := zk_o2 mh309
                                  unfold f_X12_ran at mh312
                                  unfold B_X12_ran_0 at mh312
                                  have mh312 := zk_f (by decide) mh312
                                  obtain ⟨_, mh312⟩ := zk_gd mh312
                                  obtain ⟨mv313, me314, mh312⟩ := zk_lt mh312
                                  subst me314
                                  unfold B_X12_ran_19 at mh312
                                  obtain ⟨mv315, me316, mh312⟩ := zk_lt mh312
                                  subst me316
                                  simp only [Option.some.injEq, Prod.mk.injEq] at mh312
                                  obtain ⟨rfl, rfl⟩ := mh312
                                  simp only [Option.some.injEq, Prod.mk.injEq] at mh309
                                  obtain ⟨rfl, rfl, rfl⟩ := mh309
                                  simp only [Option.some.injEq, Prod.mk.injEq] at mh294
                                  obtain ⟨rfl, rfl, rfl⟩ := mh294
                                  simp only [Option.some.injEq, Prod.mk.injEq] at mh283
                                  obtain ⟨rfl, rfl, rfl⟩ := mh283
                                  simp only [Option.some.injEq, Prod.mk.injEq] at mh275
                                  obtain ⟨rfl, rfl, rfl⟩ := mh275
                                  obtain ⟨mv317, mv318, mv319, mh320, mh264⟩ := zk_o3 mh264
                                  unfold f_X12_binds at mh320
                                  unfold B_X12_binds_0 at mh320
                                  obtain ⟨mv321, mv322, mh323, mh320⟩ := zk_o2 mh320
                                  obtain mq324 := bk12_e (hB12 hi) mh323
                                  replace mq324 := mq324.symm
                                  subst mq324
                                  obtain ⟨mv325, mv326, mh327, mh320⟩ := zk_o2 mh320
                                  unfold f_X12_isUnder at mh327
                                  unfold B_X12_isUnder_0 at mh327
                                  have mh327 := zk_f (by decide) mh327
                                  have mh327 := zk_f (by decide) mh327
                                  have mh327 := zk_f (by decide) mh327
                                  unfold B_X12_isUnder_19 at mh327
                                  have mh327 := zk_t rfl mh327
                                  have mh327 := zk_t rfl mh327
                                  unfold B_X12_isUnder_40 at mh327
                                  simp only [Option.some.injEq, Prod.mk.injEq] at mh327
                                  obtain ⟨rfl, _⟩ := mh327
                                  have mh320 := zk_f (by decide) mh320
                                  obtain ⟨mv328, mv329, mh330, mh320⟩ := zk_o2 mh320
                                  unfold f_X12_ran at mh330
                                  unfold B_X12_ran_0 at mh330
                                  have mh330 := zk_f (by decide) mh330
                                  obtain ⟨_, mh330⟩ := zk_gd mh330
                                  obtain ⟨mv331, me332, mh330⟩ := zk_lt mh330
                                  subst me332
                                  unfold B_X12_ran_19 at mh330
                                  obtain ⟨mv333, me334, mh330⟩ := zk_lt mh330
                                  subst me334
                                  simp only [Option.some.injEq, Prod.mk.injEq] at mh330
                                  obtain ⟨rfl, rfl⟩ := mh330
                                  obtain ⟨mv335, mv336, mv337, mh338, mh320⟩ := zk_o3 mh320
                                  unfold f_X12_plainBinds at mh338
                                  unfold B_X12_plainBinds_0 at mh338
                                  obtain ⟨mv339, mv340, mh341, mh338⟩ := zk_o2 mh338
                                  unfold f_X12_ran at mh341
                                  unfold B_X12_ran_0 at mh341
                                  have mh341 := zk_f (by decide) mh341
                                  obtain ⟨_, mh341⟩ := zk_gd mh341
                                  obtain ⟨mv342, me343, mh341⟩ := zk_lt mh341
                                  subst me343
                                  unfold B_X12_ran_19 at mh341
                                  obtain ⟨mv344, me345, mh341⟩ := zk_lt mh341
                                  subst me345
                                  simp only [Option.some.injEq, Prod.mk.injEq] at mh341
                                  obtain ⟨rfl, rfl⟩ := mh341
                                  simp only [Option.some.injEq, Prod.mk.injEq] at mh338
                                  obtain ⟨rfl, rfl, rfl⟩ := mh338
                                  simp only [Option.some.injEq, Prod.mk.injEq] at mh320
                                  obtain ⟨rfl, rfl, rfl⟩ := mh320
                                  simp only [Option.some.injEq, Prod.mk.injEq] at mh264
                                  obtain ⟨rfl, rfl, rfl⟩ := mh264
                                  simp only [Option.some.injEq, Prod.mk.injEq] at mh256
                                  obtain ⟨rfl, rfl, rfl⟩ := mh256
                                  replace h := Option.some.inj h
                                  replace k := Option.some.inj k
                                  subst h
                                  subst k
                                  try dsimp only
                                  all_goals first
                                  | (exfalso; omega)
                                  | exact ⟨rfl, rfl, fun e => by first | exact e | rw [e]⟩
                                  | exact ⟨rfl, rfl, fun e => by rw [e]; rfl⟩
