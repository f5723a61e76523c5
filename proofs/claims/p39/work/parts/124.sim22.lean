
set_option maxHeartbeats 4000000 in
set_option maxRecDepth 20000 in
theorem pw_act5 {mod_code : Int32} {court_shoeCount : Int32} {mod_claims : Int32} {ts : Int32} {at_ : Int32} {f : Int32} {court_suitCount : Int32} {mod_doneMany : Int32} {mod_undoneMany : Int32} {mod_open : Int32} {mod_laid : Int32} {mod_isBoth : Int32} {mod_wished : Int32} {mod_bestMany : Int32} {mod_bestRow : Int32} {mod_ringDigits : Int32} {mod_traces : Int32} {mod_askedMany : Nat → Int32} {mod_endKind : Nat → Int32} {mod_undoneFrom : Nat → Int32} {mod_traced : Nat → Int32} {court_claimCount : Int32} {court_suits : Nat → Option Nat} {S_who : Nat → Int32} {S_against : Nat → Int32} {S_kind : Nat → Int32} {S_won : Nat → Int32} {S_day : Nat → Int32} {S_land : Nat → Int32} {S_undoneFrom : Nat → Int32} {S_asked : Nat → Nat → Int32} {S_askedCount : Nat → Int32} {S_askedBits : Nat → Int32} {S_first : Nat → Int32} {S_foundSo : Nat → Int32} {S_foundNot : Nat → Int32} {S_fought : Nat → Int32} {S_needed : Nat → Int32} {acts_ran : Int32} {acts_kind : Int32} {acts_number : Int32} {acts_claims : Int32} {acts_bodies : Nat → Int32} {x1 x2 x3 : Int32} {R : Int32 × Int32 × Int32 × Int32 × Int32 × (Nat → Int32)} {Q : Int32 × Int32 × (Nat → Int32)} (hn : 0 ≤ court_suitCount.toInt ∧ court_suitCount.toInt ≤ 40) (hA : WU court_suitCount S_askedCount mod_askedMany) (hB8 : ((S_undoneFrom x1.toNatClampNeg).toInt < 0 ∧ S_kind x1.toNatClampNeg = (5 : Int32)) ∨ (0 ≤ (S_undoneFrom x1.toNatClampNeg).toInt ∧ (5 : Int32) = 5)) (hB12 : x1.toNatClampNeg < court_suitCount.toInt.toNat → ((mod_undoneFrom x1.toNatClampNeg).toInt < 0 ∧ mod_endKind x1.toNatClampNeg = (5 : Int32)) ∨ (0 ≤ (mod_undoneFrom x1.toNatClampNeg).toInt ∧ (5 : Int32) = 5)) (h : f_X11_act x1 x2 x3 court_shoeCount court_claimCount court_suitCount court_suits acts_ran acts_kind acts_number acts_claims acts_bodies S_who S_against S_kind S_won S_day S_land S_undoneFrom S_asked S_askedCount S_askedBits S_first S_foundSo S_foundNot S_fought S_needed = some R) (k : f_X12_act x1 x2 x3 mod_code court_shoeCount mod_claims ts at_ f court_suitCount mod_doneMany mod_undoneMany mod_open mod_laid mod_isBoth mod_wished mod_bestMany mod_bestRow mod_ringDigits mod_traces mod_endKind mod_undoneFrom mod_askedMany mod_traced = some Q) : R.1 = Q.1 ∧ R.2.1 = Q.2.1 ∧ (acts_bodies = mod_traced → R.2.2.2.2.2 = Q.2.2) := by
  have hn1 := i32_m1 (a := court_suitCount) (by omega)
  unfold f_X11_act at h
  unfold f_X12_act at k
  unfold B_X11_act_0 at h
  replace h := zk_o2 h
  obtain ⟨cv1, cv2, ch3, h⟩ := h
  unfold f_X2_suitAt at ch3
  unfold B_X2_suitAt_0 at ch3
  by_cases cc4 : x1 < 0
  · have ch3 := zk_t cc4 ch3
    have cc4n := cc4
    (try simp only [i32_lt, i32_le, i32_e, z32_0, z32_1] at cc4n)
    first
    | (exfalso; omega)
    | simp only [Option.some.injEq, Prod.mk.injEq] at ch3
      obtain ⟨rfl, _⟩ := ch3
      replace h := zk_t (by decide) h
      unfold B_X12_act_0 at k
      replace k := zk_o2 k
      obtain ⟨mv1, mv2, mh3, k⟩ := k
      unfold f_X12_isSuit at mh3
      unfold B_X12_isSuit_0 at mh3
      obtain ⟨mv4, mv5, mh6, mh3⟩ := zk_o2 mh3
      unfold f_X12_in at mh6
      unfold B_X12_in_0 at mh6
      have mh6 := zk_t cc4 mh6
      simp only [Option.some.injEq, Prod.mk.injEq] at mh6
      obtain ⟨rfl, _⟩ := mh6
      obtain ⟨_, mh3⟩ := zk_gd mh3
      simp only [Option.some.injEq, Prod.mk.injEq] at mh3
      obtain ⟨rfl, _⟩ := mh3
      replace k := zk_t rfl k
      replace h := Option.some.inj h
      replace k := Option.some.inj k
      subst h
      subst k
      try dsimp only
      all_goals first
      | (exfalso; omega)
      | exact ⟨rfl, rfl, fun e => by first | exact e | rw [e]⟩
      | exact ⟨rfl, rfl, fun e => by rw [e]; rfl⟩
  · have ch3 := zk_f cc4 ch3
    have cc4n := cc4
    (try simp only [i32_lt, i32_le, i32_e, z32_0, z32_1] at cc4n)
    first
    | (exfalso; omega)
    | by_cases cc5 : court_suitCount ≤ x1
      · have ch3 := zk_t cc5 ch3
        have cc5n := cc5
        (try simp only [i32_lt, i32_le, i32_e, z32_0, z32_1] at cc5n)
        first
        | (exfalso; omega)
        | simp only [Option.some.injEq, Prod.mk.injEq] at ch3
          obtain ⟨rfl, _⟩ := ch3
          replace h := zk_t (by decide) h
          unfold B_X12_act_0 at k
          replace k := zk_o2 k
          obtain ⟨mv7, mv8, mh9, k⟩ := k
          unfold f_X12_isSuit at mh9
          unfold B_X12_isSuit_0 at mh9
          obtain ⟨mv10, mv11, mh12, mh9⟩ := zk_o2 mh9
          unfold f_X12_in at mh12
          unfold B_X12_in_0 at mh12
          have mh12 := zk_f cc4 mh12
          have mh12 := zk_t (by (try simp only [i32_lt, i32_le, i32_e, z32_0, z32_1]); omega) mh12
          simp only [Option.some.injEq, Prod.mk.injEq] at mh12
          obtain ⟨rfl, _⟩ := mh12
          obtain ⟨_, mh9⟩ := zk_gd mh9
          simp only [Option.some.injEq, Prod.mk.injEq] at mh9
          obtain ⟨rfl, _⟩ := mh9
          replace k := zk_t rfl k
          replace h := Option.some.inj h
          replace k := Option.some.inj k
          subst h
          subst k
          try dsimp only
          all_goals first
          | (exfalso; omega)
          | exact ⟨rfl, rfl, fun e => by first | exact e | rw [e]⟩
          | exact ⟨rfl, rfl, fun e => by rw [e]; rfl⟩
      · have ch3 := zk_f cc5 ch3
        have cc5n := cc5
        (try simp only [i32_lt, i32_le, i32_e, z32_0, z32_1] at cc5n)
        first
        | (exfalso; omega)
        | obtain ⟨_, ch3⟩ := zk_gd ch3
          obtain ⟨_, ch3⟩ := zk_gd ch3
          obtain ⟨_, ch3⟩ := zk_gd ch3
          simp only [Option.some.injEq, Prod.mk.injEq] at ch3
          obtain ⟨rfl, _⟩ := ch3
          replace h := zk_f cc4 h
          replace h := zk_gd h
          obtain ⟨_, h⟩ := h
          replace h := zk_o2 h
          obtain ⟨cv6, cv7, ch8, h⟩ := h
          obtain cq9 := bk8_e hB8 ch8
          replace cq9 := cq9.symm
          subst cq9
          replace h := zk_gd h
          obtain ⟨_, h⟩ := h
          replace h := zk_o4 h
          obtain ⟨cv10, cv11, cv12, cv13, ch14, h⟩ := h
          unfold f_X0_begin at ch14
          unfold B_X0_begin_0 at ch14
          simp only [Option.some.injEq, Prod.mk.injEq] at ch14
          obtain ⟨rfl, rfl, rfl, rfl⟩ := ch14
          by_cases cc15 : x2 = (0 : Int32)
          · replace h := zk_t cc15 h
            have cc15n := cc15
            (try simp only [i32_lt, i32_le, i32_e, z32_0, z32_1] at cc15n)
            first
            | (exfalso; omega)
            | obtain ⟨cv16, cv17, cv18, ch19, h⟩ := zk_o3 h
              have ch19 : f_X0_closes (grp_grp138 6) (5 : Int32) x3 (0 : Int32) (5 : Int32) x1 (S_askedCount x1.toNatClampNeg) acts_bodies = some (cv16, cv17, cv18) := ch19
              unfold f_X0_closes at ch19
              unfold B_X0_closes_0 at ch19
              have ch19 := zk_f (by decide) ch19
              have ch19 := zk_f (by decide) ch19
              have ch19 := zk_f (by decide) ch19
              have ch19 := zk_f (by decide) ch19
              have ch19 := zk_t rfl ch19
              obtain ⟨cv20, cv21, ch22, ch19⟩ := zk_o2 ch19
              unfold f_X0_note at ch22
              unfold B_X0_note_0 at ch22
              have ch22 := zk_f (by decide) ch22
              obtain ⟨_, ch22⟩ := zk_gd ch22
              obtain ⟨cv23, ce24, ch22⟩ := zk_lt ch22
              subst ce24
              unfold B_X0_note_19 at ch22
              obtain ⟨cv25, ce26, ch22⟩ := zk_lt ch22
              subst ce26
              simp only [Option.some.injEq, Prod.mk.injEq] at ch22
              obtain ⟨rfl, rfl⟩ := ch22
              obtain ⟨cv27, cv28, ch29, ch19⟩ := zk_o2 ch19
              unfold f_X0_above at ch29
              unfold B_X0_above_0 at ch29
              have ch29 := zk_f (by decide) ch29
              have ch29 := zk_t rfl ch29
              simp only [Option.some.injEq, Prod.mk.injEq] at ch29
              obtain ⟨rfl, _⟩ := ch29
              obtain ⟨cv30, cv31, cv32, ch33, ch19⟩ := zk_o3 ch19
              have ch33 : f_X0_closes (grp_grp138 5) (2 : Int32) (x3 + (1 : Int32)) ((0 : Int32) + (1 : Int32)) (5 : Int32) x1 (S_askedCount x1.toNatClampNeg) (upd acts_bodies (0 : Int32).toNatClampNeg (60 : Int32)) = some (cv30, cv31, cv32) := ch33
              unfold f_X0_closes at ch33
              unfold B_X0_closes_0 at ch33
              have ch33 := zk_f (by decide) ch33
              have ch33 := zk_t rfl ch33
              obtain ⟨cv34, cv35, ch36, ch33⟩ := zk_o2 ch33
              unfold f_X0_above at ch36
              unfold B_X0_above_0 at ch36
              have ch36 := zk_f (by decide) ch36
              have ch36 := zk_f (by decide) ch36
              have ch36 := zk_f (by decide) ch36
              simp only [Option.some.injEq, Prod.mk.injEq] at ch36
              obtain ⟨rfl, _⟩ := ch36
              obtain ⟨cv37, cv38, cv39, ch40, ch33⟩ := zk_o3 ch33
              have ch40 : f_X0_closes (grp_grp138 4) (0 : Int32) (x3 + (1 : Int32)) ((0 : Int32) + (1 : Int32)) (5 : Int32) x1 (S_askedCount x1.toNatClampNeg) (upd acts_bodies (0 : Int32).toNatClampNeg (60 : Int32)) = some (cv37, cv38, cv39) := ch40
              unfold f_X0_closes at ch40
              unfold B_X0_closes_0 at ch40
              have ch40 := zk_f (by decide) ch40
              have ch40 := zk_f (by decide) ch40
              have ch40 := zk_f (by decide) ch40
              have ch40 := zk_f (by decide) ch40
              have ch40 := zk_f (by decide) ch40
              have ch40 := zk_f (by decide) ch40
              obtain ⟨cv41, cv42, ch43, ch40⟩ := zk_o2 ch40
              unfold f_X0_note at ch43
              unfold B_X0_note_0 at ch43
              have ch43 := zk_f (by decide) ch43
              obtain ⟨_, ch43⟩ := zk_gd ch43
              obtain ⟨cv44, ce45, ch43⟩ := zk_lt ch43
              subst ce45
              unfold B_X0_note_19 at ch43
              obtain ⟨cv46, ce47, ch43⟩ := zk_lt ch43
              subst ce47
              simp only [Option.some.injEq, Prod.mk.injEq] at ch43
              obtain ⟨rfl, rfl⟩ := ch43
              simp only [Option.some.injEq, Prod.mk.injEq] at ch40
              obtain ⟨rfl, rfl, rfl⟩ := ch40
              simp only [Option.some.injEq, Prod.mk.injEq] at ch33
              obtain ⟨rfl, rfl, rfl⟩ := ch33
              simp only [Option.some.injEq, Prod.mk.injEq] at ch19
              obtain ⟨rfl, rfl, rfl⟩ := ch19
              have hi : x1.toNatClampNeg < court_suitCount.toInt.toNat := by rw [tcn]; omega
              have ea : mod_askedMany x1.toNatClampNeg = S_askedCount x1.toNatClampNeg := (hA _ hi).symm
              unfold B_X12_act_0 at k
              replace k := zk_o2 k
              obtain ⟨mv13, mv14, mh15, k⟩ := k
              unfold f_X12_isSuit at mh15
              unfold B_X12_isSuit_0 at mh15
              obtain ⟨mv16, mv17, mh18, mh15⟩ := zk_o2 mh15
              unfold f_X12_in at mh18
              unfold B_X12_in_0 at mh18
              have mh18 := zk_f cc4 mh18
              have mh18 := zk_f (by (try simp only [i32_lt, i32_le, i32_e, z32_0, z32_1]); omega) mh18
              simp only [Option.some.injEq, Prod.mk.injEq] at mh18
              obtain ⟨rfl, _⟩ := mh18
              obtain ⟨_, mh15⟩ := zk_gd mh15
              simp only [Option.some.injEq, Prod.mk.injEq] at mh15
              obtain ⟨rfl, _⟩ := mh15
              replace k := zk_f (by decide) k
              replace k := zk_o2 k
              obtain ⟨mv19, mv20, mh21, k⟩ := k
              unfold f_X12_in at mh21
              unfold B_X12_in_0 at mh21
              have mh21 := zk_f (by (try simp only [i32_lt, i32_le, i32_e, z32_0, z32_1]); omega) mh21
              have mh21 := zk_f (by (try simp only [i32_lt, i32_le, i32_e, z32_0, z32_1, z32L_3]); omega) mh21
              simp only [Option.some.injEq, Prod.mk.injEq] at mh21
              obtain ⟨rfl, _⟩ := mh21
              replace k := zk_f (by decide) k
              replace k := zk_t cc15 k
              replace k := zk_o3 k
              obtain ⟨mv22, mv23, mv24, mh25, k⟩ := k
              unfold f_X12_closes at mh25
              unfold B_X12_closes_0 at mh25
              rw [ea] at mh25
              obtain ⟨mv26, mv27, mh28, mh25⟩ := zk_o2 mh25
              obtain mq29 := bk12_e (hB12 hi) mh28
              replace mq29 := mq29.symm
              subst mq29
              have mh25 := zk_f (by decide) mh25
              have mh25 := zk_f (by decide) mh25
              have mh25 := zk_t rfl mh25
              obtain ⟨mv30, mv31, mh32, mh25⟩ := zk_o2 mh25
              unfold f_X12_ran at mh32
              unfold B_X12_ran_0 at mh32
              have mh32 := zk_f (by decide) mh32
              obtain ⟨_, mh32⟩ := zk_gd mh32
              obtain ⟨mv33, me34, mh32⟩ := zk_lt mh32
              subst me34
              unfold B_X12_ran_19 at mh32
              obtain ⟨mv35, me36, mh32⟩ := zk_lt mh32
              subst me36
              simp only [Option.some.injEq, Prod.mk.injEq] at mh32
              obtain ⟨rfl, rfl⟩ := mh32
              obtain ⟨mv37, mv38, mv39, mh40, mh25⟩ := zk_o3 mh25
              unfold f_X12_plainCloses at mh40
              unfold B_X12_plainCloses_0 at mh40
              obtain ⟨mv41, mv42, mh43, mh40⟩ := zk_o2 mh40
              unfold f_X12_ran at mh43
              unfold B_X12_ran_0 at mh43
              have mh43 := zk_f (by decide) mh43
              obtain ⟨_, mh43⟩ := zk_gd mh43
              obtain ⟨mv44, me45, mh43⟩ := zk_lt mh43
              subst me45
              unfold B_X12_ran_19 at mh43
              obtain ⟨mv46, me47, mh43⟩ := zk_lt mh43
              subst me47
              simp only [Option.some.injEq, Prod.mk.injEq] at mh43
              obtain ⟨rfl, rfl⟩ := mh43
              simp only [Option.some.injEq, Prod.mk.injEq] at mh40
              obtain ⟨rfl, rfl, rfl⟩ := mh40
              simp only [Option.some.injEq, Prod.mk.injEq] at mh25
              obtain ⟨rfl, rfl, rfl⟩ := mh25
              replace h := Option.some.inj h
              replace k := Option.some.inj k
              subst h
              subst k
              try dsimp only
              all_goals first
              | (exfalso; omega)
              | exact ⟨rfl, rfl, fun e => by first | exact e | rw [e]⟩
              | exact ⟨rfl, rfl, fun e => by rw [e]; rfl⟩
          · replace h := zk_f cc15 h
            have cc15n := cc15
            (try simp only [i32_lt, i32_le, i32_e, z32_0, z32_1] at cc15n)
            first
            | (exfalso; omega)
            | by_cases cc48 : x2 = (1 : Int32)
              · replace h := zk_t cc48 h
                have cc48n := cc48
                (try simp only [i32_lt, i32_le, i32_e, z32_0, z32_1] at cc48n)
                first
                | (exfalso; omega)
                | obtain ⟨cv49, cv50, cv51, ch52, h⟩ := zk_o3 h
                  have ch52 : f_X0_settles (grp_grp140 6) (5 : Int32) x3 (0 : Int32) (5 : Int32) x1 (S_askedCount x1.toNatClampNeg) acts_bodies = some (cv49, cv50, cv51) := ch52
                  unfold f_X0_settles at ch52
                  unfold B_X0_settles_0 at ch52
                  have ch52 := zk_f (by decide) ch52
                  have ch52 := zk_f (by decide) ch52
                  have ch52 := zk_f (by decide) ch52
                  have ch52 := zk_f (by decide) ch52
                  have ch52 := zk_t rfl ch52
                  obtain ⟨cv53, cv54, ch55, ch52⟩ := zk_o2 ch52
                  unfold f_X0_above at ch55
                  unfold B_X0_above_0 at ch55
                  have ch55 := zk_f (by decide) ch55
                  have ch55 := zk_t rfl ch55
                  simp only [Option.some.injEq, Prod.mk.injEq] at ch55
                  obtain ⟨rfl, _⟩ := ch55
                  obtain ⟨cv56, cv57, cv58, ch59, ch52⟩ := zk_o3 ch52
                  have ch59 : f_X0_settles (grp_grp140 5) (2 : Int32) x3 (0 : Int32) (5 : Int32) x1 (S_askedCount x1.toNatClampNeg) acts_bodies = some (cv56, cv57, cv58) := ch59
                  unfold f_X0_settles at ch59
                  unfold B_X0_settles_0 at ch59
                  have ch59 := zk_f (by decide) ch59
                  have ch59 := zk_t rfl ch59
                  obtain ⟨cv60, cv61, ch62, ch59⟩ := zk_o2 ch59
                  unfold f_X0_above at ch62
                  unfold B_X0_above_0 at ch62
                  have ch62 := zk_f (by decide) ch62
                  have ch62 := zk_f (by decide) ch62
                  have ch62 := zk_f (by decide) ch62
                  simp only [Option.some.injEq, Prod.mk.injEq] at ch62
                  obtain ⟨rfl, _⟩ := ch62
                  obtain ⟨cv63, cv64, cv65, ch66, ch59⟩ := zk_o3 ch59
                  have ch66 : f_X0_settles (grp_grp140 4) (0 : Int32) x3 (0 : Int32) (5 : Int32) x1 (S_askedCount x1.toNatClampNeg) acts_bodies = some (cv63, cv64, cv65) := ch66
                  unfold f_X0_settles at ch66
                  unfold B_X0_settles_0 at ch66
                  have ch66 := zk_f (by decide) ch66
                  have ch66 := zk_f (by decide) ch66
                  have ch66 := zk_f (by decide) ch66
                  have ch66 := zk_f (by decide) ch66
                  have ch66 := zk_f (by decide) ch66
                  have ch66 := zk_f (by decide) ch66
                  obtain ⟨cv67, cv68, ch69, ch66⟩ := zk_o2 ch66
                  unfold f_X0_note at ch69
                  unfold B_X0_note_0 at ch69
                  have ch69 := zk_f (by decide) ch69
                  obtain ⟨_, ch69⟩ := zk_gd ch69
                  obtain ⟨cv70, ce71, ch69⟩ := zk_lt ch69
                  subst ce71
                  unfold B_X0_note_19 at ch69
                  obtain ⟨cv72, ce73, ch69⟩ := zk_lt ch69
                  subst ce73
                  simp only [Option.some.injEq, Prod.mk.injEq] at ch69
                  obtain ⟨rfl, rfl⟩ := ch69
                  obtain ⟨cv74, cv75, cv76, ch77, ch66⟩ := zk_o3 ch66
                  have ch77 : f_X0_closes (grp_grp138 6) (5 : Int32) x3 ((0 : Int32) + (1 : Int32)) (5 : Int32) x1 (S_askedCount x1.toNatClampNeg) (upd acts_bodies (0 : Int32).toNatClampNeg (10 : Int32)) = some (cv74, cv75, cv76) := ch77
                  unfold f_X0_closes at ch77
                  unfold B_X0_closes_0 at ch77
                  have ch77 := zk_f (by decide) ch77
                  have ch77 := zk_f (by decide) ch77
                  have ch77 := zk_f (by decide) ch77
                  have ch77 := zk_f (by decide) ch77
                  have ch77 := zk_t rfl ch77
                  obtain ⟨cv78, cv79, ch80, ch77⟩ := zk_o2 ch77
                  unfold f_X0_note at ch80
                  unfold B_X0_note_0 at ch80
                  have ch80 := zk_f (by decide) ch80
                  obtain ⟨_, ch80⟩ := zk_gd ch80
                  obtain ⟨cv81, ce82, ch80⟩ := zk_lt ch80
                  subst ce82
                  unfold B_X0_note_19 at ch80
                  obtain ⟨cv83, ce84, ch80⟩ := zk_lt ch80
                  subst ce84
                  simp only [Option.some.injEq, Prod.mk.injEq] at ch80
                  obtain ⟨rfl, rfl⟩ := ch80
                  obtain ⟨cv85, cv86, ch87, ch77⟩ := zk_o2 ch77
                  unfold f_X0_above at ch87
                  unfold B_X0_above_0 at ch87
                  have ch87 := zk_f (by decide) ch87
                  have ch87 := zk_t rfl ch87
                  simp only [Option.some.injEq, Prod.mk.injEq] at ch87
                  obtain ⟨rfl, _⟩ := ch87
                  obtain ⟨cv88, cv89, cv90, ch91, ch77⟩ := zk_o3 ch77
                  have ch91 : f_X0_closes (grp_grp138 5) (2 : Int32) (x3 + (1 : Int32)) (((0 : Int32) + (1 : Int32)) + (1 : Int32)) (5 : Int32) x1 (S_askedCount x1.toNatClampNeg) (upd (upd acts_bodies (0 : Int32).toNatClampNeg (10 : Int32)) ((0 : Int32) + (1 : Int32)).toNatClampNeg (60 : Int32)) = some (cv88, cv89, cv90) := ch91
                  unfold f_X0_closes at ch91
                  unfold B_X0_closes_0 at ch91
                  have ch91 := zk_f (by decide) ch91
                  have ch91 := zk_t rfl ch91
                  obtain ⟨cv92, cv93, ch94, ch91⟩ := zk_o2 ch91
                  unfold f_X0_above at ch94
                  unfold B_X0_above_0 at ch94
                  have ch94 := zk_f (by decide) ch94
                  have ch94 := zk_f (by decide) ch94
                  have ch94 := zk_f (by decide) ch94
                  simp only [Option.some.injEq, Prod.mk.injEq] at ch94
                  obtain ⟨rfl, _⟩ := ch94
                  obtain ⟨cv95, cv96, cv97, ch98, ch91⟩ := zk_o3 ch91
                  have ch98 : f_X0_closes (grp_grp138 4) (0 : Int32) (x3 + (1 : Int32)) (((0 : Int32) + (1 : Int32)) + (1 : Int32)) (5 : Int32) x1 (S_askedCount x1.toNatClampNeg) (upd (upd acts_bodies (0 : Int32).toNatClampNeg (10 : Int32)) ((0 : Int32) + (1 : Int32)).toNatClampNeg (60 : Int32)) = some (cv95, cv96, cv97) := ch98
                  unfold f_X0_closes at ch98
                  unfold B_X0_closes_0 at ch98
                  have ch98 := zk_f (by decide) ch98
                  have ch98 := zk_f (by decide) ch98
                  have ch98 := zk_f (by decide) ch98
                  have ch98 := zk_f (by decide) ch98
                  have ch98 := zk_f (by decide) ch98
                  have ch98 := zk_f (by decide) ch98
                  obtain ⟨cv99, cv100, ch101, ch98⟩ := zk_o2 ch98
                  unfold f_X0_note at ch101
                  unfold B_X0_note_0 at ch101
                  have ch101 := zk_f (by decide) ch101
                  obtain ⟨_, ch101⟩ := zk_gd ch101
                  obtain ⟨cv102, ce103, ch101⟩ := zk_lt ch101
                  subst ce103
                  unfold B_X0_note_19 at ch101
                  obtain ⟨cv104, ce105, ch101⟩ := zk_lt ch101
                  subst ce105
                  simp only [Option.some.injEq, Prod.mk.injEq] at ch101
                  obtain ⟨rfl, rfl⟩ := ch101
                  simp only [Option.some.injEq, Prod.mk.injEq] at ch98
                  obtain ⟨rfl, rfl, rfl⟩ := ch98
                  simp only [Option.some.injEq, Prod.mk.injEq] at ch91
                  obtain ⟨rfl, rfl, rfl⟩ := ch91
                  simp only [Option.some.injEq, Prod.mk.injEq] at ch77
                  obtain ⟨rfl, rfl, rfl⟩ := ch77
                  simp only [Option.some.injEq, Prod.mk.injEq] at ch66
                  obtain ⟨rfl, rfl, rfl⟩ := ch66
                  simp only [Option.some.injEq, Prod.mk.injEq] at ch59
                  obtain ⟨rfl, rfl, rfl⟩ := ch59
                  simp only [Option.some.injEq, Prod.mk.injEq] at ch52
                  obtain ⟨rfl, rfl, rfl⟩ := ch52
                  have hi : x1.toNatClampNeg < court_suitCount.toInt.toNat := by rw [tcn]; omega
                  have ea : mod_askedMany x1.toNatClampNeg = S_askedCount x1.toNatClampNeg := (hA _ hi).symm
                  unfold B_X12_act_0 at k
                  replace k := zk_o2 k
                  obtain ⟨mv48, mv49, mh50, k⟩ := k
                  unfold f_X12_isSuit at mh50
                  unfold B_X12_isSuit_0 at mh50
                  obtain ⟨mv51, mv52, mh53, mh50⟩ := zk_o2 mh50
                  unfold f_X12_in at mh53
                  unfold B_X12_in_0 at mh53
                  have mh53 := zk_f cc4 mh53
                  have mh53 := zk_f (by (try simp only [i32_lt, i32_le, i32_e, z32_0, z32_1]); omega) mh53
                  simp only [Option.some.injEq, Prod.mk.injEq] at mh53
                  obtain ⟨rfl, _⟩ := mh53
                  obtain ⟨_, mh50⟩ := zk_gd mh50
                  simp only [Option.some.injEq, Prod.mk.injEq] at mh50
                  obtain ⟨rfl, _⟩ := mh50
                  replace k := zk_f (by decide) k
                  replace k := zk_o2 k
                  obtain ⟨mv54, mv55, mh56, k⟩ := k
                  unfold f_X12_in at mh56
                  unfold B_X12_in_0 at mh56
                  have mh56 := zk_f (by (try simp only [i32_lt, i32_le, i32_e, z32_0, z32_1]); omega) mh56
                  have mh56 := zk_f (by (try simp only [i32_lt, i32_le, i32_e, z32_0, z32_1, z32L_3]); omega) mh56
                  simp only [Option.some.injEq, Prod.mk.injEq] at mh56
                  obtain ⟨rfl, _⟩ := mh56
                  replace k := zk_f (by decide) k
                  replace k := zk_f cc15 k
                  replace k := zk_t cc48 k
                  replace k := zk_o3 k
                  obtain ⟨mv57, mv58, mv59, mh60, k⟩ := k
                  unfold f_X12_settles at mh60
                  unfold B_X12_settles_0 at mh60
                  obtain ⟨mv61, mv62, mh63, mh60⟩ := zk_o2 mh60
                  obtain mq64 := bk12_e (hB12 hi) mh63
                  replace mq64 := mq64.symm
                  subst mq64
                  have mh60 := zk_f (by decide) mh60
                  have mh60 := zk_f (by decide) mh60
                  have mh60 := zk_f (by decide) mh60
                  obtain ⟨mv65, mv66, mv67, mh68, mh60⟩ := zk_o3 mh60
                  unfold f_X12_plainSettles at mh68
                  unfold B_X12_plainSettles_0 at mh68
                  obtain ⟨mv69, mv70, mh71, mh68⟩ := zk_o2 mh68
                  unfold f_X12_ran at mh71
                  unfold B_X12_ran_0 at mh71
                  have mh71 := zk_f (by decide) mh71
                  obtain ⟨_, mh71⟩ := zk_gd mh71
                  obtain ⟨mv72, me73, mh71⟩ := zk_lt mh71
                  subst me73
                  unfold B_X12_ran_19 at mh71
                  obtain ⟨mv74, me75, mh71⟩ := zk_lt mh71
                  subst me75
                  simp only [Option.some.injEq, Prod.mk.injEq] at mh71
                  obtain ⟨rfl, rfl⟩ := mh71
                  obtain ⟨mv76, mv77, mv78, mh79, mh68⟩ := zk_o3 mh68
                  unfold f_X12_closes at mh79
                  unfold B_X12_closes_0 at mh79
                  rw [ea] at mh79
                  obtain ⟨mv80, mv81, mh82, mh79⟩ := zk_o2 mh79
                  obtain mq83 := bk12_e (hB12 hi) mh82
                  replace mq83 := mq83.symm
                  subst mq83
                  have mh79 := zk_f (by decide) mh79
                  have mh79 := zk_f (by decide) mh79
                  have mh79 := zk_t rfl mh79
                  obtain ⟨mv84, mv85, mh86, mh79⟩ := zk_o2 mh79
                  unfold f_X12_ran at mh86
                  unfold B_X12_ran_0 at mh86
                  have mh86 := zk_f (by decide) mh86
                  obtain ⟨_, mh86⟩ := zk_gd mh86
                  obtain ⟨mv87, me88, mh86⟩ := zk_lt mh86
                  subst me88
                  unfold B_X12_ran_19 at mh86
                  obtain ⟨mv89, me90, mh86⟩ := zk_lt mh86
                  subst me90
                  simp only [Option.some.injEq, Prod.mk.injEq] at mh86
                  obtain ⟨rfl, rfl⟩ := mh86
                  obtain ⟨mv91, mv92, mv93, mh94, mh79⟩ := zk_o3 mh79
                  unfold f_X12_plainCloses at mh94
                  unfold B_X12_plainCloses_0 at mh94
                  obtain ⟨mv95, mv96, mh97, mh94⟩ := zk_o2 mh94
                  unfold f_X12_ran at mh97
                  unfold B_X12_ran_0 at mh97
                  have mh97 := zk_f (by decide) mh97
                  obtain ⟨_, mh97⟩ := zk_gd mh97
                  obtain ⟨mv98, me99, mh97⟩ := zk_lt mh97
                  subst me99
                  unfold B_X12_ran_19 at mh97
                  obtain ⟨mv100, me101, mh97⟩ := zk_lt mh97
                  subst me101
                  simp only [Option.some.injEq, Prod.mk.injEq] at mh97
                  obtain ⟨rfl, rfl⟩ := mh97
                  simp only [Option.some.injEq, Prod.mk.injEq] at mh94
                  obtain ⟨rfl, rfl, rfl⟩ := mh94
                  simp only [Option.some.injEq, Prod.mk.injEq] at mh79
                  obtain ⟨rfl, rfl, rfl⟩ := mh79
                  simp only [Option.some.injEq, Prod.mk.injEq] at mh68
                  obtain ⟨rfl, rfl, rfl⟩ := mh68
                  simp only [Option.some.injEq, Prod.mk.injEq] at mh60
                  obtain ⟨rfl, rfl, rfl⟩ := mh60
                  replace h := Option.some.inj h
                  replace k := Option.some.inj k
                  subst h
                  subst k
                  try dsimp only
                  all_goals first
                  | (exfalso; omega)
                  | exact ⟨rfl, rfl, fun e => by first | exact e | rw [e]⟩
                  | exact ⟨rfl, rfl, fun e => by rw [e]; rfl⟩
              · replace h := zk_f cc48 h
                have cc48n := cc48
                (try simp only [i32_lt, i32_le, i32_e, z32_0, z32_1] at cc48n)
                first
                | (exfalso; omega)
                | by_cases cc106 : x2 = (2 : Int32)
                  · replace h := zk_t cc106 h
                    have cc106n := cc106
                    (try simp only [i32_lt, i32_le, i32_e, z32_0, z32_1, z32L_2] at cc106n)
                    first
                    | (exfalso; omega)
                    | obtain ⟨cv107, cv108, cv109, ch110, h⟩ := zk_o3 h
                      have ch110 : f_X0_binds (grp_grp139 6) (5 : Int32) x3 (0 : Int32) (5 : Int32) x1 (S_askedCount x1.toNatClampNeg) acts_bodies = some (cv107, cv108, cv109) := ch110
                      unfold f_X0_binds at ch110
                      unfold B_X0_binds_0 at ch110
                      have ch110 := zk_f (by decide) ch110
                      have ch110 := zk_f (by decide) ch110
                      obtain ⟨cv111, cv112, ch113, ch110⟩ := zk_o2 ch110
                      unfold f_X0_above at ch113
                      unfold B_X0_above_0 at ch113
                      have ch113 := zk_f (by decide) ch113
                      have ch113 := zk_t rfl ch113
                      simp only [Option.some.injEq, Prod.mk.injEq] at ch113
                      obtain ⟨rfl, _⟩ := ch113
                      obtain ⟨cv114, cv115, cv116, ch117, ch110⟩ := zk_o3 ch110
                      have ch117 : f_X0_binds (grp_grp139 5) (2 : Int32) x3 (0 : Int32) (5 : Int32) x1 (S_askedCount x1.toNatClampNeg) acts_bodies = some (cv114, cv115, cv116) := ch117
                      unfold f_X0_binds at ch117
                      unfold B_X0_binds_0 at ch117
                      have ch117 := zk_t rfl ch117
                      obtain ⟨cv118, cv119, ch120, ch117⟩ := zk_o2 ch117
                      unfold f_X0_note at ch120
                      unfold B_X0_note_0 at ch120
                      have ch120 := zk_f (by decide) ch120
                      obtain ⟨_, ch120⟩ := zk_gd ch120
                      obtain ⟨cv121, ce122, ch120⟩ := zk_lt ch120
                      subst ce122
                      unfold B_X0_note_19 at ch120
                      obtain ⟨cv123, ce124, ch120⟩ := zk_lt ch120
                      subst ce124
                      simp only [Option.some.injEq, Prod.mk.injEq] at ch120
                      obtain ⟨rfl, rfl⟩ := ch120
                      obtain ⟨cv125, cv126, ch127, ch117⟩ := zk_o2 ch117
                      unfold f_X0_above at ch127
                      unfold B_X0_above_0 at ch127
                      have ch127 := zk_f (by decide) ch127
                      have ch127 := zk_f (by decide) ch127
                      have ch127 := zk_f (by decide) ch127
                      simp only [Option.some.injEq, Prod.mk.injEq] at ch127
                      obtain ⟨rfl, _⟩ := ch127
                      obtain ⟨cv128, cv129, cv130, ch131, ch117⟩ := zk_o3 ch117
                      have ch131 : f_X0_binds (grp_grp139 4) (0 : Int32) x3 ((0 : Int32) + (1 : Int32)) (5 : Int32) x1 (S_askedCount x1.toNatClampNeg) (upd acts_bodies (0 : Int32).toNatClampNeg (30 : Int32)) = some (cv128, cv129, cv130) := ch131
                      unfold f_X0_binds at ch131
                      unfold B_X0_binds_0 at ch131
                      have ch131 := zk_f (by decide) ch131
                      have ch131 := zk_t (Int32.le_refl _) ch131
                      obtain ⟨cv132, cv133, ch134, ch131⟩ := zk_o2 ch131
                      unfold f_X0_note at ch134
                      unfold B_X0_note_0 at ch134
                      have ch134 := zk_f (by decide) ch134
                      obtain ⟨_, ch134⟩ := zk_gd ch134
                      obtain ⟨cv135, ce136, ch134⟩ := zk_lt ch134
                      subst ce136
                      unfold B_X0_note_19 at ch134
                      obtain ⟨cv137, ce138, ch134⟩ := zk_lt ch134
                      subst ce138
                      simp only [Option.some.injEq, Prod.mk.injEq] at ch134
                      obtain ⟨rfl, rfl⟩ := ch134
                      simp only [Option.some.injEq, Prod.mk.injEq] at ch131
                      obtain ⟨rfl, rfl, rfl⟩ := ch131
                      simp only [Option.some.injEq, Prod.mk.injEq] at ch117
                      obtain ⟨rfl, rfl, rfl⟩ := ch117
                      simp only [Option.some.injEq, Prod.mk.injEq] at ch110
                      obtain ⟨rfl, rfl, rfl⟩ := ch110
                      have hi : x1.toNatClampNeg < court_suitCount.toInt.toNat := by rw [tcn]; omega
                      have ea : mod_askedMany x1.toNatClampNeg = S_askedCount x1.toNatClampNeg := (hA _ hi).symm
                      unfold B_X12_act_0 at k
                      replace k := zk_o2 k
                      obtain ⟨mv102, mv103, mh104, k⟩ := k
                      unfold f_X12_isSuit at mh104
                      unfold B_X12_isSuit_0 at mh104
                      obtain ⟨mv105, mv106, mh107, mh104⟩ := zk_o2 mh104
                      unfold f_X12_in at mh107
                      unfold B_X12_in_0 at mh107
                      have mh107 := zk_f cc4 mh107
                      have mh107 := zk_f (by (try simp only [i32_lt, i32_le, i32_e, z32_0, z32_1]); omega) mh107
                      simp only [Option.some.injEq, Prod.mk.injEq] at mh107
                      obtain ⟨rfl, _⟩ := mh107
                      obtain ⟨_, mh104⟩ := zk_gd mh104
                      simp only [Option.some.injEq, Prod.mk.injEq] at mh104
                      obtain ⟨rfl, _⟩ := mh104
                      replace k := zk_f (by decide) k
                      replace k := zk_o2 k
                      obtain ⟨mv108, mv109, mh110, k⟩ := k
                      unfold f_X12_in at mh110
                      unfold B_X12_in_0 at mh110
                      have mh110 := zk_f (by (try simp only [i32_lt, i32_le, i32_e, z32_0, z32_1]); omega) mh110
                      have mh110 := zk_f (by (try simp only [i32_lt, i32_le, i32_e, z32_0, z32_1, z32L_3]); omega) mh110
                      simp only [Option.some.injEq, Prod.mk.injEq] at mh110
                      obtain ⟨rfl, _⟩ := mh110
                      replace k := zk_f (by decide) k
                      replace k := zk_f cc15 k
                      replace k := zk_f cc48 k
                      replace k := zk_t cc106 k
                      replace k := zk_o3 k
                      obtain ⟨mv111, mv112, mv113, mh114, k⟩ := k
                      unfold f_X12_binds at mh114
                      unfold B_X12_binds_0 at mh114
                      obtain ⟨mv115, mv116, mh117, mh114⟩ := zk_o2 mh114
                      obtain mq118 := bk12_e (hB12 hi) mh117
                      replace mq118 := mq118.symm
                      subst mq118
                      obtain ⟨mv119, mv120, mh121, mh114⟩ := zk_o2 mh114
                      unfold f_X12_isUnder at mh121
                      unfold B_X12_isUnder_0 at mh121
                      have mh121 := zk_f (by decide) mh121
                      have mh121 := zk_f (by decide) mh121
                      have mh121 := zk_f (by decide) mh121
                      unfold B_X12_isUnder_19 at mh121
                      have mh121 := zk_t rfl mh121
                      have mh121 := zk_t rfl mh121
                      unfold B_X12_isUnder_40 at mh121
                      simp only [Option.some.injEq, Prod.mk.injEq] at mh121
                      obtain ⟨rfl, _⟩ := mh121
                      have mh114 := zk_f (by decide) mh114
                      obtain ⟨mv122, mv123, mh124, mh114⟩ := zk_o2 mh114
                      unfold f_X12_ran at mh124
                      unfold B_X12_ran_0 at mh124
                      have mh124 := zk_f (by decide) mh124
                      obtain ⟨_, mh124⟩ := zk_gd mh124
                      obtain ⟨mv125, me126, mh124⟩ := zk_lt mh124
                      subst me126
                      unfold B_X12_ran_19 at mh124
                      obtain ⟨mv127, me128, mh124⟩ := zk_lt mh124
                      subst me128
                      simp only [Option.some.injEq, Prod.mk.injEq] at mh124
                      obtain ⟨rfl, rfl⟩ := mh124
                      obtain ⟨mv129, mv130, mv131, mh132, mh114⟩ := zk_o3 mh114
                      unfold f_X12_plainBinds at mh132
                      unfold B_X12_plainBinds_0 at mh132
                      obtain ⟨mv133, mv134, mh135, mh132⟩ := zk_o2 mh132
                      unfold f_X12_ran at mh135
                      unfold B_X12_ran_0 at mh135
                      have mh135 := zk_f (by decide) mh135
                      obtain ⟨_, mh135⟩ := zk_gd mh135
                      obtain ⟨mv136, me137, mh135⟩ := zk_lt mh135
                      subst me137
                      unfold B_X12_ran_19 at mh135
                      obtain ⟨mv138, me139, mh135⟩ := zk_lt mh135
                      subst me139
                      simp only [Option.some.injEq, Prod.mk.injEq] at mh135
                      obtain ⟨rfl, rfl⟩ := mh135
                      simp only [Option.some.injEq, Prod.mk.injEq] at mh132
                      obtain ⟨rfl, rfl, rfl⟩ := mh132
                      simp only [Option.some.injEq, Prod.mk.injEq] at mh114
                      obtain ⟨rfl, rfl, rfl⟩ := mh114
                      replace h := Option.some.inj h
                      replace k := Option.some.inj k
                      subst h
                      subst k
                      try dsimp only
                      all_goals first
                      | (exfalso; omega)
                      | exact ⟨rfl, rfl, fun e => by first | exact e | rw [e]⟩
                      | exact ⟨rfl, rfl, fun e => by rw [e]; rfl⟩
                  · replace h := zk_f cc106 h
                    have cc106n := cc106
                    (try simp only [i32_lt, i32_le, i32_e, z32_0, z32_1, z32L_2] at cc106n)
                    first
                    | (exfalso; omega)
                    | by_cases cc139 : x2 = (3 : Int32)
                      · replace h := zk_t cc139 h
                        have cc139n := cc139
                        (try simp only [i32_lt, i32_le, i32_e, z32_0, z32_1, z32L_3] at cc139n)
                        first
                        | (exfalso; omega)
                        | obtain ⟨cv140, cv141, cv142, ch143, h⟩ := zk_o3 h
                          have ch143 : f_X0_tells (grp_grp141 6) (5 : Int32) x3 (0 : Int32) (5 : Int32) x1 (S_askedCount x1.toNatClampNeg) acts_bodies = some (cv140, cv141, cv142) := ch143
                          unfold f_X0_tells at ch143
                          unfold B_X0_tells_0 at ch143
                          have ch143 := zk_f (by decide) ch143
                          have ch143 := zk_f (by decide) ch143
                          obtain ⟨cv144, cv145, ch146, ch143⟩ := zk_o2 ch143
                          unfold f_X0_above at ch146
                          unfold B_X0_above_0 at ch146
                          have ch146 := zk_f (by decide) ch146
                          have ch146 := zk_t rfl ch146
                          simp only [Option.some.injEq, Prod.mk.injEq] at ch146
                          obtain ⟨rfl, _⟩ := ch146
                          obtain ⟨cv147, cv148, cv149, ch150, ch143⟩ := zk_o3 ch143
                          have ch150 : f_X0_tells (grp_grp141 5) (2 : Int32) x3 (0 : Int32) (5 : Int32) x1 (S_askedCount x1.toNatClampNeg) acts_bodies = some (cv147, cv148, cv149) := ch150
                          unfold f_X0_tells at ch150
                          unfold B_X0_tells_0 at ch150
                          have ch150 := zk_f (by decide) ch150
                          have ch150 := zk_f (by decide) ch150
                          obtain ⟨cv151, cv152, ch153, ch150⟩ := zk_o2 ch150
                          unfold f_X0_above at ch153
                          unfold B_X0_above_0 at ch153
                          have ch153 := zk_f (by decide) ch153
                          have ch153 := zk_f (by decide) ch153
                          have ch153 := zk_f (by decide) ch153
                          simp only [Option.some.injEq, Prod.mk.injEq] at ch153
                          obtain ⟨rfl, _⟩ := ch153
                          obtain ⟨cv154, cv155, cv156, ch157, ch150⟩ := zk_o3 ch150
                          have ch157 : f_X0_tells (grp_grp141 4) (0 : Int32) x3 (0 : Int32) (5 : Int32) x1 (S_askedCount x1.toNatClampNeg) acts_bodies = some (cv154, cv155, cv156) := ch157
                          unfold f_X0_tells at ch157
                          unfold B_X0_tells_0 at ch157
                          have ch157 := zk_f (by decide) ch157
                          have ch157 := zk_t (Int32.le_refl _) ch157
                          obtain ⟨cv158, cv159, ch160, ch157⟩ := zk_o2 ch157
                          unfold f_X0_note at ch160
                          unfold B_X0_note_0 at ch160
                          have ch160 := zk_f (by decide) ch160
                          obtain ⟨_, ch160⟩ := zk_gd ch160
                          obtain ⟨cv161, ce162, ch160⟩ := zk_lt ch160
                          subst ce162
                          unfold B_X0_note_19 at ch160
                          obtain ⟨cv163, ce164, ch160⟩ := zk_lt ch160
                          subst ce164
                          simp only [Option.some.injEq, Prod.mk.injEq] at ch160
                          obtain ⟨rfl, rfl⟩ := ch160
                          obtain ⟨cv165, cv166, cv167, ch168, ch157⟩ := zk_o3 ch157
                          have ch168 : f_X0_settles (grp_grp140 6) (5 : Int32) x3 ((0 : Int32) + (1 : Int32)) (5 : Int32) x1 (S_askedCount x1.toNatClampNeg) (upd acts_bodies (0 : Int32).toNatClampNeg (2 : Int32)) = some (cv165, cv166, cv167) := ch168
                          unfold f_X0_settles at ch168
                          unfold B_X0_settles_0 at ch168
                          have ch168 := zk_f (by decide) ch168
                          have ch168 := zk_f (by decide) ch168
                          have ch168 := zk_f (by decide) ch168
                          have ch168 := zk_f (by decide) ch168
                          have ch168 := zk_t rfl ch168
                          obtain ⟨cv169, cv170, ch171, ch168⟩ := zk_o2 ch168
                          unfold f_X0_above at ch171
                          unfold B_X0_above_0 at ch171
                          have ch171 := zk_f (by decide) ch171
                          have ch171 := zk_t rfl ch171
                          simp only [Option.some.injEq, Prod.mk.injEq] at ch171
                          obtain ⟨rfl, _⟩ := ch171
                          obtain ⟨cv172, cv173, cv174, ch175, ch168⟩ := zk_o3 ch168
                          have ch175 : f_X0_settles (grp_grp140 5) (2 : Int32) x3 ((0 : Int32) + (1 : Int32)) (5 : Int32) x1 (S_askedCount x1.toNatClampNeg) (upd acts_bodies (0 : Int32).toNatClampNeg (2 : Int32)) = some (cv172, cv173, cv174) := ch175
                          unfold f_X0_settles at ch175
                          unfold B_X0_settles_0 at ch175
                          have ch175 := zk_f (by decide) ch175
                          have ch175 := zk_t rfl ch175
                          obtain ⟨cv176, cv177, ch178, ch175⟩ := zk_o2 ch175
                          unfold f_X0_above at ch178
                          unfold B_X0_above_0 at ch178
                          have ch178 := zk_f (by decide) ch178
                          have ch178 := zk_f (by decide) ch178
                          have ch178 := zk_f (by decide) ch178
                          simp only [Option.some.injEq, Prod.mk.injEq] at ch178
                          obtain ⟨rfl, _⟩ := ch178
                          obtain ⟨cv179, cv180, cv181, ch182, ch175⟩ := zk_o3 ch175
                          have ch182 : f_X0_settles (grp_grp140 4) (0 : Int32) x3 ((0 : Int32) + (1 : Int32)) (5 : Int32) x1 (S_askedCount x1.toNatClampNeg) (upd acts_bodies (0 : Int32).toNatClampNeg (2 : Int32)) = some (cv179, cv180, cv181) := ch182
                          unfold f_X0_settles at ch182
                          unfold B_X0_settles_0 at ch182
                          have ch182 := zk_f (by decide) ch182
                          have ch182 := zk_f (by decide) ch182
                          have ch182 := zk_f (by decide) ch182
                          have ch182 := zk_f (by decide) ch182
                          have ch182 := zk_f (by decide) ch182
                          have ch182 := zk_f (by decide) ch182
                          obtain ⟨cv183, cv184, ch185, ch182⟩ := zk_o2 ch182
                          unfold f_X0_note at ch185
                          unfold B_X0_note_0 at ch185
                          have ch185 := zk_f (by decide) ch185
                          obtain ⟨_, ch185⟩ := zk_gd ch185
                          obtain ⟨cv186, ce187, ch185⟩ := zk_lt ch185
                          subst ce187
                          unfold B_X0_note_19 at ch185
                          obtain ⟨cv188, ce189, ch185⟩ := zk_lt ch185
                          subst ce189
                          simp only [Option.some.injEq, Prod.mk.injEq] at ch185
                          obtain ⟨rfl, rfl⟩ := ch185
                          obtain ⟨cv190, cv191, cv192, ch193, ch182⟩ := zk_o3 ch182
                          have ch193 : f_X0_closes (grp_grp138 6) (5 : Int32) x3 (((0 : Int32) + (1 : Int32)) + (1 : Int32)) (5 : Int32) x1 (S_askedCount x1.toNatClampNeg) (upd (upd acts_bodies (0 : Int32).toNatClampNeg (2 : Int32)) ((0 : Int32) + (1 : Int32)).toNatClampNeg (10 : Int32)) = some (cv190, cv191, cv192) := ch193
                          unfold f_X0_closes at ch193
                          unfold B_X0_closes_0 at ch193
                          have ch193 := zk_f (by decide) ch193
                          have ch193 := zk_f (by decide) ch193
                          have ch193 := zk_f (by decide) ch193
                          have ch193 := zk_f (by decide) ch193
                          have ch193 := zk_t rfl ch193
                          obtain ⟨cv194, cv195, ch196, ch193⟩ := zk_o2 ch193
                          unfold f_X0_note at ch196
                          unfold B_X0_note_0 at ch196
                          have ch196 := zk_f (by decide) ch196
                          obtain ⟨_, ch196⟩ := zk_gd ch196
                          obtain ⟨cv197, ce198, ch196⟩ := zk_lt ch196
                          subst ce198
                          unfold B_X0_note_19 at ch196
                          obtain ⟨cv199, ce200, ch196⟩ := zk_lt ch196
                          subst ce200
                          simp only [Option.some.injEq, Prod.mk.injEq] at ch196
                          obtain ⟨rfl, rfl⟩ := ch196
                          obtain ⟨cv201, cv202, ch203, ch193⟩ := zk_o2 ch193
                          unfold f_X0_above at ch203
                          unfold B_X0_above_0 at ch203
                          have ch203 := zk_f (by decide) ch203
                          have ch203 := zk_t rfl ch203
                          simp only [Option.some.injEq, Prod.mk.injEq] at ch203
                          obtain ⟨rfl, _⟩ := ch203
                          obtain ⟨cv204, cv205, cv206, ch207, ch193⟩ := zk_o3 ch193
                          have ch207 : f_X0_closes (grp_grp138 5) (2 : Int32) (x3 + (1 : Int32)) ((((0 : Int32) + (1 : Int32)) + (1 : Int32)) + (1 : Int32)) (5 : Int32) x1 (S_askedCount x1.toNatClampNeg) (upd (upd (upd acts_bodies (0 : Int32).toNatClampNeg (2 : Int32)) ((0 : Int32) + (1 : Int32)).toNatClampNeg (10 : Int32)) (((0 : Int32) + (1 : Int32)) + (1 : Int32)).toNatClampNeg (60 : Int32)) = some (cv204, cv205, cv206) := ch207
                          unfold f_X0_closes at ch207
                          unfold B_X0_closes_0 at ch207
                          have ch207 := zk_f (by decide) ch207
                          have ch207 := zk_t rfl ch207
                          obtain ⟨cv208, cv209, ch210, ch207⟩ := zk_o2 ch207
                          unfold f_X0_above at ch210
                          unfold B_X0_above_0 at ch210
                          have ch210 := zk_f (by decide) ch210
                          have ch210 := zk_f (by decide) ch210
                          have ch210 := zk_f (by decide) ch210
                          simp only [Option.some.injEq, Prod.mk.injEq] at ch210
                          obtain ⟨rfl, _⟩ := ch210
                          obtain ⟨cv211, cv212, cv213, ch214, ch207⟩ := zk_o3 ch207
                          have ch214 : f_X0_closes (grp_grp138 4) (0 : Int32) (x3 + (1 : Int32)) ((((0 : Int32) + (1 : Int32)) + (1 : Int32)) + (1 : Int32)) (5 : Int32) x1 (S_askedCount x1.toNatClampNeg) (upd (upd (upd acts_bodies (0 : Int32).toNatClampNeg (2 : Int32)) ((0 : Int32) + (1 : Int32)).toNatClampNeg (10 : Int32)) (((0 : Int32) + (1 : Int32)) + (1 : Int32)).toNatClampNeg (60 : Int32)) = some (cv211, cv212, cv213) := ch214
                          unfold f_X0_closes at ch214
                          unfold B_X0_closes_0 at ch214
                          have ch214 := zk_f (by decide) ch214
                          have ch214 := zk_f (by decide) ch214
                          have ch214 := zk_f (by decide) ch214
                          have ch214 := zk_f (by decide) ch214
                          have ch214 := zk_f (by decide) ch214
                          have ch214 := zk_f (by decide) ch214
                          obtain ⟨cv215, cv216, ch217, ch214⟩ := zk_o2 ch214
                          unfold f_X0_note at ch217
                          unfold B_X0_note_0 at ch217
                          have ch217 := zk_f (by decide) ch217
                          obtain ⟨_, ch217⟩ := zk_gd ch217
                          obtain ⟨cv218, ce219, ch217⟩ := zk_lt ch217
                          subst ce219
                          unfold B_X0_note_19 at ch217
                          obtain ⟨cv220, ce221, ch217⟩ := zk_lt ch217
                          subst ce221
                          simp only [Option.some.injEq, Prod.mk.injEq] at ch217
                          obtain ⟨rfl, rfl⟩ := ch217
                          simp only [Option.some.injEq, Prod.mk.injEq] at ch214
                          obtain ⟨rfl, rfl, rfl⟩ := ch214
                          simp only [Option.some.injEq, Prod.mk.injEq] at ch207
                          obtain ⟨rfl, rfl, rfl⟩ := ch207
                          simp only [Option.some.injEq, Prod.mk.injEq] at ch193
                          obtain ⟨rfl, rfl, rfl⟩ := ch193
                          simp only [Option.some.injEq, Prod.mk.injEq] at ch182
                          obtain ⟨rfl, rfl, rfl⟩ := ch182
                          simp only [Option.some.injEq, Prod.mk.injEq] at ch175
                          obtain ⟨rfl, rfl, rfl⟩ := ch175
                          simp only [Option.some.injEq, Prod.mk.injEq] at ch168
                          obtain ⟨rfl, rfl, rfl⟩ := ch168
                          obtain ⟨cv222, cv223, cv224, ch225, ch157⟩ := zk_o3 ch157
                          have ch225 : f_X0_binds (grp_grp139 6) (5 : Int32) (1 : Int32) (((((0 : Int32) + (1 : Int32)) + (1 : Int32)) + (1 : Int32)) + (1 : Int32)) (5 : Int32) x1 (S_askedCount x1.toNatClampNeg) (upd (upd (upd (upd acts_bodies (0 : Int32).toNatClampNeg (2 : Int32)) ((0 : Int32) + (1 : Int32)).toNatClampNeg (10 : Int32)) (((0 : Int32) + (1 : Int32)) + (1 : Int32)).toNatClampNeg (60 : Int32)) ((((0 : Int32) + (1 : Int32)) + (1 : Int32)) + (1 : Int32)).toNatClampNeg (1 : Int32)) = some (cv222, cv223, cv224) := ch225
                          unfold f_X0_binds at ch225
                          unfold B_X0_binds_0 at ch225
                          have ch225 := zk_f (by decide) ch225
                          have ch225 := zk_f (by decide) ch225
                          obtain ⟨cv226, cv227, ch228, ch225⟩ := zk_o2 ch225
                          unfold f_X0_above at ch228
                          unfold B_X0_above_0 at ch228
                          have ch228 := zk_f (by decide) ch228
                          have ch228 := zk_t rfl ch228
                          simp only [Option.some.injEq, Prod.mk.injEq] at ch228
                          obtain ⟨rfl, _⟩ := ch228
                          obtain ⟨cv229, cv230, cv231, ch232, ch225⟩ := zk_o3 ch225
                          have ch232 : f_X0_binds (grp_grp139 5) (2 : Int32) (1 : Int32) (((((0 : Int32) + (1 : Int32)) + (1 : Int32)) + (1 : Int32)) + (1 : Int32)) (5 : Int32) x1 (S_askedCount x1.toNatClampNeg) (upd (upd (upd (upd acts_bodies (0 : Int32).toNatClampNeg (2 : Int32)) ((0 : Int32) + (1 : Int32)).toNatClampNeg (10 : Int32)) (((0 : Int32) + (1 : Int32)) + (1 : Int32)).toNatClampNeg (60 : Int32)) ((((0 : Int32) + (1 : Int32)) + (1 : Int32)) + (1 : Int32)).toNatClampNeg (1 : Int32)) = some (cv229, cv230, cv231) := ch232
                          unfold f_X0_binds at ch232
                          unfold B_X0_binds_0 at ch232
                          have ch232 := zk_t rfl ch232
                          obtain ⟨cv233, cv234, ch235, ch232⟩ := zk_o2 ch232
                          unfold f_X0_note at ch235
                          unfold B_X0_note_0 at ch235
                          have ch235 := zk_f (by decide) ch235
                          obtain ⟨_, ch235⟩ := zk_gd ch235
                          obtain ⟨cv236, ce237, ch235⟩ := zk_lt ch235
                          subst ce237
                          unfold B_X0_note_19 at ch235
                          obtain ⟨cv238, ce239, ch235⟩ := zk_lt ch235
                          subst ce239
                          simp only [Option.some.injEq, Prod.mk.injEq] at ch235
                          obtain ⟨rfl, rfl⟩ := ch235
                          obtain ⟨cv240, cv241, ch242, ch232⟩ := zk_o2 ch232
                          unfold f_X0_above at ch242
                          unfold B_X0_above_0 at ch242
                          have ch242 := zk_f (by decide) ch242
                          have ch242 := zk_f (by decide) ch242
                          have ch242 := zk_f (by decide) ch242
                          simp only [Option.some.injEq, Prod.mk.injEq] at ch242
                          obtain ⟨rfl, _⟩ := ch242
                          obtain ⟨cv243, cv244, cv245, ch246, ch232⟩ := zk_o3 ch232
                          have ch246 : f_X0_binds (grp_grp139 4) (0 : Int32) (1 : Int32) ((((((0 : Int32) + (1 : Int32)) + (1 : Int32)) + (1 : Int32)) + (1 : Int32)) + (1 : Int32)) (5 : Int32) x1 (S_askedCount x1.toNatClampNeg) (upd (upd (upd (upd (upd acts_bodies (0 : Int32).toNatClampNeg (2 : Int32)) ((0 : Int32) + (1 : Int32)).toNatClampNeg (10 : Int32)) (((0 : Int32) + (1 : Int32)) + (1 : Int32)).toNatClampNeg (60 : Int32)) ((((0 : Int32) + (1 : Int32)) + (1 : Int32)) + (1 : Int32)).toNatClampNeg (1 : Int32)) (((((0 : Int32) + (1 : Int32)) + (1 : Int32)) + (1 : Int32)) + (1 : Int32)).toNatClampNeg (30 : Int32)) = some (cv243, cv244, cv245) := ch246
                          unfold f_X0_binds at ch246
                          unfold B_X0_binds_0 at ch246
                          have ch246 := zk_f (by decide) ch246
                          have ch246 := zk_t (Int32.le_refl _) ch246
                          obtain ⟨cv247, cv248, ch249, ch246⟩ := zk_o2 ch246
                          unfold f_X0_note at ch249
                          unfold B_X0_note_0 at ch249
                          have ch249 := zk_f (by decide) ch249
                          obtain ⟨_, ch249⟩ := zk_gd ch249
                          obtain ⟨cv250, ce251, ch249⟩ := zk_lt ch249
                          subst ce251
                          unfold B_X0_note_19 at ch249
                          obtain ⟨cv252, ce253, ch249⟩ := zk_lt ch249
                          subst ce253
                          simp only [Option.some.injEq, Prod.mk.injEq] at ch249
                          obtain ⟨rfl, rfl⟩ := ch249
                          simp only [Option.some.injEq, Prod.mk.injEq] at ch246
                          obtain ⟨rfl, rfl, rfl⟩ := ch246
                          simp only [Option.some.injEq, Prod.mk.injEq] at ch232
                          obtain ⟨rfl, rfl, rfl⟩ := ch232
                          simp only [Option.some.injEq, Prod.mk.injEq] at ch225
                          obtain ⟨rfl, rfl, rfl⟩ := ch225
                          simp only [Option.some.injEq, Prod.mk.injEq] at ch157
                          obtain ⟨rfl, rfl, rfl⟩ := ch157
                          simp only [Option.some.injEq, Prod.mk.injEq] at ch150
                          obtain ⟨rfl, rfl, rfl⟩ := ch150
                          simp only [Option.some.injEq, Prod.mk.injEq] at ch143
                          obtain ⟨rfl, rfl, rfl⟩ := ch143
                          have hi : x1.toNatClampNeg < court_suitCount.toInt.toNat := by rw [tcn]; omega
                          have ea : mod_askedMany x1.toNatClampNeg = S_askedCount x1.toNatClampNeg := (hA _ hi).symm
                          unfold B_X12_act_0 at k
                          replace k := zk_o2 k
                          obtain ⟨mv140, mv141, mh142, k⟩ := k
                          unfold f_X12_isSuit at mh142
                          unfold B_X12_isSuit_0 at mh142
                          obtain ⟨mv143, mv144, mh145, mh142⟩ := zk_o2 mh142
                          unfold f_X12_in at mh145
                          unfold B_X12_in_0 at mh145
                          have mh145 := zk_f cc4 mh145
                          have mh145 := zk_f (by (try simp only [i32_lt, i32_le, i32_e, z32_0, z32_1]); omega) mh145
                          simp only [Option.some.injEq, Prod.mk.injEq] at mh145
                          obtain ⟨rfl, _⟩ := mh145
                          obtain ⟨_, mh142⟩ := zk_gd mh142
                          simp only [Option.some.injEq, Prod.mk.injEq] at mh142
                          obtain ⟨rfl, _⟩ := mh142
                          replace k := zk_f (by decide) k
                          replace k := zk_o2 k
                          obtain ⟨mv146, mv147, mh148, k⟩ := k
                          unfold f_X12_in at mh148
                          unfold B_X12_in_0 at mh148
                          have mh148 := zk_f (by (try simp only [i32_lt, i32_le, i32_e, z32_0, z32_1]); omega) mh148
                          have mh148 := zk_f (by (try simp only [i32_lt, i32_le, i32_e, z32_0, z32_1, z32L_3]); omega) mh148
                          simp only [Option.some.injEq, Prod.mk.injEq] at mh148
                          obtain ⟨rfl, _⟩ := mh148
                          replace k := zk_f (by decide) k
                          replace k := zk_f cc15 k
                          replace k := zk_f cc48 k
                          replace k := zk_f cc106 k
                          replace k := zk_o3 k
                          obtain ⟨mv149, mv150, mv151, mh152, k⟩ := k
                          unfold f_X12_tells at mh152
                          unfold B_X12_tells_0 at mh152
                          obtain ⟨mv153, mv154, mh155, mh152⟩ := zk_o2 mh152
                          obtain mq156 := bk12_e (hB12 hi) mh155
                          replace mq156 := mq156.symm
                          subst mq156
                          have mh152 := zk_f (by decide) mh152
                          obtain ⟨mv157, mv158, mv159, mh160, mh152⟩ := zk_o3 mh152
                          unfold f_X12_plainTells at mh160
                          unfold B_X12_plainTells_0 at mh160
                          obtain ⟨mv161, mv162, mh163, mh160⟩ := zk_o2 mh160
                          unfold f_X12_ran at mh163
                          unfold B_X12_ran_0 at mh163
                          have mh163 := zk_f (by decide) mh163
                          obtain ⟨_, mh163⟩ := zk_gd mh163
                          obtain ⟨mv164, me165, mh163⟩ := zk_lt mh163
                          subst me165
                          unfold B_X12_ran_19 at mh163
                          obtain ⟨mv166, me167, mh163⟩ := zk_lt mh163
                          subst me167
                          simp only [Option.some.injEq, Prod.mk.injEq] at mh163
                          obtain ⟨rfl, rfl⟩ := mh163
                          obtain ⟨mv168, mv169, mv170, mh171, mh160⟩ := zk_o3 mh160
                          unfold f_X12_settles at mh171
                          unfold B_X12_settles_0 at mh171
                          obtain ⟨mv172, mv173, mh174, mh171⟩ := zk_o2 mh171
                          obtain mq175 := bk12_e (hB12 hi) mh174
                          replace mq175 := mq175.symm
                          subst mq175
                          have mh171 := zk_f (by decide) mh171
                          have mh171 := zk_f (by decide) mh171
                          have mh171 := zk_f (by decide) mh171
                          obtain ⟨mv176, mv177, mv178, mh179, mh171⟩ := zk_o3 mh171
                          unfold f_X12_plainSettles at mh179
                          unfold B_X12_plainSettles_0 at mh179
                          obtain ⟨mv180, mv181, mh182, mh179⟩ := zk_o2 mh179
                          unfold f_X12_ran at mh182
                          unfold B_X12_ran_0 at mh182
                          have mh182 := zk_f (by decide) mh182
                          obtain ⟨_, mh182⟩ := zk_gd mh182
                          obtain ⟨mv183, me184, mh182⟩ := zk_lt mh182
                          subst me184
                          unfold B_X12_ran_19 at mh182
                          obtain ⟨mv185, me186, mh182⟩ := zk_lt mh182
                          subst me186
                          simp only [Option.some.injEq, Prod.mk.injEq] at mh182
                          obtain ⟨rfl, rfl⟩ := mh182
                          obtain ⟨mv187, mv188, mv189, mh190, mh179⟩ := zk_o3 mh179
                          unfold f_X12_closes at mh190
                          unfold B_X12_closes_0 at mh190
                          rw [ea] at mh190
                          obtain ⟨mv191, mv192, mh193, mh190⟩ := zk_o2 mh190
                          obtain mq194 := bk12_e (hB12 hi) mh193
                          replace mq194 := mq194.symm
                          subst mq194
                          have mh190 := zk_f (by decide) mh190
                          have mh190 := zk_f (by decide) mh190
                          have mh190 := zk_t rfl mh190
                          obtain ⟨mv195, mv196, mh197, mh190⟩ := zk_o2 mh190
                          unfold f_X12_ran at mh197
                          unfold B_X12_ran_0 at mh197
                          have mh197 := zk_f (by decide) mh197
                          obtain ⟨_, mh197⟩ := zk_gd mh197
                          obtain ⟨mv198, me199, mh197⟩ := zk_lt mh197
                          subst me199
                          unfold B_X12_ran_19 at mh197
                          obtain ⟨mv200, me201, mh197⟩ := zk_lt mh197
                          subst me201
                          simp only [Option.some.injEq, Prod.mk.injEq] at mh197
                          obtain ⟨rfl, rfl⟩ := mh197
                          obtain ⟨mv202, mv203, mv204, mh205, mh190⟩ := zk_o3 mh190
                          unfold f_X12_plainCloses at mh205
                          unfold B_X12_plainCloses_0 at mh205
                          obtain ⟨mv206, mv207, mh208, mh205⟩ := zk_o2 mh205
                          unfold f_X12_ran at mh208
                          unfold B_X12_ran_0 at mh208
                          have mh208 := zk_f (by decide) mh208
                          obtain ⟨_, mh208⟩ := zk_gd mh208
                          obtain ⟨mv209, me210, mh208⟩ := zk_lt mh208
                          subst me210
                          unfold B_X12_ran_19 at mh208
                          obtain ⟨mv211, me212, mh208⟩ := zk_lt mh208
                          subst me212
                          simp only [Option.some.injEq, Prod.mk.injEq] at mh208
                          obtain ⟨rfl, rfl⟩ := mh208
                          simp only [Option.some.injEq, Prod.mk.injEq] at mh205
                          obtain ⟨rfl, rfl, rfl⟩ := mh205
                          simp only [Option.some.injEq, Prod.mk.injEq] at mh190
                          obtain ⟨rfl, rfl, rfl⟩ := mh190
                          simp only [Option.some.injEq, Prod.mk.injEq] at mh179
                          obtain ⟨rfl, rfl, rfl⟩ := mh179
                          simp only [Option.some.injEq, Prod.mk.injEq] at mh171
                          obtain ⟨rfl, rfl, rfl⟩ := mh171
                          obtain ⟨mv213, mv214, mv215, mh216, mh160⟩ := zk_o3 mh160
                          unfold f_X12_binds at mh216
                          unfold B_X12_binds_0 at mh216
                          obtain ⟨mv217, mv218, mh219, mh216⟩ := zk_o2 mh216
                          obtain mq220 := bk12_e (hB12 hi) mh219
                          replace mq220 := mq220.symm
                          subst mq220
                          obtain ⟨mv221, mv222, mh223, mh216⟩ := zk_o2 mh216
                          unfold f_X12_isUnder at mh223
                          unfold B_X12_isUnder_0 at mh223
                          have mh223 := zk_f (by decide) mh223
                          have mh223 := zk_f (by decide) mh223
                          have mh223 := zk_f (by decide) mh223
                          unfold B_X12_isUnder_19 at mh223
                          have mh223 := zk_t rfl mh223
                          have mh223 := zk_t rfl mh223
                          unfold B_X12_isUnder_40 at mh223
                          simp only [Option.some.injEq, Prod.mk.injEq] at mh223
                          obtain ⟨rfl, _⟩ := mh223
                          have mh216 := zk_f (by decide) mh216
                          obtain ⟨mv224, mv225, mh226, mh216⟩ := zk_o2 mh216
                          unfold f_X12_ran at mh226
                          unfold B_X12_ran_0 at mh226
                          have mh226 := zk_f (by decide) mh226
                          obtain ⟨_, mh226⟩ := zk_gd mh226
                          obtain ⟨mv227, me228, mh226⟩ := zk_lt mh226
                          subst me228
                          unfold B_X12_ran_19 at mh226
                          obtain ⟨mv229, me230, mh226⟩ := zk_lt mh226
                          subst me230
                          simp only [Option.some.injEq, Prod.mk.injEq] at mh226
                          obtain ⟨rfl, rfl⟩ := mh226
                          obtain ⟨mv231, mv232, mv233, mh234, mh216⟩ := zk_o3 mh216
                          unfold f_X12_plainBinds at mh234
                          unfold B_X12_plainBinds_0 at mh234
                          obtain ⟨mv235, mv236, mh237, mh234⟩ := zk_o2 mh234
                          unfold f_X12_ran at mh237
                          unfold B_X12_ran_0 at mh237
                          have mh237 := zk_f (by decide) mh237
                          obtain ⟨_, mh237⟩ := zk_gd mh237
                          obtain ⟨mv238, me239, mh237⟩ := zk_lt mh237
                          subst me239
                          unfold B_X12_ran_19 at mh237
                          obtain ⟨mv240, me241, mh237⟩ := zk_lt mh237
                          subst me241
                          simp only [Option.some.injEq, Prod.mk.injEq] at mh237
                          obtain ⟨rfl, rfl⟩ := mh237
                          simp only [Option.some.injEq, Prod.mk.injEq] at mh234
                          obtain ⟨rfl, rfl, rfl⟩ := mh234
                          simp only [Option.some.injEq, Prod.mk.injEq] at mh216
                          obtain ⟨rfl, rfl, rfl⟩ := mh216
                          simp only [Option.some.injEq, Prod.mk.injEq] at mh160
                          obtain ⟨rfl, rfl, rfl⟩ := mh160
                          simp only [Option.some.injEq, Prod.mk.injEq] at mh152
                          obtain ⟨rfl, rfl, rfl⟩ := mh152
                          replace h := Option.some.inj h
                          replace k := Option.some.inj k
                          subst h
                          subst k
                          try dsimp only
                          all_goals first
                          | (exfalso; omega)
                          | exact ⟨rfl, rfl, fun e => by first | exact e | rw [e]⟩
                          | exact ⟨rfl, rfl, fun e => by rw [e]; rfl⟩
                      · replace h := zk_f cc139 h
                        have cc139n := cc139
                        (try simp only [i32_lt, i32_le, i32_e, z32_0, z32_1, z32L_3] at cc139n)
                        first
                        | (exfalso; omega)
                        | have hi : x1.toNatClampNeg < court_suitCount.toInt.toNat := by rw [tcn]; omega
                          have ea : mod_askedMany x1.toNatClampNeg = S_askedCount x1.toNatClampNeg := (hA _ hi).symm
                          unfold B_X12_act_0 at k
                          replace k := zk_o2 k
                          obtain ⟨mv242, mv243, mh244, k⟩ := k
                          unfold f_X12_isSuit at mh244
                          unfold B_X12_isSuit_0 at mh244
                          obtain ⟨mv245, mv246, mh247, mh244⟩ := zk_o2 mh244
                          unfold f_X12_in at mh247
                          unfold B_X12_in_0 at mh247
                          have mh247 := zk_f cc4 mh247
                          have mh247 := zk_f (by (try simp only [i32_lt, i32_le, i32_e, z32_0, z32_1]); omega) mh247
                          simp only [Option.some.injEq, Prod.mk.injEq] at mh247
                          obtain ⟨rfl, _⟩ := mh247
                          obtain ⟨_, mh244⟩ := zk_gd mh244
                          simp only [Option.some.injEq, Prod.mk.injEq] at mh244
                          obtain ⟨rfl, _⟩ := mh244
                          replace k := zk_f (by decide) k
                          replace k := zk_o2 k
                          obtain ⟨mv248, mv249, mh250, k⟩ := k
                          unfold f_X12_in at mh250
                          unfold B_X12_in_0 at mh250
                          by_cases mc251 : x2 < (0 : Int32)
                          · have mh250 := zk_t mc251 mh250
                            have mc251n := mc251
                            (try simp only [i32_lt, i32_le, i32_e, z32_0, z32_1] at mc251n)
                            first
                            | (exfalso; omega)
                            | simp only [Option.some.injEq, Prod.mk.injEq] at mh250
                              obtain ⟨rfl, _⟩ := mh250
                              replace k := zk_t rfl k
                              replace h := Option.some.inj h
                              replace k := Option.some.inj k
                              subst h
                              subst k
                              try dsimp only
                              all_goals first
                              | (exfalso; omega)
                              | exact ⟨rfl, rfl, fun e => by first | exact e | rw [e]⟩
                              | exact ⟨rfl, rfl, fun e => by rw [e]; rfl⟩
                          · have mh250 := zk_f mc251 mh250
                            have mc251n := mc251
                            (try simp only [i32_lt, i32_le, i32_e, z32_0, z32_1] at mc251n)
                            first
                            | (exfalso; omega)
                            | by_cases mc252 : (3 : Int32) < x2
                              · have mh250 := zk_t mc252 mh250
                                have mc252n := mc252
                                (try simp only [i32_lt, i32_le, i32_e, z32_0, z32_1, z32L_3] at mc252n)
                                first
                                | (exfalso; omega)
                                | simp only [Option.some.injEq, Prod.mk.injEq] at mh250
                                  obtain ⟨rfl, _⟩ := mh250
                                  replace k := zk_t rfl k
                                  replace h := Option.some.inj h
                                  replace k := Option.some.inj k
                                  subst h
                                  subst k
                                  try dsimp only
                                  all_goals first
                                  | (exfalso; omega)
                                  | exact ⟨rfl, rfl, fun e => by first | exact e | rw [e]⟩
                                  | exact ⟨rfl, rfl, fun e => by rw [e]; rfl⟩
                              · have mh250 := zk_f mc252 mh250
                                have mc252n := mc252
                                (try simp only [i32_lt, i32_le, i32_e, z32_0, z32_1, z32L_3] at mc252n)
                                first
                                | (exfalso; omega)
                                | simp only [Option.some.injEq, Prod.mk.injEq] at mh250
                                  obtain ⟨rfl, _⟩ := mh250
                                  replace k := zk_f (by decide) k
                                  replace k := zk_f cc15 k
                                  replace k := zk_f cc48 k
                                  replace k := zk_f cc106 k
                                  replace k := zk_o3 k
                                  obtain ⟨mv253, mv254, mv255, mh256, k⟩ := k
                                  unfold f_X12_tells at mh256
                                  unfold B_X12_tells_0 at mh256
                                  obtain ⟨mv257, mv258, mh259, mh256⟩ := zk_o2 mh256
                                  obtain mq260 := bk12_e (hB12 hi) mh259
                                  replace mq260 := mq260.symm
                                  subst mq260
                                  have mh256 := zk_f (by decide) mh256
                                  obtain ⟨mv261, mv262, mv263, mh264, mh256⟩ := zk_o3 mh256
                                  unfold f_X12_plainTells at mh264
                                  unfold B_X12_plainTells_0 at mh264
                                  obtain ⟨mv265, mv266, mh267, mh264⟩ := zk_o2 mh264
                                  unfold f_X12_ran at mh267
                                  unfold B_X12_ran_0 at mh267
                                  have mh267 := zk_f (by decide) mh267
                                  obtain ⟨_, mh267⟩ := zk_gd mh267
                                  obtain ⟨mv268, me269, mh267⟩ := zk_lt mh267
                                  subst me269
                                  unfold B_X12_ran_19 at mh267
                                  obtain ⟨mv270, me271, mh267⟩ := zk_lt mh267
                                  subst me271
                                  simp only [Option.some.injEq, Prod.mk.injEq] at mh267
                                  obtain ⟨rfl, rfl⟩ := mh267
                                  obtain ⟨mv272, mv273, mv274, mh275, mh264⟩ := zk_o3 mh264
                                  unfold f_X12_settles at mh275
                                  unfold B_X12_settles_0 at mh275
                                  obtain ⟨mv276, mv277, mh278, mh275⟩ := zk_o2 mh275
                                  obtain mq279 := bk12_e (hB12 hi) mh278
                                  replace mq279 := mq279.symm
                                  subst mq279
                                  have mh275 := zk_f (by decide) mh275
                                  have mh275 := zk_f (by decide) mh275
                                  have mh275 := zk_f (by decide) mh275
                                  obtain ⟨mv280, mv281, mv282, mh283, mh275⟩ := zk_o3 mh275
                                  unfold f_X12_plainSettles at mh283
                                  unfold B_X12_plainSettles_0 at mh283
                                  obtain ⟨mv284, mv285, mh286, mh283⟩ := zk_o2 mh283
                                  unfold f_X12_ran at mh286
                                  unfold B_X12_ran_0 at mh286
                                  have mh286 := zk_f (by decide) mh286
                                  obtain ⟨_, mh286⟩ := zk_gd mh286
                                  obtain ⟨mv287, me288, mh286⟩ := zk_lt mh286
                                  subst me288
                                  unfold B_X12_ran_19 at mh286
                                  obtain ⟨mv289, me290, mh286⟩ := zk_lt mh286
                                  subst me290
                                  simp only [Option.some.injEq, Prod.mk.injEq] at mh286
                                  obtain ⟨rfl, rfl⟩ := mh286
                                  obtain ⟨mv291, mv292, mv293, mh294, mh283⟩ := zk_o3 mh283
                                  unfold f_X12_closes at mh294
                                  unfold B_X12_closes_0 at mh294
                                  rw [ea] at mh294
                                  obtain ⟨mv295, mv296, mh297, mh294⟩ := zk_o2 mh294
                                  obtain mq298 := bk12_e (hB12 hi) mh297
                                  replace mq298 := mq298.symm
                                  subst mq298
                                  have mh294 := zk_f (by decide) mh294
                                  have mh294 := zk_f (by decide) mh294
                                  have mh294 := zk_t rfl mh294
                                  obtain ⟨mv299, mv300, mh301, mh294⟩ := zk_o2 mh294
                                  unfold f_X12_ran at mh301
                                  unfold B_X12_ran_0 at mh301
                                  have mh301 := zk_f (by decide) mh301
                                  obtain ⟨_, mh301⟩ := zk_gd mh301
                                  obtain ⟨mv302, me303, mh301⟩ := zk_lt mh301
                                  subst me303
                                  unfold B_X12_ran_19 at mh301
                                  obtain ⟨mv304, me305, mh301⟩ := zk_lt mh301
                                  subst me305
                                  simp only [Option.some.injEq, Prod.mk.injEq] at mh301
                                  obtain ⟨rfl, rfl⟩ := mh301
                                  obtain ⟨mv306, mv307, mv308, mh309, mh294⟩ := zk_o3 mh294
                                  unfold f_X12_plainCloses at mh309
                                  unfold B_X12_plainCloses_0 at mh309
                                  obtain ⟨mv310, mv311, mh312, mh309⟩ := zk_o2 mh309
                                  unfold f_X12_ran at mh312
                                  unfold B_X12_ran_0 at mh312
                                  have mh312 := zk_f (by decide) mh312
                                  obtain ⟨_, mh312⟩ := zk_gd mh312
                                  obtain ⟨mv313, me314, mh312⟩ := zk_lt mh312
                                  subst me314
                                  unfold B_X12_ran_19 at mh312
                                  obtain ⟨mv315, me316, mh312⟩ := zk_lt mh312
                                  subst me316
                                  simp only [Option.some.injEq, Prod.mk.injEq] at mh312
                                  obtain ⟨rfl, rfl⟩ := mh312
                                  simp only [Option.some.injEq, Prod.mk.injEq] at mh309
                                  obtain ⟨rfl, rfl, rfl⟩ := mh309
                                  simp only [Option.some.injEq, Prod.mk.injEq] at mh294
                                  obtain ⟨rfl, rfl, rfl⟩ := mh294
                                  simp only [Option.some.injEq, Prod.mk.injEq] at mh283
                                  obtain ⟨rfl, rfl, rfl⟩ := mh283
                                  simp only [Option.some.injEq, Prod.mk.injEq] at mh275
                                  obtain ⟨rfl, rfl, rfl⟩ := mh275
                                  obtain ⟨mv317, mv318, mv319, mh320, mh264⟩ := zk_o3 mh264
                                  unfold f_X12_binds at mh320
                                  unfold B_X12_binds_0 at mh320
                                  obtain ⟨mv321, mv322, mh323, mh320⟩ := zk_o2 mh320
                                  obtain mq324 := bk12_e (hB12 hi) mh323
                                  replace mq324 := mq324.symm
                                  subst mq324
                                  obtain ⟨mv325, mv326, mh327, mh320⟩ := zk_o2 mh320
                                  unfold f_X12_isUnder at mh327
                                  unfold B_X12_isUnder_0 at mh327
                                  have mh327 := zk_f (by decide) mh327
                                  have mh327 := zk_f (by decide) mh327
                                  have mh327 := zk_f (by decide) mh327
                                  unfold B_X12_isUnder_19 at mh327
                                  have mh327 := zk_t rfl mh327
                                  have mh327 := zk_t rfl mh327
                                  unfold B_X12_isUnder_40 at mh327
                                  simp only [Option.some.injEq, Prod.mk.injEq] at mh327
                                  obtain ⟨rfl, _⟩ := mh327
                                  have mh320 := zk_f (by decide) mh320
                                  obtain ⟨mv328, mv329, mh330, mh320⟩ := zk_o2 mh320
                                  unfold f_X12_ran at mh330
                                  unfold B_X12_ran_0 at mh330
                                  have mh330 := zk_f (by decide) mh330
                                  obtain ⟨_, mh330⟩ := zk_gd mh330
                                  obtain ⟨mv331, me332, mh330⟩ := zk_lt mh330
                                  subst me332
                                  unfold B_X12_ran_19 at mh330
                                  obtain ⟨mv333, me334, mh330⟩ := zk_lt mh330
                                  subst me334
                                  simp only [Option.some.injEq, Prod.mk.injEq] at mh330
                                  obtain ⟨rfl, rfl⟩ := mh330
                                  obtain ⟨mv335, mv336, mv337, mh338, mh320⟩ := zk_o3 mh320
                                  unfold f_X12_plainBinds at mh338
                                  unfold B_X12_plainBinds_0 at mh338
                                  obtain ⟨mv339, mv340, mh341, mh338⟩ := zk_o2 mh338
                                  unfold f_X12_ran at mh341
                                  unfold B_X12_ran_0 at mh341
                                  have mh341 := zk_f (by decide) mh341
                                  obtain ⟨_, mh341⟩ := zk_gd mh341
                                  obtain ⟨mv342, me343, mh341⟩ := zk_lt mh341
                                  subst me343
                                  unfold B_X12_ran_19 at mh341
                                  obtain ⟨mv344, me345, mh341⟩ := zk_lt mh341
                                  subst me345
                                  simp only [Option.some.injEq, Prod.mk.injEq] at mh341
                                  obtain ⟨rfl, rfl⟩ := mh341
                                  simp only [Option.some.injEq, Prod.mk.injEq] at mh338
                                  obtain ⟨rfl, rfl, rfl⟩ := mh338
                                  simp only [Option.some.injEq, Prod.mk.injEq] at mh320
                                  obtain ⟨rfl, rfl, rfl⟩ := mh320
                                  simp only [Option.some.injEq, Prod.mk.injEq] at mh264
                                  obtain ⟨rfl, rfl, rfl⟩ := mh264
                                  simp only [Option.some.injEq, Prod.mk.injEq] at mh256
                                  obtain ⟨rfl, rfl, rfl⟩ := mh256
                                  replace h := Option.some.inj h
                                  replace k := Option.some.inj k
                                  subst h
                                  subst k
                                  try dsimp only
                                  all_goals first
                                  | (exfalso; omega)
                                  | exact ⟨rfl, rfl, fun e => by first | exact e | rw [e]⟩
                                  | exact ⟨rfl, rfl, fun e => by rw [e]; rfl⟩
