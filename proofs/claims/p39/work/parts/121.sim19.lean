
set_option maxHeartbeats 4000000 in
set_option maxRecDepth 20000 in
theorem pw_act2 {mod_code : Int32} {court_shoeCount : Int32} {mod_claims : Int32} {ts : Int32} {at_ : Int32} {f : Int32} {court_suitCount : Int32} {mod_doneMany : Int32} {mod_undoneMany : Int32} {mod_open : Int32} {mod_laid : Int32} {mod_isBoth : Int32} {mod_wished : Int32} {mod_bestMany : Int32} {mod_bestRow : Int32} {mod_ringDigits : Int32} {mod_traces : Int32} {mod_askedMany : Nat → Int32} {mod_endKind : Nat → Int32} {mod_undoneFrom : Nat → Int32} {mod_traced : Nat → Int32} {court_claimCount : Int32} {court_suits : Nat → Option Nat} {S_who : Nat → Int32} {S_against : Nat → Int32} {S_kind : Nat → Int32} {S_won : Nat → Int32} {S_day : Nat → Int32} {S_land : Nat → Int32} {S_undoneFrom : Nat → Int32} {S_asked : Nat → Nat → Int32} {S_askedCount : Nat → Int32} {S_askedBits : Nat → Int32} {S_first : Nat → Int32} {S_foundSo : Nat → Int32} {S_foundNot : Nat → Int32} {S_fought : Nat → Int32} {S_needed : Nat → Int32} {acts_ran : Int32} {acts_kind : Int32} {acts_number : Int32} {acts_claims : Int32} {acts_bodies : Nat → Int32} {x1 x2 x3 : Int32} {R : Int32 × Int32 × Int32 × Int32 × Int32 × (Nat → Int32)} {Q : Int32 × Int32 × (Nat → Int32)} (hn : 0 ≤ court_suitCount.toInt ∧ court_suitCount.toInt ≤ 40) (hA : WU court_suitCount S_askedCount mod_askedMany) (hB8 : ((S_undoneFrom x1.toNatClampNeg).toInt < 0 ∧ S_kind x1.toNatClampNeg = (2 : Int32)) ∨ (0 ≤ (S_undoneFrom x1.toNatClampNeg).toInt ∧ (2 : Int32) = 5)) (hB12 : x1.toNatClampNeg < court_suitCount.toInt.toNat → ((mod_undoneFrom x1.toNatClampNeg).toInt < 0 ∧ mod_endKind x1.toNatClampNeg = (2 : Int32)) ∨ (0 ≤ (mod_undoneFrom x1.toNatClampNeg).toInt ∧ (2 : Int32) = 5)) (h : f_X11_act x1 x2 x3 court_shoeCount court_claimCount court_suitCount court_suits acts_ran acts_kind acts_number acts_claims acts_bodies S_who S_against S_kind S_won S_day S_land S_undoneFrom S_asked S_askedCount S_askedBits S_first S_foundSo S_foundNot S_fought S_needed = some R) (k : f_X12_act x1 x2 x3 mod_code court_shoeCount mod_claims ts at_ f court_suitCount mod_doneMany mod_undoneMany mod_open mod_laid mod_isBoth mod_wished mod_bestMany mod_bestRow mod_ringDigits mod_traces mod_endKind mod_undoneFrom mod_askedMany mod_traced = some Q) : R.1 = Q.1 ∧ R.2.1 = Q.2.1 ∧ (acts_bodies = mod_traced → R.2.2.2.2.2 = Q.2.2) := by
  have hn1 := i32_m1 (a := court_suitCount) (by omega)
  unfold f_X11_act at h
  unfold f_X12_act at k
  unfold B_X11_act_0 at h
  replace h := zk_o2 h
  obtain ⟨cv1, cv2, ch3, h⟩ := h
  unfold f_X2_suitAt at ch3
  unfold B_X2_suitAt_0 at ch3
  by_cases cc4 : x1 < 0
  · have ch3 := zk_t cc4 ch3
    have cc4n := cc4
    (try simp only [i32_lt, i32_le, i32_e, z32_0, z32_1] at cc4n)
    first
    | (exfalso; omega)
    | simp only [Option.some.injEq, Prod.mk.injEq] at ch3
      obtain ⟨rfl, _⟩ := ch3
      replace h := zk_t (by decide) h
      unfold B_X12_act_0 at k
      replace k := zk_o2 k
      obtain ⟨mv1, mv2, mh3, k⟩ := k
      unfold f_X12_isSuit at mh3
      unfold B_X12_isSuit_0 at mh3
      obtain ⟨mv4, mv5, mh6, mh3⟩ := zk_o2 mh3
      unfold f_X12_in at mh6
      unfold B_X12_in_0 at mh6
      have mh6 := zk_t cc4 mh6
      simp only [Option.some.injEq, Prod.mk.injEq] at mh6
      obtain ⟨rfl, _⟩ := mh6
      obtain ⟨_, mh3⟩ := zk_gd mh3
      simp only [Option.some.injEq, Prod.mk.injEq] at mh3
      obtain ⟨rfl, _⟩ := mh3
      replace k := zk_t rfl k
      replace h := Option.some.inj h
      replace k := Option.some.inj k
      subst h
      subst k
      try dsimp only
      all_goals first
      | (exfalso; omega)
      | exact ⟨rfl, rfl, fun e => by first | exact e | rw [e]⟩
      | exact ⟨rfl, rfl, fun e => by rw [e]; rfl⟩
  · have ch3 := zk_f cc4 ch3
    have cc4n := cc4
    (try simp only [i32_lt, i32_le, i32_e, z32_0, z32_1] at cc4n)
    first
    | (exfalso; omega)
    | by_cases cc5 : court_suitCount ≤ x1
      · have ch3 := zk_t cc5 ch3
        have cc5n := cc5
        (try simp only [i32_lt, i32_le, i32_e, z32_0, z32_1] at cc5n)
        first
        | (exfalso; omega)
        | simp only [Option.some.injEq, Prod.mk.injEq] at ch3
          obtain ⟨rfl, _⟩ := ch3
          replace h := zk_t (by decide) h
          unfold B_X12_act_0 at k
          replace k := zk_o2 k
          obtain ⟨mv7, mv8, mh9, k⟩ := k
          unfold f_X12_isSuit at mh9
          unfold B_X12_isSuit_0 at mh9
          obtain ⟨mv10, mv11, mh12, mh9⟩ := zk_o2 mh9
          unfold f_X12_in at mh12
          unfold B_X12_in_0 at mh12
          have mh12 := zk_f cc4 mh12
          have mh12 := zk_t (by (try simp only [i32_lt, i32_le, i32_e, z32_0, z32_1]); omega) mh12
          simp only [Option.some.injEq, Prod.mk.injEq] at mh12
          obtain ⟨rfl, _⟩ := mh12
          obtain ⟨_, mh9⟩ := zk_gd mh9
          simp only [Option.some.injEq, Prod.mk.injEq] at mh9
          obtain ⟨rfl, _⟩ := mh9
          replace k := zk_t rfl k
          replace h := Option.some.inj h
          replace k := Option.some.inj k
          subst h
          subst k
          try dsimp only
          all_goals first
          | (exfalso; omega)
          | exact ⟨rfl, rfl, fun e => by first | exact e | rw [e]⟩
          | exact ⟨rfl, rfl, fun e => by rw [e]; rfl⟩
      · have ch3 := zk_f cc5 ch3
        have cc5n := cc5
        (try simp only [i32_lt, i32_le, i32_e, z32_0, z32_1] at cc5n)
        first
        | (exfalso; omega)
        | obtain ⟨_, ch3⟩ := zk_gd ch3
          obtain ⟨_, ch3⟩ := zk_gd ch3
          obtain ⟨_, ch3⟩ := zk_gd ch3
          simp only [Option.some.injEq, Prod.mk.injEq] at ch3
          obtain ⟨rfl, _⟩ := ch3
          replace h := zk_f cc4 h
          replace h := zk_gd h
          obtain ⟨_, h⟩ := h
          replace h := zk_o2 h
          obtain ⟨cv6, cv7, ch8, h⟩ := h
          obtain cq9 := bk8_e hB8 ch8
          replace cq9 := cq9.symm
          subst cq9
          replace h := zk_gd h
          obtain ⟨_, h⟩ := h
          replace h := zk_o4 h
          obtain ⟨cv10, cv11, cv12, cv13, ch14, h⟩ := h
          unfold f_X0_begin at ch14
          unfold B_X0_begin_0 at ch14
          simp only [Option.some.injEq, Prod.mk.injEq] at ch14
          obtain ⟨rfl, rfl, rfl, rfl⟩ := ch14
          by_cases cc15 : x2 = (0 : Int32)
          · replace h := zk_t cc15 h
            have cc15n := cc15
            (try simp only [i32_lt, i32_le, i32_e, z32_0, z32_1] at cc15n)
            first
            | (exfalso; omega)
            | obtain ⟨cv16, cv17, cv18, ch19, h⟩ := zk_o3 h
              have ch19 : f_X0_closes (grp_grp138 6) (2 : Int32) x3 (0 : Int32) (2 : Int32) x1 (S_askedCount x1.toNatClampNeg) acts_bodies = some (cv16, cv17, cv18) := ch19
              unfold f_X0_closes at ch19
              unfold B_X0_closes_0 at ch19
              have ch19 := zk_f (by decide) ch19
              have ch19 := zk_t rfl ch19
              obtain ⟨cv20, cv21, ch22, ch19⟩ := zk_o2 ch19
              unfold f_X0_above at ch22
              unfold B_X0_above_0 at ch22
              have ch22 := zk_f (by decide) ch22
              have ch22 := zk_f (by decide) ch22
              have ch22 := zk_f (by decide) ch22
              simp only [Option.some.injEq, Prod.mk.injEq] at ch22
              obtain ⟨rfl, _⟩ := ch22
              obtain ⟨cv23, cv24, cv25, ch26, ch19⟩ := zk_o3 ch19
              have ch26 : f_X0_closes (grp_grp138 5) (0 : Int32) x3 (0 : Int32) (2 : Int32) x1 (S_askedCount x1.toNatClampNeg) acts_bodies = some (cv23, cv24, cv25) := ch26
              unfold f_X0_closes at ch26
              unfold B_X0_closes_0 at ch26
              have ch26 := zk_f (by decide) ch26
              have ch26 := zk_f (by decide) ch26
              have ch26 := zk_f (by decide) ch26
              have ch26 := zk_f (by decide) ch26
              have ch26 := zk_f (by decide) ch26
              have ch26 := zk_f (by decide) ch26
              obtain ⟨cv27, cv28, ch29, ch26⟩ := zk_o2 ch26
              unfold f_X0_note at ch29
              unfold B_X0_note_0 at ch29
              have ch29 := zk_f (by decide) ch29
              obtain ⟨_, ch29⟩ := zk_gd ch29
              obtain ⟨cv30, ce31, ch29⟩ := zk_lt ch29
              subst ce31
              unfold B_X0_note_19 at ch29
              obtain ⟨cv32, ce33, ch29⟩ := zk_lt ch29
              subst ce33
              simp only [Option.some.injEq, Prod.mk.injEq] at ch29
              obtain ⟨rfl, rfl⟩ := ch29
              simp only [Option.some.injEq, Prod.mk.injEq] at ch26
              obtain ⟨rfl, rfl, rfl⟩ := ch26
              simp only [Option.some.injEq, Prod.mk.injEq] at ch19
              obtain ⟨rfl, rfl, rfl⟩ := ch19
              have hi : x1.toNatClampNeg < court_suitCount.toInt.toNat := by rw [tcn]; omega
              have ea : mod_askedMany x1.toNatClampNeg = S_askedCount x1.toNatClampNeg := (hA _ hi).symm
              unfold B_X12_act_0 at k
              replace k := zk_o2 k
              obtain ⟨mv13, mv14, mh15, k⟩ := k
              unfold f_X12_isSuit at mh15
              unfold B_X12_isSuit_0 at mh15
              obtain ⟨mv16, mv17, mh18, mh15⟩ := zk_o2 mh15
              unfold f_X12_in at mh18
              unfold B_X12_in_0 at mh18
              have mh18 := zk_f cc4 mh18
              have mh18 := zk_f (by (try simp only [i32_lt, i32_le, i32_e, z32_0, z32_1]); omega) mh18
              simp only [Option.some.injEq, Prod.mk.injEq] at mh18
              obtain ⟨rfl, _⟩ := mh18
              obtain ⟨_, mh15⟩ := zk_gd mh15
              simp only [Option.some.injEq, Prod.mk.injEq] at mh15
              obtain ⟨rfl, _⟩ := mh15
              replace k := zk_f (by decide) k
              replace k := zk_o2 k
              obtain ⟨mv19, mv20, mh21, k⟩ := k
              unfold f_X12_in at mh21
              unfold B_X12_in_0 at mh21
              have mh21 := zk_f (by (try simp only [i32_lt, i32_le, i32_e, z32_0, z32_1]); omega) mh21
              have mh21 := zk_f (by (try simp only [i32_lt, i32_le, i32_e, z32_0, z32_1, z32L_3]); omega) mh21
              simp only [Option.some.injEq, Prod.mk.injEq] at mh21
              obtain ⟨rfl, _⟩ := mh21
              replace k := zk_f (by decide) k
              replace k := zk_t cc15 k
              replace k := zk_o3 k
              obtain ⟨mv22, mv23, mv24, mh25, k⟩ := k
              unfold f_X12_closes at mh25
              unfold B_X12_closes_0 at mh25
              rw [ea] at mh25
              obtain ⟨mv26, mv27, mh28, mh25⟩ := zk_o2 mh25
              obtain mq29 := bk12_e (hB12 hi) mh28
              replace mq29 := mq29.symm
              subst mq29
              have mh25 := zk_f (by decide) mh25
              have mh25 := zk_f (by decide) mh25
              have mh25 := zk_f (by decide) mh25
              have mh25 := zk_f (by decide) mh25
              obtain ⟨mv30, mv31, mv32, mh33, mh25⟩ := zk_o3 mh25
              unfold f_X12_plainCloses at mh33
              unfold B_X12_plainCloses_0 at mh33
              obtain ⟨mv34, mv35, mh36, mh33⟩ := zk_o2 mh33
              unfold f_X12_ran at mh36
              unfold B_X12_ran_0 at mh36
              have mh36 := zk_f (by decide) mh36
              obtain ⟨_, mh36⟩ := zk_gd mh36
              obtain ⟨mv37, me38, mh36⟩ := zk_lt mh36
              subst me38
              unfold B_X12_ran_19 at mh36
              obtain ⟨mv39, me40, mh36⟩ := zk_lt mh36
              subst me40
              simp only [Option.some.injEq, Prod.mk.injEq] at mh36
              obtain ⟨rfl, rfl⟩ := mh36
              simp only [Option.some.injEq, Prod.mk.injEq] at mh33
              obtain ⟨rfl, rfl, rfl⟩ := mh33
              simp only [Option.some.injEq, Prod.mk.injEq] at mh25
              obtain ⟨rfl, rfl, rfl⟩ := mh25
              replace h := Option.some.inj h
              replace k := Option.some.inj k
              subst h
              subst k
              try dsimp only
              all_goals first
              | (exfalso; omega)
              | exact ⟨rfl, rfl, fun e => by first | exact e | rw [e]⟩
              | exact ⟨rfl, rfl, fun e => by rw [e]; rfl⟩
          · replace h := zk_f cc15 h
            have cc15n := cc15
            (try simp only [i32_lt, i32_le, i32_e, z32_0, z32_1] at cc15n)
            first
            | (exfalso; omega)
            | by_cases cc34 : x2 = (1 : Int32)
              · replace h := zk_t cc34 h
                have cc34n := cc34
                (try simp only [i32_lt, i32_le, i32_e, z32_0, z32_1] at cc34n)
                first
                | (exfalso; omega)
                | obtain ⟨cv35, cv36, cv37, ch38, h⟩ := zk_o3 h
                  have ch38 : f_X0_settles (grp_grp140 6) (2 : Int32) x3 (0 : Int32) (2 : Int32) x1 (S_askedCount x1.toNatClampNeg) acts_bodies = some (cv35, cv36, cv37) := ch38
                  unfold f_X0_settles at ch38
                  unfold B_X0_settles_0 at ch38
                  have ch38 := zk_f (by decide) ch38
                  have ch38 := zk_t rfl ch38
                  obtain ⟨cv39, cv40, ch41, ch38⟩ := zk_o2 ch38
                  unfold f_X0_above at ch41
                  unfold B_X0_above_0 at ch41
                  have ch41 := zk_f (by decide) ch41
                  have ch41 := zk_f (by decide) ch41
                  have ch41 := zk_f (by decide) ch41
                  simp only [Option.some.injEq, Prod.mk.injEq] at ch41
                  obtain ⟨rfl, _⟩ := ch41
                  obtain ⟨cv42, cv43, cv44, ch45, ch38⟩ := zk_o3 ch38
                  have ch45 : f_X0_settles (grp_grp140 5) (0 : Int32) x3 (0 : Int32) (2 : Int32) x1 (S_askedCount x1.toNatClampNeg) acts_bodies = some (cv42, cv43, cv44) := ch45
                  unfold f_X0_settles at ch45
                  unfold B_X0_settles_0 at ch45
                  have ch45 := zk_f (by decide) ch45
                  have ch45 := zk_f (by decide) ch45
                  have ch45 := zk_f (by decide) ch45
                  have ch45 := zk_f (by decide) ch45
                  have ch45 := zk_f (by decide) ch45
                  have ch45 := zk_f (by decide) ch45
                  obtain ⟨cv46, cv47, ch48, ch45⟩ := zk_o2 ch45
                  unfold f_X0_note at ch48
                  unfold B_X0_note_0 at ch48
                  have ch48 := zk_f (by decide) ch48
                  obtain ⟨_, ch48⟩ := zk_gd ch48
                  obtain ⟨cv49, ce50, ch48⟩ := zk_lt ch48
                  subst ce50
                  unfold B_X0_note_19 at ch48
                  obtain ⟨cv51, ce52, ch48⟩ := zk_lt ch48
                  subst ce52
                  simp only [Option.some.injEq, Prod.mk.injEq] at ch48
                  obtain ⟨rfl, rfl⟩ := ch48
                  obtain ⟨cv53, cv54, cv55, ch56, ch45⟩ := zk_o3 ch45
                  have ch56 : f_X0_closes (grp_grp138 6) (2 : Int32) x3 ((0 : Int32) + (1 : Int32)) (2 : Int32) x1 (S_askedCount x1.toNatClampNeg) (upd acts_bodies (0 : Int32).toNatClampNeg (10 : Int32)) = some (cv53, cv54, cv55) := ch56
                  unfold f_X0_closes at ch56
                  unfold B_X0_closes_0 at ch56
                  have ch56 := zk_f (by decide) ch56
                  have ch56 := zk_t rfl ch56
                  obtain ⟨cv57, cv58, ch59, ch56⟩ := zk_o2 ch56
                  unfold f_X0_above at ch59
                  unfold B_X0_above_0 at ch59
                  have ch59 := zk_f (by decide) ch59
                  have ch59 := zk_f (by decide) ch59
                  have ch59 := zk_f (by decide) ch59
                  simp only [Option.some.injEq, Prod.mk.injEq] at ch59
                  obtain ⟨rfl, _⟩ := ch59
                  obtain ⟨cv60, cv61, cv62, ch63, ch56⟩ := zk_o3 ch56
                  have ch63 : f_X0_closes (grp_grp138 5) (0 : Int32) x3 ((0 : Int32) + (1 : Int32)) (2 : Int32) x1 (S_askedCount x1.toNatClampNeg) (upd acts_bodies (0 : Int32).toNatClampNeg (10 : Int32)) = some (cv60, cv61, cv62) := ch63
                  unfold f_X0_closes at ch63
                  unfold B_X0_closes_0 at ch63
                  have ch63 := zk_f (by decide) ch63
                  have ch63 := zk_f (by decide) ch63
                  have ch63 := zk_f (by decide) ch63
                  have ch63 := zk_f (by decide) ch63
                  have ch63 := zk_f (by decide) ch63
                  have ch63 := zk_f (by decide) ch63
                  obtain ⟨cv64, cv65, ch66, ch63⟩ := zk_o2 ch63
                  unfold f_X0_note at ch66
                  unfold B_X0_note_0 at ch66
                  have ch66 := zk_f (by decide) ch66
                  obtain ⟨_, ch66⟩ := zk_gd ch66
                  obtain ⟨cv67, ce68, ch66⟩ := zk_lt ch66
                  subst ce68
                  unfold B_X0_note_19 at ch66
                  obtain ⟨cv69, ce70, ch66⟩ := zk_lt ch66
                  subst ce70
                  simp only [Option.some.injEq, Prod.mk.injEq] at ch66
                  obtain ⟨rfl, rfl⟩ := ch66
                  simp only [Option.some.injEq, Prod.mk.injEq] at ch63
                  obtain ⟨rfl, rfl, rfl⟩ := ch63
                  simp only [Option.some.injEq, Prod.mk.injEq] at ch56
                  obtain ⟨rfl, rfl, rfl⟩ := ch56
                  simp only [Option.some.injEq, Prod.mk.injEq] at ch45
                  obtain ⟨rfl, rfl, rfl⟩ := ch45
                  simp only [Option.some.injEq, Prod.mk.injEq] at ch38
                  obtain ⟨rfl, rfl, rfl⟩ := ch38
                  have hi : x1.toNatClampNeg < court_suitCount.toInt.toNat := by rw [tcn]; omega
                  have ea : mod_askedMany x1.toNatClampNeg = S_askedCount x1.toNatClampNeg := (hA _ hi).symm
                  unfold B_X12_act_0 at k
                  replace k := zk_o2 k
                  obtain ⟨mv41, mv42, mh43, k⟩ := k
                  unfold f_X12_isSuit at mh43
                  unfold B_X12_isSuit_0 at mh43
                  obtain ⟨mv44, mv45, mh46, mh43⟩ := zk_o2 mh43
                  unfold f_X12_in at mh46
                  unfold B_X12_in_0 at mh46
                  have mh46 := zk_f cc4 mh46
                  have mh46 := zk_f (by (try simp only [i32_lt, i32_le, i32_e, z32_0, z32_1]); omega) mh46
                  simp only [Option.some.injEq, Prod.mk.injEq] at mh46
                  obtain ⟨rfl, _⟩ := mh46
                  obtain ⟨_, mh43⟩ := zk_gd mh43
                  simp only [Option.some.injEq, Prod.mk.injEq] at mh43
                  obtain ⟨rfl, _⟩ := mh43
                  replace k := zk_f (by decide) k
                  replace k := zk_o2 k
                  obtain ⟨mv47, mv48, mh49, k⟩ := k
                  unfold f_X12_in at mh49
                  unfold B_X12_in_0 at mh49
                  have mh49 := zk_f (by (try simp only [i32_lt, i32_le, i32_e, z32_0, z32_1]); omega) mh49
                  have mh49 := zk_f (by (try simp only [i32_lt, i32_le, i32_e, z32_0, z32_1, z32L_3]); omega) mh49
                  simp only [Option.some.injEq, Prod.mk.injEq] at mh49
                  obtain ⟨rfl, _⟩ := mh49
                  replace k := zk_f (by decide) k
                  replace k := zk_f cc15 k
                  replace k := zk_t cc34 k
                  replace k := zk_o3 k
                  obtain ⟨mv50, mv51, mv52, mh53, k⟩ := k
                  unfold f_X12_settles at mh53
                  unfold B_X12_settles_0 at mh53
                  obtain ⟨mv54, mv55, mh56, mh53⟩ := zk_o2 mh53
                  obtain mq57 := bk12_e (hB12 hi) mh56
                  replace mq57 := mq57.symm
                  subst mq57
                  have mh53 := zk_f (by decide) mh53
                  have mh53 := zk_f (by decide) mh53
                  have mh53 := zk_f (by decide) mh53
                  obtain ⟨mv58, mv59, mv60, mh61, mh53⟩ := zk_o3 mh53
                  unfold f_X12_plainSettles at mh61
                  unfold B_X12_plainSettles_0 at mh61
                  obtain ⟨mv62, mv63, mh64, mh61⟩ := zk_o2 mh61
                  unfold f_X12_ran at mh64
                  unfold B_X12_ran_0 at mh64
                  have mh64 := zk_f (by decide) mh64
                  obtain ⟨_, mh64⟩ := zk_gd mh64
                  obtain ⟨mv65, me66, mh64⟩ := zk_lt mh64
                  subst me66
                  unfold B_X12_ran_19 at mh64
                  obtain ⟨mv67, me68, mh64⟩ := zk_lt mh64
                  subst me68
                  simp only [Option.some.injEq, Prod.mk.injEq] at mh64
                  obtain ⟨rfl, rfl⟩ := mh64
                  obtain ⟨mv69, mv70, mv71, mh72, mh61⟩ := zk_o3 mh61
                  unfold f_X12_closes at mh72
                  unfold B_X12_closes_0 at mh72
                  rw [ea] at mh72
                  obtain ⟨mv73, mv74, mh75, mh72⟩ := zk_o2 mh72
                  obtain mq76 := bk12_e (hB12 hi) mh75
                  replace mq76 := mq76.symm
                  subst mq76
                  have mh72 := zk_f (by decide) mh72
                  have mh72 := zk_f (by decide) mh72
                  have mh72 := zk_f (by decide) mh72
                  have mh72 := zk_f (by decide) mh72
                  obtain ⟨mv77, mv78, mv79, mh80, mh72⟩ := zk_o3 mh72
                  unfold f_X12_plainCloses at mh80
                  unfold B_X12_plainCloses_0 at mh80
                  obtain ⟨mv81, mv82, mh83, mh80⟩ := zk_o2 mh80
                  unfold f_X12_ran at mh83
                  unfold B_X12_ran_0 at mh83
                  have mh83 := zk_f (by decide) mh83
                  obtain ⟨_, mh83⟩ := zk_gd mh83
                  obtain ⟨mv84, me85, mh83⟩ := zk_lt mh83
                  subst me85
                  unfold B_X12_ran_19 at mh83
                  obtain ⟨mv86, me87, mh83⟩ := zk_lt mh83
                  subst me87
                  simp only [Option.some.injEq, Prod.mk.injEq] at mh83
                  obtain ⟨rfl, rfl⟩ := mh83
                  simp only [Option.some.injEq, Prod.mk.injEq] at mh80
                  obtain ⟨rfl, rfl, rfl⟩ := mh80
                  simp only [Option.some.injEq, Prod.mk.injEq] at mh72
                  obtain ⟨rfl, rfl, rfl⟩ := mh72
                  simp only [Option.some.injEq, Prod.mk.injEq] at mh61
                  obtain ⟨rfl, rfl, rfl⟩ := mh61
                  simp only [Option.some.injEq, Prod.mk.injEq] at mh53
                  obtain ⟨rfl, rfl, rfl⟩ := mh53
                  replace h := Option.some.inj h
                  replace k := Option.some.inj k
                  subst h
                  subst k
                  try dsimp only
                  all_goals first
                  | (exfalso; omega)
                  | exact ⟨rfl, rfl, fun e => by first | exact e | rw [e]⟩
                  | exact ⟨rfl, rfl, fun e => by rw [e]; rfl⟩
              · replace h := zk_f cc34 h
                have cc34n := cc34
                (try simp only [i32_lt, i32_le, i32_e, z32_0, z32_1] at cc34n)
                first
                | (exfalso; omega)
                | by_cases cc71 : x2 = (2 : Int32)
                  · replace h := zk_t cc71 h
                    have cc71n := cc71
                    (try simp only [i32_lt, i32_le, i32_e, z32_0, z32_1, z32L_2] at cc71n)
                    first
                    | (exfalso; omega)
                    | obtain ⟨cv72, cv73, cv74, ch75, h⟩ := zk_o3 h
                      have ch75 : f_X0_binds (grp_grp139 6) (2 : Int32) x3 (0 : Int32) (2 : Int32) x1 (S_askedCount x1.toNatClampNeg) acts_bodies = some (cv72, cv73, cv74) := ch75
                      unfold f_X0_binds at ch75
                      unfold B_X0_binds_0 at ch75
                      have ch75 := zk_t rfl ch75
                      obtain ⟨cv76, cv77, ch78, ch75⟩ := zk_o2 ch75
                      unfold f_X0_note at ch78
                      unfold B_X0_note_0 at ch78
                      have ch78 := zk_f (by decide) ch78
                      obtain ⟨_, ch78⟩ := zk_gd ch78
                      obtain ⟨cv79, ce80, ch78⟩ := zk_lt ch78
                      subst ce80
                      unfold B_X0_note_19 at ch78
                      obtain ⟨cv81, ce82, ch78⟩ := zk_lt ch78
                      subst ce82
                      simp only [Option.some.injEq, Prod.mk.injEq] at ch78
                      obtain ⟨rfl, rfl⟩ := ch78
                      obtain ⟨cv83, cv84, ch85, ch75⟩ := zk_o2 ch75
                      unfold f_X0_above at ch85
                      unfold B_X0_above_0 at ch85
                      have ch85 := zk_f (by decide) ch85
                      have ch85 := zk_f (by decide) ch85
                      have ch85 := zk_f (by decide) ch85
                      simp only [Option.some.injEq, Prod.mk.injEq] at ch85
                      obtain ⟨rfl, _⟩ := ch85
                      obtain ⟨cv86, cv87, cv88, ch89, ch75⟩ := zk_o3 ch75
                      have ch89 : f_X0_binds (grp_grp139 5) (0 : Int32) x3 ((0 : Int32) + (1 : Int32)) (2 : Int32) x1 (S_askedCount x1.toNatClampNeg) (upd acts_bodies (0 : Int32).toNatClampNeg (30 : Int32)) = some (cv86, cv87, cv88) := ch89
                      unfold f_X0_binds at ch89
                      unfold B_X0_binds_0 at ch89
                      have ch89 := zk_f (by decide) ch89
                      have ch89 := zk_t (Int32.le_refl _) ch89
                      obtain ⟨cv90, cv91, ch92, ch89⟩ := zk_o2 ch89
                      unfold f_X0_note at ch92
                      unfold B_X0_note_0 at ch92
                      have ch92 := zk_f (by decide) ch92
                      obtain ⟨_, ch92⟩ := zk_gd ch92
                      obtain ⟨cv93, ce94, ch92⟩ := zk_lt ch92
                      subst ce94
                      unfold B_X0_note_19 at ch92
                      obtain ⟨cv95, ce96, ch92⟩ := zk_lt ch92
                      subst ce96
                      simp only [Option.some.injEq, Prod.mk.injEq] at ch92
                      obtain ⟨rfl, rfl⟩ := ch92
                      simp only [Option.some.injEq, Prod.mk.injEq] at ch89
                      obtain ⟨rfl, rfl, rfl⟩ := ch89
                      simp only [Option.some.injEq, Prod.mk.injEq] at ch75
                      obtain ⟨rfl, rfl, rfl⟩ := ch75
                      have hi : x1.toNatClampNeg < court_suitCount.toInt.toNat := by rw [tcn]; omega
                      have ea : mod_askedMany x1.toNatClampNeg = S_askedCount x1.toNatClampNeg := (hA _ hi).symm
                      unfold B_X12_act_0 at k
                      replace k := zk_o2 k
                      obtain ⟨mv88, mv89, mh90, k⟩ := k
                      unfold f_X12_isSuit at mh90
                      unfold B_X12_isSuit_0 at mh90
                      obtain ⟨mv91, mv92, mh93, mh90⟩ := zk_o2 mh90
                      unfold f_X12_in at mh93
                      unfold B_X12_in_0 at mh93
                      have mh93 := zk_f cc4 mh93
                      have mh93 := zk_f (by (try simp only [i32_lt, i32_le, i32_e, z32_0, z32_1]); omega) mh93
                      simp only [Option.some.injEq, Prod.mk.injEq] at mh93
                      obtain ⟨rfl, _⟩ := mh93
                      obtain ⟨_, mh90⟩ := zk_gd mh90
                      simp only [Option.some.injEq, Prod.mk.injEq] at mh90
                      obtain ⟨rfl, _⟩ := mh90
                      replace k := zk_f (by decide) k
                      replace k := zk_o2 k
                      obtain ⟨mv94, mv95, mh96, k⟩ := k
                      unfold f_X12_in at mh96
                      unfold B_X12_in_0 at mh96
                      have mh96 := zk_f (by (try simp only [i32_lt, i32_le, i32_e, z32_0, z32_1]); omega) mh96
                      have mh96 := zk_f (by (try simp only [i32_lt, i32_le, i32_e, z32_0, z32_1, z32L_3]); omega) mh96
                      simp only [Option.some.injEq, Prod.mk.injEq] at mh96
                      obtain ⟨rfl, _⟩ := mh96
                      replace k := zk_f (by decide) k
                      replace k := zk_f cc15 k
                      replace k := zk_f cc34 k
                      replace k := zk_t cc71 k
                      replace k := zk_o3 k
                      obtain ⟨mv97, mv98, mv99, mh100, k⟩ := k
                      unfold f_X12_binds at mh100
                      unfold B_X12_binds_0 at mh100
                      obtain ⟨mv101, mv102, mh103, mh100⟩ := zk_o2 mh100
                      obtain mq104 := bk12_e (hB12 hi) mh103
                      replace mq104 := mq104.symm
                      subst mq104
                      obtain ⟨mv105, mv106, mh107, mh100⟩ := zk_o2 mh100
                      unfold f_X12_isUnder at mh107
                      unfold B_X12_isUnder_0 at mh107
                      have mh107 := zk_f (by decide) mh107
                      have mh107 := zk_t rfl mh107
                      unfold B_X12_isUnder_40 at mh107
                      simp only [Option.some.injEq, Prod.mk.injEq] at mh107
                      obtain ⟨rfl, _⟩ := mh107
                      have mh100 := zk_f (by decide) mh100
                      obtain ⟨mv108, mv109, mh110, mh100⟩ := zk_o2 mh100
                      unfold f_X12_ran at mh110
                      unfold B_X12_ran_0 at mh110
                      have mh110 := zk_f (by decide) mh110
                      obtain ⟨_, mh110⟩ := zk_gd mh110
                      obtain ⟨mv111, me112, mh110⟩ := zk_lt mh110
                      subst me112
                      unfold B_X12_ran_19 at mh110
                      obtain ⟨mv113, me114, mh110⟩ := zk_lt mh110
                      subst me114
                      simp only [Option.some.injEq, Prod.mk.injEq] at mh110
                      obtain ⟨rfl, rfl⟩ := mh110
                      obtain ⟨mv115, mv116, mv117, mh118, mh100⟩ := zk_o3 mh100
                      unfold f_X12_plainBinds at mh118
                      unfold B_X12_plainBinds_0 at mh118
                      obtain ⟨mv119, mv120, mh121, mh118⟩ := zk_o2 mh118
                      unfold f_X12_ran at mh121
                      unfold B_X12_ran_0 at mh121
                      have mh121 := zk_f (by decide) mh121
                      obtain ⟨_, mh121⟩ := zk_gd mh121
                      obtain ⟨mv122, me123, mh121⟩ := zk_lt mh121
                      subst me123
                      unfold B_X12_ran_19 at mh121
                      obtain ⟨mv124, me125, mh121⟩ := zk_lt mh121
                      subst me125
                      simp only [Option.some.injEq, Prod.mk.injEq] at mh121
                      obtain ⟨rfl, rfl⟩ := mh121
                      simp only [Option.some.injEq, Prod.mk.injEq] at mh118
                      obtain ⟨rfl, rfl, rfl⟩ := mh118
                      simp only [Option.some.injEq, Prod.mk.injEq] at mh100
                      obtain ⟨rfl, rfl, rfl⟩ := mh100
                      replace h := Option.some.inj h
                      replace k := Option.some.inj k
                      subst h
                      subst k
                      try dsimp only
                      all_goals first
                      | (exfalso; omega)
                      | exact ⟨rfl, rfl, fun e => by first | exact e | rw [e]⟩
                      | exact ⟨rfl, rfl, fun e => by rw [e]; rfl⟩
                  · replace h := zk_f cc71 h
                    have cc71n := cc71
                    (try simp only [i32_lt, i32_le, i32_e, z32_0, z32_1, z32L_2] at cc71n)
                    first
                    | (exfalso; omega)
                    | by_cases cc97 : x2 = (3 : Int32)
                      · replace h := zk_t cc97 h
                        have cc97n := cc97
                        (try simp only [i32_lt, i32_le, i32_e, z32_0, z32_1, z32L_3] at cc97n)
                        first
                        | (exfalso; omega)
                        | obtain ⟨cv98, cv99, cv100, ch101, h⟩ := zk_o3 h
                          have ch101 : f_X0_tells (grp_grp141 6) (2 : Int32) x3 (0 : Int32) (2 : Int32) x1 (S_askedCount x1.toNatClampNeg) acts_bodies = some (cv98, cv99, cv100) := ch101
                          unfold f_X0_tells at ch101
                          unfold B_X0_tells_0 at ch101
                          have ch101 := zk_f (by decide) ch101
                          have ch101 := zk_f (by decide) ch101
                          obtain ⟨cv102, cv103, ch104, ch101⟩ := zk_o2 ch101
                          unfold f_X0_above at ch104
                          unfold B_X0_above_0 at ch104
                          have ch104 := zk_f (by decide) ch104
                          have ch104 := zk_f (by decide) ch104
                          have ch104 := zk_f (by decide) ch104
                          simp only [Option.some.injEq, Prod.mk.injEq] at ch104
                          obtain ⟨rfl, _⟩ := ch104
                          obtain ⟨cv105, cv106, cv107, ch108, ch101⟩ := zk_o3 ch101
                          have ch108 : f_X0_tells (grp_grp141 5) (0 : Int32) x3 (0 : Int32) (2 : Int32) x1 (S_askedCount x1.toNatClampNeg) acts_bodies = some (cv105, cv106, cv107) := ch108
                          unfold f_X0_tells at ch108
                          unfold B_X0_tells_0 at ch108
                          have ch108 := zk_f (by decide) ch108
                          have ch108 := zk_t (Int32.le_refl _) ch108
                          obtain ⟨cv109, cv110, ch111, ch108⟩ := zk_o2 ch108
                          unfold f_X0_note at ch111
                          unfold B_X0_note_0 at ch111
                          have ch111 := zk_f (by decide) ch111
                          obtain ⟨_, ch111⟩ := zk_gd ch111
                          obtain ⟨cv112, ce113, ch111⟩ := zk_lt ch111
                          subst ce113
                          unfold B_X0_note_19 at ch111
                          obtain ⟨cv114, ce115, ch111⟩ := zk_lt ch111
                          subst ce115
                          simp only [Option.some.injEq, Prod.mk.injEq] at ch111
                          obtain ⟨rfl, rfl⟩ := ch111
                          obtain ⟨cv116, cv117, cv118, ch119, ch108⟩ := zk_o3 ch108
                          have ch119 : f_X0_settles (grp_grp140 6) (2 : Int32) x3 ((0 : Int32) + (1 : Int32)) (2 : Int32) x1 (S_askedCount x1.toNatClampNeg) (upd acts_bodies (0 : Int32).toNatClampNeg (2 : Int32)) = some (cv116, cv117, cv118) := ch119
                          unfold f_X0_settles at ch119
                          unfold B_X0_settles_0 at ch119
                          have ch119 := zk_f (by decide) ch119
                          have ch119 := zk_t rfl ch119
                          obtain ⟨cv120, cv121, ch122, ch119⟩ := zk_o2 ch119
                          unfold f_X0_above at ch122
                          unfold B_X0_above_0 at ch122
                          have ch122 := zk_f (by decide) ch122
                          have ch122 := zk_f (by decide) ch122
                          have ch122 := zk_f (by decide) ch122
                          simp only [Option.some.injEq, Prod.mk.injEq] at ch122
                          obtain ⟨rfl, _⟩ := ch122
                          obtain ⟨cv123, cv124, cv125, ch126, ch119⟩ := zk_o3 ch119
                          have ch126 : f_X0_settles (grp_grp140 5) (0 : Int32) x3 ((0 : Int32) + (1 : Int32)) (2 : Int32) x1 (S_askedCount x1.toNatClampNeg) (upd acts_bodies (0 : Int32).toNatClampNeg (2 : Int32)) = some (cv123, cv124, cv125) := ch126
                          unfold f_X0_settles at ch126
                          unfold B_X0_settles_0 at ch126
                          have ch126 := zk_f (by decide) ch126
                          have ch126 := zk_f (by decide) ch126
                          have ch126 := zk_f (by decide) ch126
                          have ch126 := zk_f (by decide) ch126
                          have ch126 := zk_f (by decide) ch126
                          have ch126 := zk_f (by decide) ch126
                          obtain ⟨cv127, cv128, ch129, ch126⟩ := zk_o2 ch126
                          unfold f_X0_note at ch129
                          unfold B_X0_note_0 at ch129
                          have ch129 := zk_f (by decide) ch129
                          obtain ⟨_, ch129⟩ := zk_gd ch129
                          obtain ⟨cv130, ce131, ch129⟩ := zk_lt ch129
                          subst ce131
                          unfold B_X0_note_19 at ch129
                          obtain ⟨cv132, ce133, ch129⟩ := zk_lt ch129
                          subst ce133
                          simp only [Option.some.injEq, Prod.mk.injEq] at ch129
                          obtain ⟨rfl, rfl⟩ := ch129
                          obtain ⟨cv134, cv135, cv136, ch137, ch126⟩ := zk_o3 ch126
                          have ch137 : f_X0_closes (grp_grp138 6) (2 : Int32) x3 (((0 : Int32) + (1 : Int32)) + (1 : Int32)) (2 : Int32) x1 (S_askedCount x1.toNatClampNeg) (upd (upd acts_bodies (0 : Int32).toNatClampNeg (2 : Int32)) ((0 : Int32) + (1 : Int32)).toNatClampNeg (10 : Int32)) = some (cv134, cv135, cv136) := ch137
                          unfold f_X0_closes at ch137
                          unfold B_X0_closes_0 at ch137
                          have ch137 := zk_f (by decide) ch137
                          have ch137 := zk_t rfl ch137
                          obtain ⟨cv138, cv139, ch140, ch137⟩ := zk_o2 ch137
                          unfold f_X0_above at ch140
                          unfold B_X0_above_0 at ch140
                          have ch140 := zk_f (by decide) ch140
                          have ch140 := zk_f (by decide) ch140
                          have ch140 := zk_f (by decide) ch140
                          simp only [Option.some.injEq, Prod.mk.injEq] at ch140
                          obtain ⟨rfl, _⟩ := ch140
                          obtain ⟨cv141, cv142, cv143, ch144, ch137⟩ := zk_o3 ch137
                          have ch144 : f_X0_closes (grp_grp138 5) (0 : Int32) x3 (((0 : Int32) + (1 : Int32)) + (1 : Int32)) (2 : Int32) x1 (S_askedCount x1.toNatClampNeg) (upd (upd acts_bodies (0 : Int32).toNatClampNeg (2 : Int32)) ((0 : Int32) + (1 : Int32)).toNatClampNeg (10 : Int32)) = some (cv141, cv142, cv143) := ch144
                          unfold f_X0_closes at ch144
                          unfold B_X0_closes_0 at ch144
                          have ch144 := zk_f (by decide) ch144
                          have ch144 := zk_f (by decide) ch144
                          have ch144 := zk_f (by decide) ch144
                          have ch144 := zk_f (by decide) ch144
                          have ch144 := zk_f (by decide) ch144
                          have ch144 := zk_f (by decide) ch144
                          obtain ⟨cv145, cv146, ch147, ch144⟩ := zk_o2 ch144
                          unfold f_X0_note at ch147
                          unfold B_X0_note_0 at ch147
                          have ch147 := zk_f (by decide) ch147
                          obtain ⟨_, ch147⟩ := zk_gd ch147
                          obtain ⟨cv148, ce149, ch147⟩ := zk_lt ch147
                          subst ce149
                          unfold B_X0_note_19 at ch147
                          obtain ⟨cv150, ce151, ch147⟩ := zk_lt ch147
                          subst ce151
                          simp only [Option.some.injEq, Prod.mk.injEq] at ch147
                          obtain ⟨rfl, rfl⟩ := ch147
                          simp only [Option.some.injEq, Prod.mk.injEq] at ch144
                          obtain ⟨rfl, rfl, rfl⟩ := ch144
                          simp only [Option.some.injEq, Prod.mk.injEq] at ch137
                          obtain ⟨rfl, rfl, rfl⟩ := ch137
                          simp only [Option.some.injEq, Prod.mk.injEq] at ch126
                          obtain ⟨rfl, rfl, rfl⟩ := ch126
                          simp only [Option.some.injEq, Prod.mk.injEq] at ch119
                          obtain ⟨rfl, rfl, rfl⟩ := ch119
                          obtain ⟨cv152, cv153, cv154, ch155, ch108⟩ := zk_o3 ch108
                          have ch155 : f_X0_binds (grp_grp139 6) (2 : Int32) (1 : Int32) ((((0 : Int32) + (1 : Int32)) + (1 : Int32)) + (1 : Int32)) (2 : Int32) x1 (S_askedCount x1.toNatClampNeg) (upd (upd (upd acts_bodies (0 : Int32).toNatClampNeg (2 : Int32)) ((0 : Int32) + (1 : Int32)).toNatClampNeg (10 : Int32)) (((0 : Int32) + (1 : Int32)) + (1 : Int32)).toNatClampNeg (1 : Int32)) = some (cv152, cv153, cv154) := ch155
                          unfold f_X0_binds at ch155
                          unfold B_X0_binds_0 at ch155
                          have ch155 := zk_t rfl ch155
                          obtain ⟨cv156, cv157, ch158, ch155⟩ := zk_o2 ch155
                          unfold f_X0_note at ch158
                          unfold B_X0_note_0 at ch158
                          have ch158 := zk_f (by decide) ch158
                          obtain ⟨_, ch158⟩ := zk_gd ch158
                          obtain ⟨cv159, ce160, ch158⟩ := zk_lt ch158
                          subst ce160
                          unfold B_X0_note_19 at ch158
                          obtain ⟨cv161, ce162, ch158⟩ := zk_lt ch158
                          subst ce162
                          simp only [Option.some.injEq, Prod.mk.injEq] at ch158
                          obtain ⟨rfl, rfl⟩ := ch158
                          obtain ⟨cv163, cv164, ch165, ch155⟩ := zk_o2 ch155
                          unfold f_X0_above at ch165
                          unfold B_X0_above_0 at ch165
                          have ch165 := zk_f (by decide) ch165
                          have ch165 := zk_f (by decide) ch165
                          have ch165 := zk_f (by decide) ch165
                          simp only [Option.some.injEq, Prod.mk.injEq] at ch165
                          obtain ⟨rfl, _⟩ := ch165
                          obtain ⟨cv166, cv167, cv168, ch169, ch155⟩ := zk_o3 ch155
                          have ch169 : f_X0_binds (grp_grp139 5) (0 : Int32) (1 : Int32) (((((0 : Int32) + (1 : Int32)) + (1 : Int32)) + (1 : Int32)) + (1 : Int32)) (2 : Int32) x1 (S_askedCount x1.toNatClampNeg) (upd (upd (upd (upd acts_bodies (0 : Int32).toNatClampNeg (2 : Int32)) ((0 : Int32) + (1 : Int32)).toNatClampNeg (10 : Int32)) (((0 : Int32) + (1 : Int32)) + (1 : Int32)).toNatClampNeg (1 : Int32)) ((((0 : Int32) + (1 : Int32)) + (1 : Int32)) + (1 : Int32)).toNatClampNeg (30 : Int32)) = some (cv166, cv167, cv168) := ch169
                          unfold f_X0_binds at ch169
                          unfold B_X0_binds_0 at ch169
                          have ch169 := zk_f (by decide) ch169
                          have ch169 := zk_t (Int32.le_refl _) ch169
                          obtain ⟨cv170, cv171, ch172, ch169⟩ := zk_o2 ch169
                          unfold f_X0_note at ch172
                          unfold B_X0_note_0 at ch172
                          have ch172 := zk_f (by decide) ch172
                          obtain ⟨_, ch172⟩ := zk_gd ch172
                          obtain ⟨cv173, ce174, ch172⟩ := zk_lt ch172
                          subst ce174
                          unfold B_X0_note_19 at ch172
                          obtain ⟨cv175, ce176, ch172⟩ := zk_lt ch172
                          subst ce176
                          simp only [Option.some.injEq, Prod.mk.injEq] at ch172
                          obtain ⟨rfl, rfl⟩ := ch172
                          simp only [Option.some.injEq, Prod.mk.injEq] at ch169
                          obtain ⟨rfl, rfl, rfl⟩ := ch169
                          simp only [Option.some.injEq, Prod.mk.injEq] at ch155
                          obtain ⟨rfl, rfl, rfl⟩ := ch155
                          simp only [Option.some.injEq, Prod.mk.injEq] at ch108
                          obtain ⟨rfl, rfl, rfl⟩ := ch108
                          simp only [Option.some.injEq, Prod.mk.injEq] at ch101
                          obtain ⟨rfl, rfl, rfl⟩ := ch101
                          have hi : x1.toNatClampNeg < court_suitCount.toInt.toNat := by rw [tcn]; omega
                          have ea : mod_askedMany x1.toNatClampNeg = S_askedCount x1.toNatClampNeg := (hA _ hi).symm
                          unfold B_X12_act_0 at k
                          replace k := zk_o2 k
                          obtain ⟨mv126, mv127, mh128, k⟩ := k
                          unfold f_X12_isSuit at mh128
                          unfold B_X12_isSuit_0 at mh128
                          obtain ⟨mv129, mv130, mh131, mh128⟩ := zk_o2 mh128
                          unfold f_X12_in at mh131
                          unfold B_X12_in_0 at mh131
                          have mh131 := zk_f cc4 mh131
                          have mh131 := zk_f (by (try simp only [i32_lt, i32_le, i32_e, z32_0, z32_1]); omega) mh131
                          simp only [Option.some.injEq, Prod.mk.injEq] at mh131
                          obtain ⟨rfl, _⟩ := mh131
                          obtain ⟨_, mh128⟩ := zk_gd mh128
                          simp only [Option.some.injEq, Prod.mk.injEq] at mh128
                          obtain ⟨rfl, _⟩ := mh128
                          replace k := zk_f (by decide) k
                          replace k := zk_o2 k
                          obtain ⟨mv132, mv133, mh134, k⟩ := k
                          unfold f_X12_in at mh134
                          unfold B_X12_in_0 at mh134
                          have mh134 := zk_f (by (try simp only [i32_lt, i32_le, i32_e, z32_0, z32_1]); omega) mh134
                          have mh134 := zk_f (by (try simp only [i32_lt, i32_le, i32_e, z32_0, z32_1, z32L_3]); omega) mh134
                          simp only [Option.some.injEq, Prod.mk.injEq] at mh134
                          obtain ⟨rfl, _⟩ := mh134
                          replace k := zk_f (by decide) k
                          replace k := zk_f cc15 k
                          replace k := zk_f cc34 k
                          replace k := zk_f cc71 k
                          replace k := zk_o3 k
                          obtain ⟨mv135, mv136, mv137, mh138, k⟩ := k
                          unfold f_X12_tells at mh138
                          unfold B_X12_tells_0 at mh138
                          obtain ⟨mv139, mv140, mh141, mh138⟩ := zk_o2 mh138
                          obtain mq142 := bk12_e (hB12 hi) mh141
                          replace mq142 := mq142.symm
                          subst mq142
                          have mh138 := zk_f (by decide) mh138
                          obtain ⟨mv143, mv144, mv145, mh146, mh138⟩ := zk_o3 mh138
                          unfold f_X12_plainTells at mh146
                          unfold B_X12_plainTells_0 at mh146
                          obtain ⟨mv147, mv148, mh149, mh146⟩ := zk_o2 mh146
                          unfold f_X12_ran at mh149
                          unfold B_X12_ran_0 at mh149
                          have mh149 := zk_f (by decide) mh149
                          obtain ⟨_, mh149⟩ := zk_gd mh149
                          obtain ⟨mv150, me151, mh149⟩ := zk_lt mh149
                          subst me151
                          unfold B_X12_ran_19 at mh149
                          obtain ⟨mv152, me153, mh149⟩ := zk_lt mh149
                          subst me153
                          simp only [Option.some.injEq, Prod.mk.injEq] at mh149
                          obtain ⟨rfl, rfl⟩ := mh149
                          obtain ⟨mv154, mv155, mv156, mh157, mh146⟩ := zk_o3 mh146
                          unfold f_X12_settles at mh157
                          unfold B_X12_settles_0 at mh157
                          obtain ⟨mv158, mv159, mh160, mh157⟩ := zk_o2 mh157
                          obtain mq161 := bk12_e (hB12 hi) mh160
                          replace mq161 := mq161.symm
                          subst mq161
                          have mh157 := zk_f (by decide) mh157
                          have mh157 := zk_f (by decide) mh157
                          have mh157 := zk_f (by decide) mh157
                          obtain ⟨mv162, mv163, mv164, mh165, mh157⟩ := zk_o3 mh157
                          unfold f_X12_plainSettles at mh165
                          unfold B_X12_plainSettles_0 at mh165
                          obtain ⟨mv166, mv167, mh168, mh165⟩ := zk_o2 mh165
                          unfold f_X12_ran at mh168
                          unfold B_X12_ran_0 at mh168
                          have mh168 := zk_f (by decide) mh168
                          obtain ⟨_, mh168⟩ := zk_gd mh168
                          obtain ⟨mv169, me170, mh168⟩ := zk_lt mh168
                          subst me170
                          unfold B_X12_ran_19 at mh168
                          obtain ⟨mv171, me172, mh168⟩ := zk_lt mh168
                          subst me172
                          simp only [Option.some.injEq, Prod.mk.injEq] at mh168
                          obtain ⟨rfl, rfl⟩ := mh168
                          obtain ⟨mv173, mv174, mv175, mh176, mh165⟩ := zk_o3 mh165
                          unfold f_X12_closes at mh176
                          unfold B_X12_closes_0 at mh176
                          rw [ea] at mh176
                          obtain ⟨mv177, mv178, mh179, mh176⟩ := zk_o2 mh176
                          obtain mq180 := bk12_e (hB12 hi) mh179
                          replace mq180 := mq180.symm
                          subst mq180
                          have mh176 := zk_f (by decide) mh176
                          have mh176 := zk_f (by decide) mh176
                          have mh176 := zk_f (by decide) mh176
                          have mh176 := zk_f (by decide) mh176
                          obtain ⟨mv181, mv182, mv183, mh184, mh176⟩ := zk_o3 mh176
                          unfold f_X12_plainCloses at mh184
                          unfold B_X12_plainCloses_0 at mh184
                          obtain ⟨mv185, mv186, mh187, mh184⟩ := zk_o2 mh184
                          unfold f_X12_ran at mh187
                          unfold B_X12_ran_0 at mh187
                          have mh187 := zk_f (by decide) mh187
                          obtain ⟨_, mh187⟩ := zk_gd mh187
                          obtain ⟨mv188, me189, mh187⟩ := zk_lt mh187
                          subst me189
                          unfold B_X12_ran_19 at mh187
                          obtain ⟨mv190, me191, mh187⟩ := zk_lt mh187
                          subst me191
                          simp only [Option.some.injEq, Prod.mk.injEq] at mh187
                          obtain ⟨rfl, rfl⟩ := mh187
                          simp only [Option.some.injEq, Prod.mk.injEq] at mh184
                          obtain ⟨rfl, rfl, rfl⟩ := mh184
                          simp only [Option.some.injEq, Prod.mk.injEq] at mh176
                          obtain ⟨rfl, rfl, rfl⟩ := mh176
                          simp only [Option.some.injEq, Prod.mk.injEq] at mh165
                          obtain ⟨rfl, rfl, rfl⟩ := mh165
                          simp only [Option.some.injEq, Prod.mk.injEq] at mh157
                          obtain ⟨rfl, rfl, rfl⟩ := mh157
                          obtain ⟨mv192, mv193, mv194, mh195, mh146⟩ := zk_o3 mh146
                          unfold f_X12_binds at mh195
                          unfold B_X12_binds_0 at mh195
                          obtain ⟨mv196, mv197, mh198, mh195⟩ := zk_o2 mh195
                          obtain mq199 := bk12_e (hB12 hi) mh198
                          replace mq199 := mq199.symm
                          subst mq199
                          obtain ⟨mv200, mv201, mh202, mh195⟩ := zk_o2 mh195
                          unfold f_X12_isUnder at mh202
                          unfold B_X12_isUnder_0 at mh202
                          have mh202 := zk_f (by decide) mh202
                          have mh202 := zk_t rfl mh202
                          unfold B_X12_isUnder_40 at mh202
                          simp only [Option.some.injEq, Prod.mk.injEq] at mh202
                          obtain ⟨rfl, _⟩ := mh202
                          have mh195 := zk_f (by decide) mh195
                          obtain ⟨mv203, mv204, mh205, mh195⟩ := zk_o2 mh195
                          unfold f_X12_ran at mh205
                          unfold B_X12_ran_0 at mh205
                          have mh205 := zk_f (by decide) mh205
                          obtain ⟨_, mh205⟩ := zk_gd mh205
                          obtain ⟨mv206, me207, mh205⟩ := zk_lt mh205
                          subst me207
                          unfold B_X12_ran_19 at mh205
                          obtain ⟨mv208, me209, mh205⟩ := zk_lt mh205
                          subst me209
                          simp only [Option.some.injEq, Prod.mk.injEq] at mh205
                          obtain ⟨rfl, rfl⟩ := mh205
                          obtain ⟨mv210, mv211, mv212, mh213, mh195⟩ := zk_o3 mh195
                          unfold f_X12_plainBinds at mh213
                          unfold B_X12_plainBinds_0 at mh213
                          obtain ⟨mv214, mv215, mh216, mh213⟩ := zk_o2 mh213
                          unfold f_X12_ran at mh216
                          unfold B_X12_ran_0 at mh216
                          have mh216 := zk_f (by decide) mh216
                          obtain ⟨_, mh216⟩ := zk_gd mh216
                          obtain ⟨mv217, me218, mh216⟩ := zk_lt mh216
                          subst me218
                          unfold B_X12_ran_19 at mh216
                          obtain ⟨mv219, me220, mh216⟩ := zk_lt mh216
                          subst me220
                          simp only [Option.some.injEq, Prod.mk.injEq] at mh216
                          obtain ⟨rfl, rfl⟩ := mh216
                          simp only [Option.some.injEq, Prod.mk.injEq] at mh213
                          obtain ⟨rfl, rfl, rfl⟩ := mh213
                          simp only [Option.some.injEq, Prod.mk.injEq] at mh195
                          obtain ⟨rfl, rfl, rfl⟩ := mh195
                          simp only [Option.some.injEq, Prod.mk.injEq] at mh146
                          obtain ⟨rfl, rfl, rfl⟩ := mh146
                          simp only [Option.some.injEq, Prod.mk.injEq] at mh138
                          obtain ⟨rfl, rfl, rfl⟩ := mh138
                          replace h := Option.some.inj h
                          replace k := Option.some.inj k
                          subst h
                          subst k
                          try dsimp only
                          all_goals first
                          | (exfalso; omega)
                          | exact ⟨rfl, rfl, fun e => by first | exact e | rw [e]⟩
                          | exact ⟨rfl, rfl, fun e => by rw [e]; rfl⟩
                      · replace h := zk_f cc97 h
                        have cc97n := cc97
                        (try simp only [i32_lt, i32_le, i32_e, z32_0, z32_1, z32L_3] at cc97n)
                        first
                        | (exfalso; omega)
                        | have hi : x1.toNatClampNeg < court_suitCount.toInt.toNat := by rw [tcn]; omega
                          have ea : mod_askedMany x1.toNatClampNeg = S_askedCount x1.toNatClampNeg := (hA _ hi).symm
                          unfold B_X12_act_0 at k
                          replace k := zk_o2 k
                          obtain ⟨mv221, mv222, mh223, k⟩ := k
                          unfold f_X12_isSuit at mh223
                          unfold B_X12_isSuit_0 at mh223
                          obtain ⟨mv224, mv225, mh226, mh223⟩ := zk_o2 mh223
                          unfold f_X12_in at mh226
                          unfold B_X12_in_0 at mh226
                          have mh226 := zk_f cc4 mh226
                          have mh226 := zk_f (by (try simp only [i32_lt, i32_le, i32_e, z32_0, z32_1]); omega) mh226
                          simp only [Option.some.injEq, Prod.mk.injEq] at mh226
                          obtain ⟨rfl, _⟩ := mh226
                          obtain ⟨_, mh223⟩ := zk_gd mh223
                          simp only [Option.some.injEq, Prod.mk.injEq] at mh223
                          obtain ⟨rfl, _⟩ := mh223
                          replace k := zk_f (by decide) k
                          replace k := zk_o2 k
                          obtain ⟨mv227, mv228, mh229, k⟩ := k
                          unfold f_X12_in at mh229
                          unfold B_X12_in_0 at mh229
                          by_cases mc230 : x2 < (0 : Int32)
                          · have mh229 := zk_t mc230 mh229
                            have mc230n := mc230
                            (try simp only [i32_lt, i32_le, i32_e, z32_0, z32_1] at mc230n)
                            first
                            | (exfalso; omega)
                            | simp only [Option.some.injEq, Prod.mk.injEq] at mh229
                              obtain ⟨rfl, _⟩ := mh229
                              replace k := zk_t rfl k
                              replace h := Option.some.inj h
                              replace k := Option.some.inj k
                              subst h
                              subst k
                              try dsimp only
                              all_goals first
                              | (exfalso; omega)
                              | exact ⟨rfl, rfl, fun e => by first | exact e | rw [e]⟩
                              | exact ⟨rfl, rfl, fun e => by rw [e]; rfl⟩
                          · have mh229 := zk_f mc230 mh229
                            have mc230n := mc230
                            (try simp only [i32_lt, i32_le, i32_e, z32_0, z32_1] at mc230n)
                            first
                            | (exfalso; omega)
                            | by_cases mc231 : (3 : Int32) < x2
                              · have mh229 := zk_t mc231 mh229
                                have mc231n := mc231
                                (try simp only [i32_lt, i32_le, i32_e, z32_0, z32_1, z32L_3] at mc231n)
                                first
                                | (exfalso; omega)
                                | simp only [Option.some.injEq, Prod.mk.injEq] at mh229
                                  obtain ⟨rfl, _⟩ := mh229
                                  replace k := zk_t rfl k
                                  replace h := Option.some.inj h
                                  replace k := Option.some.inj k
                                  subst h
                                  subst k
                                  try dsimp only
                                  all_goals first
                                  | (exfalso; omega)
                                  | exact ⟨rfl, rfl, fun e => by first | exact e | rw [e]⟩
                                  | exact ⟨rfl, rfl, fun e => by rw [e]; rfl⟩
                              · have mh229 := zk_f mc231 mh229
                                have mc231n := mc231
                                (try simp only [i32_lt, i32_le, i32_e, z32_0, z32_1, z32L_3] at mc231n)
                                first
                                | (exfalso; omega)
                                | simp only [Option.some.injEq, Prod.mk.injEq] at mh229
                                  obtain ⟨rfl, _⟩ := mh229
                                  replace k := zk_f (by decide) k
                                  replace k := zk_f cc15 k
                                  replace k := zk_f cc34 k
                                  replace k := zk_f cc71 k
                                  replace k := zk_o3 k
                                  obtain ⟨mv232, mv233, mv234, mh235, k⟩ := k
                                  unfold f_X12_tells at mh235
                                  unfold B_X12_tells_0 at mh235
                                  obtain ⟨mv236, mv237, mh238, mh235⟩ := zk_o2 mh235
                                  obtain mq239 := bk12_e (hB12 hi) mh238
                                  replace mq239 := mq239.symm
                                  subst mq239
                                  have mh235 := zk_f (by decide) mh235
                                  obtain ⟨mv240, mv241, mv242, mh243, mh235⟩ := zk_o3 mh235
                                  unfold f_X12_plainTells at mh243
                                  unfold B_X12_plainTells_0 at mh243
                                  obtain ⟨mv244, mv245, mh246, mh243⟩ := zk_o2 mh243
                                  unfold f_X12_ran at mh246
                                  unfold B_X12_ran_0 at mh246
                                  have mh246 := zk_f (by decide) mh246
                                  obtain ⟨_, mh246⟩ := zk_gd mh246
                                  obtain ⟨mv247, me248, mh246⟩ := zk_lt mh246
                                  subst me248
                                  unfold B_X12_ran_19 at mh246
                                  obtain ⟨mv249, me250, mh246⟩ := zk_lt mh246
                                  subst me250
                                  simp only [Option.some.injEq, Prod.mk.injEq] at mh246
                                  obtain ⟨rfl, rfl⟩ := mh246
                                  obtain ⟨mv251, mv252, mv253, mh254, mh243⟩ := zk_o3 mh243
                                  unfold f_X12_settles at mh254
                                  unfold B_X12_settles_0 at mh254
                                  obtain ⟨mv255, mv256, mh257, mh254⟩ := zk_o2 mh254
                                  obtain mq258 := bk12_e (hB12 hi) mh257
                                  replace mq258 := mq258.symm
                                  subst mq258
                                  have mh254 := zk_f (by decide) mh254
                                  have mh254 := zk_f (by decide) mh254
                                  have mh254 := zk_f (by decide) mh254
                                  obtain ⟨mv259, mv260, mv261, mh262, mh254⟩ := zk_o3 mh254
                                  unfold f_X12_plainSettles at mh262
                                  unfold B_X12_plainSettles_0 at mh262
                                  obtain ⟨mv263, mv264, mh265, mh262⟩ := zk_o2 mh262
                                  unfold f_X12_ran at mh265
                                  unfold B_X12_ran_0 at mh265
                                  have mh265 := zk_f (by decide) mh265
                                  obtain ⟨_, mh265⟩ := zk_gd mh265
                                  obtain ⟨mv266, me267, mh265⟩ := zk_lt mh265
                                  subst me267
                                  unfold B_X12_ran_19 at mh265
                                  obtain ⟨mv268, me269, mh265⟩ := zk_lt mh265
                                  subst me269
                                  simp only [Option.some.injEq, Prod.mk.injEq] at mh265
                                  obtain ⟨rfl, rfl⟩ := mh265
                                  obtain ⟨mv270, mv271, mv272, mh273, mh262⟩ := zk_o3 mh262
                                  unfold f_X12_closes at mh273
                                  unfold B_X12_closes_0 at mh273
                                  rw [ea] at mh273
                                  obtain ⟨mv274, mv275, mh276, mh273⟩ := zk_o2 mh273
                                  obtain mq277 := bk12_e (hB12 hi) mh276
                                  replace mq277 := mq277.symm
                                  subst mq277
                                  have mh273 := zk_f (by decide) mh273
                                  have mh273 := zk_f (by decide) mh273
                                  have mh273 := zk_f (by decide) mh273
                                  have mh273 := zk_f (by decide) mh273
                                  obtain ⟨mv278, mv279, mv280, mh281, mh273⟩ := zk_o3 mh273
                                  unfold f_X12_plainCloses at mh281
                                  unfold B_X12_plainCloses_0 at mh281
                                  obtain ⟨mv282, mv283, mh284, mh281⟩ := zk_o2 mh281
                                  unfold f_X12_ran at mh284
                                  unfold B_X12_ran_0 at mh284
                                  have mh284 := zk_f (by decide) mh284
                                  obtain ⟨_, mh284⟩ := zk_gd mh284
                                  obtain ⟨mv285, me286, mh284⟩ := zk_lt mh284
                                  subst me286
                                  unfold B_X12_ran_19 at mh284
                                  obtain ⟨mv287, me288, mh284⟩ := zk_lt mh284
                                  subst me288
                                  simp only [Option.some.injEq, Prod.mk.injEq] at mh284
                                  obtain ⟨rfl, rfl⟩ := mh284
                                  simp only [Option.some.injEq, Prod.mk.injEq] at mh281
                                  obtain ⟨rfl, rfl, rfl⟩ := mh281
                                  simp only [Option.some.injEq, Prod.mk.injEq] at mh273
                                  obtain ⟨rfl, rfl, rfl⟩ := mh273
                                  simp only [Option.some.injEq, Prod.mk.injEq] at mh262
                                  obtain ⟨rfl, rfl, rfl⟩ := mh262
                                  simp only [Option.some.injEq, Prod.mk.injEq] at mh254
                                  obtain ⟨rfl, rfl, rfl⟩ := mh254
                                  obtain ⟨mv289, mv290, mv291, mh292, mh243⟩ := zk_o3 mh243
                                  unfold f_X12_binds at mh292
                                  unfold B_X12_binds_0 at mh292
                                  obtain ⟨mv293, mv294, mh295, mh292⟩ := zk_o2 mh292
                                  obtain mq296 := bk12_e (hB12 hi) mh295
                                  replace mq296 := mq296.symm
                                  subst mq296
                                  obtain ⟨mv297, mv298, mh299, mh292⟩ := zk_o2 mh292
                                  unfold f_X12_isUnder at mh299
                                  unfold B_X12_isUnder_0 at mh299
                                  have mh299 := zk_f (by decide) mh299
                                  have mh299 := zk_t rfl mh299
                                  unfold B_X12_isUnder_40 at mh299
                                  simp only [Option.some.injEq, Prod.mk.injEq] at mh299
                                  obtain ⟨rfl, _⟩ := mh299
                                  have mh292 := zk_f (by decide) mh292
                                  obtain ⟨mv300, mv301, mh302, mh292⟩ := zk_o2 mh292
                                  unfold f_X12_ran at mh302
                                  unfold B_X12_ran_0 at mh302
                                  have mh302 := zk_f (by decide) mh302
                                  obtain ⟨_, mh302⟩ := zk_gd mh302
                                  obtain ⟨mv303, me304, mh302⟩ := zk_lt mh302
                                  subst me304
                                  unfold B_X12_ran_19 at mh302
                                  obtain ⟨mv305, me306, mh302⟩ := zk_lt mh302
                                  subst me306
                                  simp only [Option.some.injEq, Prod.mk.injEq] at mh302
                                  obtain ⟨rfl, rfl⟩ := mh302
                                  obtain ⟨mv307, mv308, mv309, mh310, mh292⟩ := zk_o3 mh292
                                  unfold f_X12_plainBinds at mh310
                                  unfold B_X12_plainBinds_0 at mh310
                                  obtain ⟨mv311, mv312, mh313, mh310⟩ := zk_o2 mh310
                                  unfold f_X12_ran at mh313
                                  unfold B_X12_ran_0 at mh313
                                  have mh313 := zk_f (by decide) mh313
                                  obtain ⟨_, mh313⟩ := zk_gd mh313
                                  obtain ⟨mv314, me315, mh313⟩ := zk_lt mh313
                                  subst me315
                                  unfold B_X12_ran_19 at mh313
                                  obtain ⟨mv316, me317, mh313⟩ := zk_lt mh313
                                  subst me317
                                  simp only [Option.some.injEq, Prod.mk.injEq] at mh313
                                  obtain ⟨rfl, rfl⟩ := mh313
                                  simp only [Option.some.injEq, Prod.mk.injEq] at mh310
                                  obtain ⟨rfl, rfl, rfl⟩ := mh310
                                  simp only [Option.some.injEq, Prod.mk.injEq] at mh292
                                  obtain ⟨rfl, rfl, rfl⟩ := mh292
                                  simp only [Option.some.injEq, Prod.mk.injEq] at mh243
                                  obtain ⟨rfl, rfl, rfl⟩ := mh243
                                  simp only [Option.some.injEq, Prod.mk.injEq] at mh235
                                  obtain ⟨rfl, rfl, rfl⟩ := mh235
                                  replace h := Option.some.inj h
                                  replace k := Option.some.inj k
                                  subst h
                                  subst k
                                  try dsimp only
                                  all_goals first
                                  | (exfalso; omega)
                                  | exact ⟨rfl, rfl, fun e => by first | exact e | rw [e]⟩
                                  | exact ⟨rfl, rfl, fun e => by rw [e]; rfl⟩
