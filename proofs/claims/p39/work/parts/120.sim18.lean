
set_option maxHeartbeats 4000000 in
set_option maxRecDepth 20000 in
theorem pw_act1 {mod_code : Int32} {court_shoeCount : Int32} {mod_claims : Int32} {ts : Int32} {at_ : Int32} {f : Int32} {court_suitCount : Int32} {mod_doneMany : Int32} {mod_undoneMany : Int32} {mod_open : Int32} {mod_laid : Int32} {mod_isBoth : Int32} {mod_wished : Int32} {mod_bestMany : Int32} {mod_bestRow : Int32} {mod_ringDigits : Int32} {mod_traces : Int32} {mod_askedMany : Nat → Int32} {mod_endKind : Nat → Int32} {mod_undoneFrom : Nat → Int32} {mod_traced : Nat → Int32} {court_claimCount : Int32} {court_suits : Nat → Option Nat} {S_who : Nat → Int32} {S_against : Nat → Int32} {S_kind : Nat → Int32} {S_won : Nat → Int32} {S_day : Nat → Int32} {S_land : Nat → Int32} {S_undoneFrom : Nat → Int32} {S_asked : Nat → Nat → Int32} {S_askedCount : Nat → Int32} {S_askedBits : Nat → Int32} {S_first : Nat → Int32} {S_foundSo : Nat → Int32} {S_foundNot : Nat → Int32} {S_fought : Nat → Int32} {S_needed : Nat → Int32} {acts_ran : Int32} {acts_kind : Int32} {acts_number : Int32} {acts_claims : Int32} {acts_bodies : Nat → Int32} {x1 x2 x3 : Int32} {R : Int32 × Int32 × Int32 × Int32 × Int32 × (Nat → Int32)} {Q : Int32 × Int32 × (Nat → Int32)} (hn : 0 ≤ court_suitCount.toInt ∧ court_suitCount.toInt ≤ 40) (hA : WU court_suitCount S_askedCount mod_askedMany) (hB8 : ((S_undoneFrom x1.toNatClampNeg).toInt < 0 ∧ S_kind x1.toNatClampNeg = (1 : Int32)) ∨ (0 ≤ (S_undoneFrom x1.toNatClampNeg).toInt ∧ (1 : Int32) = 5)) (hB12 : x1.toNatClampNeg < court_suitCount.toInt.toNat → ((mod_undoneFrom x1.toNatClampNeg).toInt < 0 ∧ mod_endKind x1.toNatClampNeg = (1 : Int32)) ∨ (0 ≤ (mod_undoneFrom x1.toNatClampNeg).toInt ∧ (1 : Int32) = 5)) (h : f_X11_act x1 x2 x3 court_shoeCount court_claimCount court_suitCount court_suits acts_ran acts_kind acts_number acts_claims acts_bodies S_who S_against S_kind S_won S_day S_land S_undoneFrom S_asked S_askedCount S_askedBits S_first S_foundSo S_foundNot S_fought S_needed = some R) (k : f_X12_act x1 x2 x3 mod_code court_shoeCount mod_claims ts at_ f court_suitCount mod_doneMany mod_undoneMany mod_open mod_laid mod_isBoth mod_wished mod_bestMany mod_bestRow mod_ringDigits mod_traces mod_endKind mod_undoneFrom mod_askedMany mod_traced = some Q) : R.1 = Q.1 ∧ R.2.1 = Q.2.1 ∧ (acts_bodies = mod_traced → R.2.2.2.2.2 = Q.2.2) := by
  have hn1 := i32_m1 (a := court_suitCount) (by omega)
  unfold f_X11_act at h
  unfold f_X12_act at k
  unfold B_X11_act_0 at h
  replace h := zk_o2 h
  obtain ⟨cv1, cv2, ch3, h⟩ := h
  unfold f_X2_suitAt at ch3
  unfold B_X2_suitAt_0 at ch3
  by_cases cc4 : x1 < 0
  · have ch3 := zk_t cc4 ch3
    have cc4n := cc4
    (try simp only [i32_lt, i32_le, i32_e, z32_0, z32_1] at cc4n)
    first
    | (exfalso; omega)
    | simp only [Option.some.injEq, Prod.mk.injEq] at ch3
      obtain ⟨rfl, _⟩ := ch3
      replace h := zk_t (by decide) h
      unfold B_X12_act_0 at k
      replace k := zk_o2 k
      obtain ⟨mv1, mv2, mh3, k⟩ := k
      unfold f_X12_isSuit at mh3
      unfold B_X12_isSuit_0 at mh3
      obtain ⟨mv4, mv5, mh6, mh3⟩ := zk_o2 mh3
      unfold f_X12_in at mh6
      unfold B_X12_in_0 at mh6
      have mh6 := zk_t cc4 mh6
      simp only [Option.some.injEq, Prod.mk.injEq] at mh6
      obtain ⟨rfl, _⟩ := mh6
      obtain ⟨_, mh3⟩ := zk_gd mh3
      simp only [Option.some.injEq, Prod.mk.injEq] at mh3
      obtain ⟨rfl, _⟩ := mh3
      replace k := zk_t rfl k
      replace h := Option.some.inj h
      replace k := Option.some.inj k
      subst h
      subst k
      try dsimp only
      all_goals first
      | (exfalso; omega)
      | exact ⟨rfl, rfl, fun e => by first | exact e | rw [e]⟩
      | exact ⟨rfl, rfl, fun e => by rw [e]; rfl⟩
  · have ch3 := zk_f cc4 ch3
    have cc4n := cc4
    (try simp only [i32_lt, i32_le, i32_e, z32_0, z32_1] at cc4n)
    first
    | (exfalso; omega)
    | by_cases cc5 : court_suitCount ≤ x1
      · have ch3 := zk_t cc5 ch3
        have cc5n := cc5
        (try simp only [i32_lt, i32_le, i32_e, z32_0, z32_1] at cc5n)
        first
        | (exfalso; omega)
        | simp only [Option.some.injEq, Prod.mk.injEq] at ch3
          obtain ⟨rfl, _⟩ := ch3
          replace h := zk_t (by decide) h
          unfold B_X12_act_0 at k
          replace k := zk_o2 k
          obtain ⟨mv7, mv8, mh9, k⟩ := k
          unfold f_X12_isSuit at mh9
          unfold B_X12_isSuit_0 at mh9
          obtain ⟨mv10, mv11, mh12, mh9⟩ := zk_o2 mh9
          unfold f_X12_in at mh12
          unfold B_X12_in_0 at mh12
          have mh12 := zk_f cc4 mh12
          have mh12 := zk_t (by (try simp only [i32_lt, i32_le, i32_e, z32_0, z32_1]); omega) mh12
          simp only [Option.some.injEq, Prod.mk.injEq] at mh12
          obtain ⟨rfl, _⟩ := mh12
          obtain ⟨_, mh9⟩ := zk_gd mh9
          simp only [Option.some.injEq, Prod.mk.injEq] at mh9
          obtain ⟨rfl, _⟩ := mh9
          replace k := zk_t rfl k
          replace h := Option.some.inj h
          replace k := Option.some.inj k
          subst h
          subst k
          try dsimp only
          all_goals first
          | (exfalso; omega)
          | exact ⟨rfl, rfl, fun e => by first | exact e | rw [e]⟩
          | exact ⟨rfl, rfl, fun e => by rw [e]; rfl⟩
      · have ch3 := zk_f cc5 ch3
        have cc5n := cc5
        (try simp only [i32_lt, i32_le, i32_e, z32_0, z32_1] at cc5n)
        first
        | (exfalso; omega)
        | obtain ⟨_, ch3⟩ := zk_gd ch3
          obtain ⟨_, ch3⟩ := zk_gd ch3
          obtain ⟨_, ch3⟩ := zk_gd ch3
          simp only [Option.some.injEq, Prod.mk.injEq] at ch3
          obtain ⟨rfl, _⟩ := ch3
          replace h := zk_f cc4 h
          replace h := zk_gd h
          obtain ⟨_, h⟩ := h
          replace h := zk_o2 h
          obtain ⟨cv6, cv7, ch8, h⟩ := h
          obtain cq9 := bk8_e hB8 ch8
          replace cq9 := cq9.symm
          subst cq9
          replace h := zk_gd h
          obtain ⟨_, h⟩ := h
          replace h := zk_o4 h
          obtain ⟨cv10, cv11, cv12, cv13, ch14, h⟩ := h
          unfold f_X0_begin at ch14
          unfold B_X0_begin_0 at ch14
          simp only [Option.some.injEq, Prod.mk.injEq] at ch14
          obtain ⟨rfl, rfl, rfl, rfl⟩ := ch14
          by_cases cc15 : x2 = (0 : Int32)
          · replace h := zk_t cc15 h
            have cc15n := cc15
            (try simp only [i32_lt, i32_le, i32_e, z32_0, z32_1] at cc15n)
            first
            | (exfalso; omega)
            | obtain ⟨cv16, cv17, cv18, ch19, h⟩ := zk_o3 h
              have ch19 : f_X0_closes (grp_grp138 6) (1 : Int32) x3 (0 : Int32) (1 : Int32) x1 (S_askedCount x1.toNatClampNeg) acts_bodies = some (cv16, cv17, cv18) := ch19
              unfold f_X0_closes at ch19
              unfold B_X0_closes_0 at ch19
              have ch19 := zk_t rfl ch19
              obtain ⟨cv20, cv21, ch22, ch19⟩ := zk_o2 ch19
              unfold f_X0_above at ch22
              unfold B_X0_above_0 at ch22
              have ch22 := zk_f (by decide) ch22
              have ch22 := zk_f (by decide) ch22
              have ch22 := zk_f (by decide) ch22
              simp only [Option.some.injEq, Prod.mk.injEq] at ch22
              obtain ⟨rfl, _⟩ := ch22
              obtain ⟨cv23, cv24, cv25, ch26, ch19⟩ := zk_o3 ch19
              have ch26 : f_X0_closes (grp_grp138 5) (0 : Int32) x3 (0 : Int32) (1 : Int32) x1 (S_askedCount x1.toNatClampNeg) acts_bodies = some (cv23, cv24, cv25) := ch26
              unfold f_X0_closes at ch26
              unfold B_X0_closes_0 at ch26
              have ch26 := zk_f (by decide) ch26
              have ch26 := zk_f (by decide) ch26
              have ch26 := zk_f (by decide) ch26
              have ch26 := zk_f (by decide) ch26
              have ch26 := zk_f (by decide) ch26
              have ch26 := zk_f (by decide) ch26
              obtain ⟨cv27, cv28, ch29, ch26⟩ := zk_o2 ch26
              unfold f_X0_note at ch29
              unfold B_X0_note_0 at ch29
              have ch29 := zk_f (by decide) ch29
              obtain ⟨_, ch29⟩ := zk_gd ch29
              obtain ⟨cv30, ce31, ch29⟩ := zk_lt ch29
              subst ce31
              unfold B_X0_note_19 at ch29
              obtain ⟨cv32, ce33, ch29⟩ := zk_lt ch29
              subst ce33
              simp only [Option.some.injEq, Prod.mk.injEq] at ch29
              obtain ⟨rfl, rfl⟩ := ch29
              simp only [Option.some.injEq, Prod.mk.injEq] at ch26
              obtain ⟨rfl, rfl, rfl⟩ := ch26
              simp only [Option.some.injEq, Prod.mk.injEq] at ch19
              obtain ⟨rfl, rfl, rfl⟩ := ch19
              have hi : x1.toNatClampNeg < court_suitCount.toInt.toNat := by rw [tcn]; omega
              have ea : mod_askedMany x1.toNatClampNeg = S_askedCount x1.toNatClampNeg := (hA _ hi).symm
              unfold B_X12_act_0 at k
              replace k := zk_o2 k
              obtain ⟨mv13, mv14, mh15, k⟩ := k
              unfold f_X12_isSuit at mh15
              unfold B_X12_isSuit_0 at mh15
              obtain ⟨mv16, mv17, mh18, mh15⟩ := zk_o2 mh15
              unfold f_X12_in at mh18
              unfold B_X12_in_0 at mh18
              have mh18 := zk_f cc4 mh18
              have mh18 := zk_f (by (try simp only [i32_lt, i32_le, i32_e, z32_0, z32_1]); omega) mh18
              simp only [Option.some.injEq, Prod.mk.injEq] at mh18
              obtain ⟨rfl, _⟩ := mh18
              obtain ⟨_, mh15⟩ := zk_gd mh15
              simp only [Option.some.injEq, Prod.mk.injEq] at mh15
              obtain ⟨rfl, _⟩ := mh15
              replace k := zk_f (by decide) k
              replace k := zk_o2 k
              obtain ⟨mv19, mv20, mh21, k⟩ := k
              unfold f_X12_in at mh21
              unfold B_X12_in_0 at mh21
              have mh21 := zk_f (by (try simp only [i32_lt, i32_le, i32_e, z32_0, z32_1]); omega) mh21
              have mh21 := zk_f (by (try simp only [i32_lt, i32_le, i32_e, z32_0, z32_1, z32L_3]); omega) mh21
              simp only [Option.some.injEq, Prod.mk.injEq] at mh21
              obtain ⟨rfl, _⟩ := mh21
              replace k := zk_f (by decide) k
              replace k := zk_t cc15 k
              replace k := zk_o3 k
              obtain ⟨mv22, mv23, mv24, mh25, k⟩ := k
              unfold f_X12_closes at mh25
              unfold B_X12_closes_0 at mh25
              rw [ea] at mh25
              obtain ⟨mv26, mv27, mh28, mh25⟩ := zk_o2 mh25
              obtain mq29 := bk12_e (hB12 hi) mh28
              replace mq29 := mq29.symm
              subst mq29
              have mh25 := zk_f (by decide) mh25
              have mh25 := zk_f (by decide) mh25
              have mh25 := zk_f (by decide) mh25
              have mh25 := zk_f (by decide) mh25
              obtain ⟨mv30, mv31, mv32, mh33, mh25⟩ := zk_o3 mh25
              unfold f_X12_plainCloses at mh33
              unfold B_X12_plainCloses_0 at mh33
              obtain ⟨mv34, mv35, mh36, mh33⟩ := zk_o2 mh33
              unfold f_X12_ran at mh36
              unfold B_X12_ran_0 at mh36
              have mh36 := zk_f (by decide) mh36
              obtain ⟨_, mh36⟩ := zk_gd mh36
              obtain ⟨mv37, me38, mh36⟩ := zk_lt mh36
              subst me38
              unfold B_X12_ran_19 at mh36
              obtain ⟨mv39, me40, mh36⟩ := zk_lt mh36
              subst me40
              simp only [Option.some.injEq, Prod.mk.injEq] at mh36
              obtain ⟨rfl, rfl⟩ := mh36
              simp only [Option.some.injEq, Prod.mk.injEq] at mh33
              obtain ⟨rfl, rfl, rfl⟩ := mh33
              simp only [Option.some.injEq, Prod.mk.injEq] at mh25
              obtain ⟨rfl, rfl, rfl⟩ := mh25
              replace h := Option.some.inj h
              replace k := Option.some.inj k
              subst h
              subst k
              try dsimp only
              all_goals first
              | (exfalso; omega)
              | exact ⟨rfl, rfl, fun e => by first | exact e | rw [e]⟩
              | exact ⟨rfl, rfl, fun e => by rw [e]; rfl⟩
          · replace h := zk_f cc15 h
            have cc15n := cc15
            (try simp only [i32_lt, i32_le, i32_e, z32_0, z32_1] at cc15n)
            first
            | (exfalso; omega)
            | by_cases cc34 : x2 = (1 : Int32)
              · replace h := zk_t cc34 h
                have cc34n := cc34
                (try simp only [i32_lt, i32_le, i32_e, z32_0, z32_1] at cc34n)
                first
                | (exfalso; omega)
                | obtain ⟨cv35, cv36, cv37, ch38, h⟩ := zk_o3 h
                  have ch38 : f_X0_settles (grp_grp140 6) (1 : Int32) x3 (0 : Int32) (1 : Int32) x1 (S_askedCount x1.toNatClampNeg) acts_bodies = some (cv35, cv36, cv37) := ch38
                  unfold f_X0_settles at ch38
                  unfold B_X0_settles_0 at ch38
                  have ch38 := zk_t rfl ch38
                  obtain ⟨cv39, cv40, ch41, ch38⟩ := zk_o2 ch38
                  unfold f_X0_note at ch41
                  unfold B_X0_note_0 at ch41
                  have ch41 := zk_f (by decide) ch41
                  obtain ⟨_, ch41⟩ := zk_gd ch41
                  obtain ⟨cv42, ce43, ch41⟩ := zk_lt ch41
                  subst ce43
                  unfold B_X0_note_19 at ch41
                  obtain ⟨cv44, ce45, ch41⟩ := zk_lt ch41
                  subst ce45
                  simp only [Option.some.injEq, Prod.mk.injEq] at ch41
                  obtain ⟨rfl, rfl⟩ := ch41
                  obtain ⟨cv46, cv47, ch48, ch38⟩ := zk_o2 ch38
                  unfold f_X0_above at ch48
                  unfold B_X0_above_0 at ch48
                  have ch48 := zk_f (by decide) ch48
                  have ch48 := zk_f (by decide) ch48
                  have ch48 := zk_f (by decide) ch48
                  simp only [Option.some.injEq, Prod.mk.injEq] at ch48
                  obtain ⟨rfl, _⟩ := ch48
                  obtain ⟨cv49, cv50, cv51, ch52, ch38⟩ := zk_o3 ch38
                  have ch52 : f_X0_settles (grp_grp140 5) (0 : Int32) x3 ((0 : Int32) + (1 : Int32)) (1 : Int32) x1 (S_askedCount x1.toNatClampNeg) (upd acts_bodies (0 : Int32).toNatClampNeg (20 : Int32)) = some (cv49, cv50, cv51) := ch52
                  unfold f_X0_settles at ch52
                  unfold B_X0_settles_0 at ch52
                  have ch52 := zk_f (by decide) ch52
                  have ch52 := zk_f (by decide) ch52
                  have ch52 := zk_f (by decide) ch52
                  have ch52 := zk_f (by decide) ch52
                  have ch52 := zk_f (by decide) ch52
                  have ch52 := zk_f (by decide) ch52
                  obtain ⟨cv53, cv54, ch55, ch52⟩ := zk_o2 ch52
                  unfold f_X0_note at ch55
                  unfold B_X0_note_0 at ch55
                  have ch55 := zk_f (by decide) ch55
                  obtain ⟨_, ch55⟩ := zk_gd ch55
                  obtain ⟨cv56, ce57, ch55⟩ := zk_lt ch55
                  subst ce57
                  unfold B_X0_note_19 at ch55
                  obtain ⟨cv58, ce59, ch55⟩ := zk_lt ch55
                  subst ce59
                  simp only [Option.some.injEq, Prod.mk.injEq] at ch55
                  obtain ⟨rfl, rfl⟩ := ch55
                  obtain ⟨cv60, cv61, cv62, ch63, ch52⟩ := zk_o3 ch52
                  have ch63 : f_X0_closes (grp_grp138 6) (1 : Int32) x3 (((0 : Int32) + (1 : Int32)) + (1 : Int32)) (1 : Int32) x1 (S_askedCount x1.toNatClampNeg) (upd (upd acts_bodies (0 : Int32).toNatClampNeg (20 : Int32)) ((0 : Int32) + (1 : Int32)).toNatClampNeg (10 : Int32)) = some (cv60, cv61, cv62) := ch63
                  unfold f_X0_closes at ch63
                  unfold B_X0_closes_0 at ch63
                  have ch63 := zk_t rfl ch63
                  obtain ⟨cv64, cv65, ch66, ch63⟩ := zk_o2 ch63
                  unfold f_X0_above at ch66
                  unfold B_X0_above_0 at ch66
                  have ch66 := zk_f (by decide) ch66
                  have ch66 := zk_f (by decide) ch66
                  have ch66 := zk_f (by decide) ch66
                  simp only [Option.some.injEq, Prod.mk.injEq] at ch66
                  obtain ⟨rfl, _⟩ := ch66
                  obtain ⟨cv67, cv68, cv69, ch70, ch63⟩ := zk_o3 ch63
                  have ch70 : f_X0_closes (grp_grp138 5) (0 : Int32) x3 (((0 : Int32) + (1 : Int32)) + (1 : Int32)) (1 : Int32) x1 (S_askedCount x1.toNatClampNeg) (upd (upd acts_bodies (0 : Int32).toNatClampNeg (20 : Int32)) ((0 : Int32) + (1 : Int32)).toNatClampNeg (10 : Int32)) = some (cv67, cv68, cv69) := ch70
                  unfold f_X0_closes at ch70
                  unfold B_X0_closes_0 at ch70
                  have ch70 := zk_f (by decide) ch70
                  have ch70 := zk_f (by decide) ch70
                  have ch70 := zk_f (by decide) ch70
                  have ch70 := zk_f (by decide) ch70
                  have ch70 := zk_f (by decide) ch70
                  have ch70 := zk_f (by decide) ch70
                  obtain ⟨cv71, cv72, ch73, ch70⟩ := zk_o2 ch70
                  unfold f_X0_note at ch73
                  unfold B_X0_note_0 at ch73
                  have ch73 := zk_f (by decide) ch73
                  obtain ⟨_, ch73⟩ := zk_gd ch73
                  obtain ⟨cv74, ce75, ch73⟩ := zk_lt ch73
                  subst ce75
                  unfold B_X0_note_19 at ch73
                  obtain ⟨cv76, ce77, ch73⟩ := zk_lt ch73
                  subst ce77
                  simp only [Option.some.injEq, Prod.mk.injEq] at ch73
                  obtain ⟨rfl, rfl⟩ := ch73
                  simp only [Option.some.injEq, Prod.mk.injEq] at ch70
                  obtain ⟨rfl, rfl, rfl⟩ := ch70
                  simp only [Option.some.injEq, Prod.mk.injEq] at ch63
                  obtain ⟨rfl, rfl, rfl⟩ := ch63
                  simp only [Option.some.injEq, Prod.mk.injEq] at ch52
                  obtain ⟨rfl, rfl, rfl⟩ := ch52
                  simp only [Option.some.injEq, Prod.mk.injEq] at ch38
                  obtain ⟨rfl, rfl, rfl⟩ := ch38
                  have hi : x1.toNatClampNeg < court_suitCount.toInt.toNat := by rw [tcn]; omega
                  have ea : mod_askedMany x1.toNatClampNeg = S_askedCount x1.toNatClampNeg := (hA _ hi).symm
                  unfold B_X12_act_0 at k
                  replace k := zk_o2 k
                  obtain ⟨mv41, mv42, mh43, k⟩ := k
                  unfold f_X12_isSuit at mh43
                  unfold B_X12_isSuit_0 at mh43
                  obtain ⟨mv44, mv45, mh46, mh43⟩ := zk_o2 mh43
                  unfold f_X12_in at mh46
                  unfold B_X12_in_0 at mh46
                  have mh46 := zk_f cc4 mh46
                  have mh46 := zk_f (by (try simp only [i32_lt, i32_le, i32_e, z32_0, z32_1]); omega) mh46
                  simp only [Option.some.injEq, Prod.mk.injEq] at mh46
                  obtain ⟨rfl, _⟩ := mh46
                  obtain ⟨_, mh43⟩ := zk_gd mh43
                  simp only [Option.some.injEq, Prod.mk.injEq] at mh43
                  obtain ⟨rfl, _⟩ := mh43
                  replace k := zk_f (by decide) k
                  replace k := zk_o2 k
                  obtain ⟨mv47, mv48, mh49, k⟩ := k
                  unfold f_X12_in at mh49
                  unfold B_X12_in_0 at mh49
                  have mh49 := zk_f (by (try simp only [i32_lt, i32_le, i32_e, z32_0, z32_1]); omega) mh49
                  have mh49 := zk_f (by (try simp only [i32_lt, i32_le, i32_e, z32_0, z32_1, z32L_3]); omega) mh49
                  simp only [Option.some.injEq, Prod.mk.injEq] at mh49
                  obtain ⟨rfl, _⟩ := mh49
                  replace k := zk_f (by decide) k
                  replace k := zk_f cc15 k
                  replace k := zk_t cc34 k
                  replace k := zk_o3 k
                  obtain ⟨mv50, mv51, mv52, mh53, k⟩ := k
                  unfold f_X12_settles at mh53
                  unfold B_X12_settles_0 at mh53
                  obtain ⟨mv54, mv55, mh56, mh53⟩ := zk_o2 mh53
                  obtain mq57 := bk12_e (hB12 hi) mh56
                  replace mq57 := mq57.symm
                  subst mq57
                  have mh53 := zk_f (by decide) mh53
                  have mh53 := zk_f (by decide) mh53
                  have mh53 := zk_t rfl mh53
                  obtain ⟨mv58, mv59, mv60, mh61, mh53⟩ := zk_o3 mh53
                  unfold f_X12_meritsSettles at mh61
                  unfold B_X12_meritsSettles_0 at mh61
                  rw [ea] at mh61
                  obtain ⟨mv62, mv63, mh64, mh61⟩ := zk_o2 mh61
                  unfold f_X12_ran at mh64
                  unfold B_X12_ran_0 at mh64
                  have mh64 := zk_f (by decide) mh64
                  obtain ⟨_, mh64⟩ := zk_gd mh64
                  obtain ⟨mv65, me66, mh64⟩ := zk_lt mh64
                  subst me66
                  unfold B_X12_ran_19 at mh64
                  obtain ⟨mv67, me68, mh64⟩ := zk_lt mh64
                  subst me68
                  simp only [Option.some.injEq, Prod.mk.injEq] at mh64
                  obtain ⟨rfl, rfl⟩ := mh64
                  obtain ⟨mv69, mv70, mv71, mh72, mh61⟩ := zk_o3 mh61
                  unfold f_X12_plainSettles at mh72
                  unfold B_X12_plainSettles_0 at mh72
                  obtain ⟨mv73, mv74, mh75, mh72⟩ := zk_o2 mh72
                  unfold f_X12_ran at mh75
                  unfold B_X12_ran_0 at mh75
                  have mh75 := zk_f (by decide) mh75
                  obtain ⟨_, mh75⟩ := zk_gd mh75
                  obtain ⟨mv76, me77, mh75⟩ := zk_lt mh75
                  subst me77
                  unfold B_X12_ran_19 at mh75
                  obtain ⟨mv78, me79, mh75⟩ := zk_lt mh75
                  subst me79
                  simp only [Option.some.injEq, Prod.mk.injEq] at mh75
                  obtain ⟨rfl, rfl⟩ := mh75
                  obtain ⟨mv80, mv81, mv82, mh83, mh72⟩ := zk_o3 mh72
                  unfold f_X12_closes at mh83
                  unfold B_X12_closes_0 at mh83
                  rw [ea] at mh83
                  obtain ⟨mv84, mv85, mh86, mh83⟩ := zk_o2 mh83
                  obtain mq87 := bk12_e (hB12 hi) mh86
                  replace mq87 := mq87.symm
                  subst mq87
                  have mh83 := zk_f (by decide) mh83
                  have mh83 := zk_f (by decide) mh83
                  have mh83 := zk_f (by decide) mh83
                  have mh83 := zk_f (by decide) mh83
                  obtain ⟨mv88, mv89, mv90, mh91, mh83⟩ := zk_o3 mh83
                  unfold f_X12_plainCloses at mh91
                  unfold B_X12_plainCloses_0 at mh91
                  obtain ⟨mv92, mv93, mh94, mh91⟩ := zk_o2 mh91
                  unfold f_X12_ran at mh94
                  unfold B_X12_ran_0 at mh94
                  have mh94 := zk_f (by decide) mh94
                  obtain ⟨_, mh94⟩ := zk_gd mh94
                  obtain ⟨mv95, me96, mh94⟩ := zk_lt mh94
                  subst me96
                  unfold B_X12_ran_19 at mh94
                  obtain ⟨mv97, me98, mh94⟩ := zk_lt mh94
                  subst me98
                  simp only [Option.some.injEq, Prod.mk.injEq] at mh94
                  obtain ⟨rfl, rfl⟩ := mh94
                  simp only [Option.some.injEq, Prod.mk.injEq] at mh91
                  obtain ⟨rfl, rfl, rfl⟩ := mh91
                  simp only [Option.some.injEq, Prod.mk.injEq] at mh83
                  obtain ⟨rfl, rfl, rfl⟩ := mh83
                  simp only [Option.some.injEq, Prod.mk.injEq] at mh72
                  obtain ⟨rfl, rfl, rfl⟩ := mh72
                  obtain ⟨_, mh61⟩ := zk_gd mh61
                  simp only [Option.some.injEq, Prod.mk.injEq] at mh61
                  obtain ⟨rfl, rfl, rfl⟩ := mh61
                  simp only [Option.some.injEq, Prod.mk.injEq] at mh53
                  obtain ⟨rfl, rfl, rfl⟩ := mh53
                  replace h := Option.some.inj h
                  replace k := Option.some.inj k
                  subst h
                  subst k
                  try dsimp only
                  all_goals first
                  | (exfalso; omega)
                  | exact ⟨rfl, rfl, fun e => by first | exact e | rw [e]⟩
                  | exact ⟨rfl, rfl, fun e => by rw [e]; rfl⟩
              · replace h := zk_f cc34 h
                have cc34n := cc34
                (try simp only [i32_lt, i32_le, i32_e, z32_0, z32_1] at cc34n)
                first
                | (exfalso; omega)
                | by_cases cc78 : x2 = (2 : Int32)
                  · replace h := zk_t cc78 h
                    have cc78n := cc78
                    (try simp only [i32_lt, i32_le, i32_e, z32_0, z32_1, z32L_2] at cc78n)
                    first
                    | (exfalso; omega)
                    | obtain ⟨cv79, cv80, cv81, ch82, h⟩ := zk_o3 h
                      have ch82 : f_X0_binds (grp_grp139 6) (1 : Int32) x3 (0 : Int32) (1 : Int32) x1 (S_askedCount x1.toNatClampNeg) acts_bodies = some (cv79, cv80, cv81) := ch82
                      unfold f_X0_binds at ch82
                      unfold B_X0_binds_0 at ch82
                      have ch82 := zk_f (by decide) ch82
                      have ch82 := zk_f (by decide) ch82
                      obtain ⟨cv83, cv84, ch85, ch82⟩ := zk_o2 ch82
                      unfold f_X0_above at ch85
                      unfold B_X0_above_0 at ch85
                      have ch85 := zk_f (by decide) ch85
                      have ch85 := zk_f (by decide) ch85
                      have ch85 := zk_f (by decide) ch85
                      simp only [Option.some.injEq, Prod.mk.injEq] at ch85
                      obtain ⟨rfl, _⟩ := ch85
                      obtain ⟨cv86, cv87, cv88, ch89, ch82⟩ := zk_o3 ch82
                      have ch89 : f_X0_binds (grp_grp139 5) (0 : Int32) x3 (0 : Int32) (1 : Int32) x1 (S_askedCount x1.toNatClampNeg) acts_bodies = some (cv86, cv87, cv88) := ch89
                      unfold f_X0_binds at ch89
                      unfold B_X0_binds_0 at ch89
                      have ch89 := zk_f (by decide) ch89
                      have ch89 := zk_t (Int32.le_refl _) ch89
                      obtain ⟨cv90, cv91, ch92, ch89⟩ := zk_o2 ch89
                      unfold f_X0_note at ch92
                      unfold B_X0_note_0 at ch92
                      have ch92 := zk_f (by decide) ch92
                      obtain ⟨_, ch92⟩ := zk_gd ch92
                      obtain ⟨cv93, ce94, ch92⟩ := zk_lt ch92
                      subst ce94
                      unfold B_X0_note_19 at ch92
                      obtain ⟨cv95, ce96, ch92⟩ := zk_lt ch92
                      subst ce96
                      simp only [Option.some.injEq, Prod.mk.injEq] at ch92
                      obtain ⟨rfl, rfl⟩ := ch92
                      simp only [Option.some.injEq, Prod.mk.injEq] at ch89
                      obtain ⟨rfl, rfl, rfl⟩ := ch89
                      simp only [Option.some.injEq, Prod.mk.injEq] at ch82
                      obtain ⟨rfl, rfl, rfl⟩ := ch82
                      have hi : x1.toNatClampNeg < court_suitCount.toInt.toNat := by rw [tcn]; omega
                      have ea : mod_askedMany x1.toNatClampNeg = S_askedCount x1.toNatClampNeg := (hA _ hi).symm
                      unfold B_X12_act_0 at k
                      replace k := zk_o2 k
                      obtain ⟨mv99, mv100, mh101, k⟩ := k
                      unfold f_X12_isSuit at mh101
                      unfold B_X12_isSuit_0 at mh101
                      obtain ⟨mv102, mv103, mh104, mh101⟩ := zk_o2 mh101
                      unfold f_X12_in at mh104
                      unfold B_X12_in_0 at mh104
                      have mh104 := zk_f cc4 mh104
                      have mh104 := zk_f (by (try simp only [i32_lt, i32_le, i32_e, z32_0, z32_1]); omega) mh104
                      simp only [Option.some.injEq, Prod.mk.injEq] at mh104
                      obtain ⟨rfl, _⟩ := mh104
                      obtain ⟨_, mh101⟩ := zk_gd mh101
                      simp only [Option.some.injEq, Prod.mk.injEq] at mh101
                      obtain ⟨rfl, _⟩ := mh101
                      replace k := zk_f (by decide) k
                      replace k := zk_o2 k
                      obtain ⟨mv105, mv106, mh107, k⟩ := k
                      unfold f_X12_in at mh107
                      unfold B_X12_in_0 at mh107
                      have mh107 := zk_f (by (try simp only [i32_lt, i32_le, i32_e, z32_0, z32_1]); omega) mh107
                      have mh107 := zk_f (by (try simp only [i32_lt, i32_le, i32_e, z32_0, z32_1, z32L_3]); omega) mh107
                      simp only [Option.some.injEq, Prod.mk.injEq] at mh107
                      obtain ⟨rfl, _⟩ := mh107
                      replace k := zk_f (by decide) k
                      replace k := zk_f cc15 k
                      replace k := zk_f cc34 k
                      replace k := zk_t cc78 k
                      replace k := zk_o3 k
                      obtain ⟨mv108, mv109, mv110, mh111, k⟩ := k
                      unfold f_X12_binds at mh111
                      unfold B_X12_binds_0 at mh111
                      obtain ⟨mv112, mv113, mh114, mh111⟩ := zk_o2 mh111
                      obtain mq115 := bk12_e (hB12 hi) mh114
                      replace mq115 := mq115.symm
                      subst mq115
                      obtain ⟨mv116, mv117, mh118, mh111⟩ := zk_o2 mh111
                      unfold f_X12_isUnder at mh118
                      unfold B_X12_isUnder_0 at mh118
                      have mh118 := zk_f (by decide) mh118
                      have mh118 := zk_f (by decide) mh118
                      have mh118 := zk_f (by decide) mh118
                      unfold B_X12_isUnder_19 at mh118
                      have mh118 := zk_t rfl mh118
                      have mh118 := zk_f (by decide) mh118
                      unfold B_X12_isUnder_29 at mh118
                      have mh118 := zk_f (by decide) mh118
                      simp only [Option.some.injEq, Prod.mk.injEq] at mh118
                      obtain ⟨rfl, _⟩ := mh118
                      have mh111 := zk_t rfl mh111
                      obtain ⟨mv119, mv120, mv121, mh122, mh111⟩ := zk_o3 mh111
                      unfold f_X12_plainBinds at mh122
                      unfold B_X12_plainBinds_0 at mh122
                      obtain ⟨mv123, mv124, mh125, mh122⟩ := zk_o2 mh122
                      unfold f_X12_ran at mh125
                      unfold B_X12_ran_0 at mh125
                      have mh125 := zk_f (by decide) mh125
                      obtain ⟨_, mh125⟩ := zk_gd mh125
                      obtain ⟨mv126, me127, mh125⟩ := zk_lt mh125
                      subst me127
                      unfold B_X12_ran_19 at mh125
                      obtain ⟨mv128, me129, mh125⟩ := zk_lt mh125
                      subst me129
                      simp only [Option.some.injEq, Prod.mk.injEq] at mh125
                      obtain ⟨rfl, rfl⟩ := mh125
                      simp only [Option.some.injEq, Prod.mk.injEq] at mh122
                      obtain ⟨rfl, rfl, rfl⟩ := mh122
                      simp only [Option.some.injEq, Prod.mk.injEq] at mh111
                      obtain ⟨rfl, rfl, rfl⟩ := mh111
                      replace h := Option.some.inj h
                      replace k := Option.some.inj k
                      subst h
                      subst k
                      try dsimp only
                      all_goals first
                      | (exfalso; omega)
                      | exact ⟨rfl, rfl, fun e => by first | exact e | rw [e]⟩
                      | exact ⟨rfl, rfl, fun e => by rw [e]; rfl⟩
                  · replace h := zk_f cc78 h
                    have cc78n := cc78
                    (try simp only [i32_lt, i32_le, i32_e, z32_0, z32_1, z32L_2] at cc78n)
                    first
                    | (exfalso; omega)
                    | by_cases cc97 : x2 = (3 : Int32)
                      · replace h := zk_t cc97 h
                        have cc97n := cc97
                        (try simp only [i32_lt, i32_le, i32_e, z32_0, z32_1, z32L_3] at cc97n)
                        first
                        | (exfalso; omega)
                        | obtain ⟨cv98, cv99, cv100, ch101, h⟩ := zk_o3 h
                          have ch101 : f_X0_tells (grp_grp141 6) (1 : Int32) x3 (0 : Int32) (1 : Int32) x1 (S_askedCount x1.toNatClampNeg) acts_bodies = some (cv98, cv99, cv100) := ch101
                          unfold f_X0_tells at ch101
                          unfold B_X0_tells_0 at ch101
                          have ch101 := zk_f (by decide) ch101
                          have ch101 := zk_f (by decide) ch101
                          obtain ⟨cv102, cv103, ch104, ch101⟩ := zk_o2 ch101
                          unfold f_X0_above at ch104
                          unfold B_X0_above_0 at ch104
                          have ch104 := zk_f (by decide) ch104
                          have ch104 := zk_f (by decide) ch104
                          have ch104 := zk_f (by decide) ch104
                          simp only [Option.some.injEq, Prod.mk.injEq] at ch104
                          obtain ⟨rfl, _⟩ := ch104
                          obtain ⟨cv105, cv106, cv107, ch108, ch101⟩ := zk_o3 ch101
                          have ch108 : f_X0_tells (grp_grp141 5) (0 : Int32) x3 (0 : Int32) (1 : Int32) x1 (S_askedCount x1.toNatClampNeg) acts_bodies = some (cv105, cv106, cv107) := ch108
                          unfold f_X0_tells at ch108
                          unfold B_X0_tells_0 at ch108
                          have ch108 := zk_f (by decide) ch108
                          have ch108 := zk_t (Int32.le_refl _) ch108
                          obtain ⟨cv109, cv110, ch111, ch108⟩ := zk_o2 ch108
                          unfold f_X0_note at ch111
                          unfold B_X0_note_0 at ch111
                          have ch111 := zk_f (by decide) ch111
                          obtain ⟨_, ch111⟩ := zk_gd ch111
                          obtain ⟨cv112, ce113, ch111⟩ := zk_lt ch111
                          subst ce113
                          unfold B_X0_note_19 at ch111
                          obtain ⟨cv114, ce115, ch111⟩ := zk_lt ch111
                          subst ce115
                          simp only [Option.some.injEq, Prod.mk.injEq] at ch111
                          obtain ⟨rfl, rfl⟩ := ch111
                          obtain ⟨cv116, cv117, cv118, ch119, ch108⟩ := zk_o3 ch108
                          have ch119 : f_X0_settles (grp_grp140 6) (1 : Int32) x3 ((0 : Int32) + (1 : Int32)) (1 : Int32) x1 (S_askedCount x1.toNatClampNeg) (upd acts_bodies (0 : Int32).toNatClampNeg (2 : Int32)) = some (cv116, cv117, cv118) := ch119
                          unfold f_X0_settles at ch119
                          unfold B_X0_settles_0 at ch119
                          have ch119 := zk_t rfl ch119
                          obtain ⟨cv120, cv121, ch122, ch119⟩ := zk_o2 ch119
                          unfold f_X0_note at ch122
                          unfold B_X0_note_0 at ch122
                          have ch122 := zk_f (by decide) ch122
                          obtain ⟨_, ch122⟩ := zk_gd ch122
                          obtain ⟨cv123, ce124, ch122⟩ := zk_lt ch122
                          subst ce124
                          unfold B_X0_note_19 at ch122
                          obtain ⟨cv125, ce126, ch122⟩ := zk_lt ch122
                          subst ce126
                          simp only [Option.some.injEq, Prod.mk.injEq] at ch122
                          obtain ⟨rfl, rfl⟩ := ch122
                          obtain ⟨cv127, cv128, ch129, ch119⟩ := zk_o2 ch119
                          unfold f_X0_above at ch129
                          unfold B_X0_above_0 at ch129
                          have ch129 := zk_f (by decide) ch129
                          have ch129 := zk_f (by decide) ch129
                          have ch129 := zk_f (by decide) ch129
                          simp only [Option.some.injEq, Prod.mk.injEq] at ch129
                          obtain ⟨rfl, _⟩ := ch129
                          obtain ⟨cv130, cv131, cv132, ch133, ch119⟩ := zk_o3 ch119
                          have ch133 : f_X0_settles (grp_grp140 5) (0 : Int32) x3 (((0 : Int32) + (1 : Int32)) + (1 : Int32)) (1 : Int32) x1 (S_askedCount x1.toNatClampNeg) (upd (upd acts_bodies (0 : Int32).toNatClampNeg (2 : Int32)) ((0 : Int32) + (1 : Int32)).toNatClampNeg (20 : Int32)) = some (cv130, cv131, cv132) := ch133
                          unfold f_X0_settles at ch133
                          unfold B_X0_settles_0 at ch133
                          have ch133 := zk_f (by decide) ch133
                          have ch133 := zk_f (by decide) ch133
                          have ch133 := zk_f (by decide) ch133
                          have ch133 := zk_f (by decide) ch133
                          have ch133 := zk_f (by decide) ch133
                          have ch133 := zk_f (by decide) ch133
                          obtain ⟨cv134, cv135, ch136, ch133⟩ := zk_o2 ch133
                          unfold f_X0_note at ch136
                          unfold B_X0_note_0 at ch136
                          have ch136 := zk_f (by decide) ch136
                          obtain ⟨_, ch136⟩ := zk_gd ch136
                          obtain ⟨cv137, ce138, ch136⟩ := zk_lt ch136
                          subst ce138
                          unfold B_X0_note_19 at ch136
                          obtain ⟨cv139, ce140, ch136⟩ := zk_lt ch136
                          subst ce140
                          simp only [Option.some.injEq, Prod.mk.injEq] at ch136
                          obtain ⟨rfl, rfl⟩ := ch136
                          obtain ⟨cv141, cv142, cv143, ch144, ch133⟩ := zk_o3 ch133
                          have ch144 : f_X0_closes (grp_grp138 6) (1 : Int32) x3 ((((0 : Int32) + (1 : Int32)) + (1 : Int32)) + (1 : Int32)) (1 : Int32) x1 (S_askedCount x1.toNatClampNeg) (upd (upd (upd acts_bodies (0 : Int32).toNatClampNeg (2 : Int32)) ((0 : Int32) + (1 : Int32)).toNatClampNeg (20 : Int32)) (((0 : Int32) + (1 : Int32)) + (1 : Int32)).toNatClampNeg (10 : Int32)) = some (cv141, cv142, cv143) := ch144
                          unfold f_X0_closes at ch144
                          unfold B_X0_closes_0 at ch144
                          have ch144 := zk_t rfl ch144
                          obtain ⟨cv145, cv146, ch147, ch144⟩ := zk_o2 ch144
                          unfold f_X0_above at ch147
                          unfold B_X0_above_0 at ch147
                          have ch147 := zk_f (by decide) ch147
                          have ch147 := zk_f (by decide) ch147
                          have ch147 := zk_f (by decide) ch147
                          simp only [Option.some.injEq, Prod.mk.injEq] at ch147
                          obtain ⟨rfl, _⟩ := ch147
                          obtain ⟨cv148, cv149, cv150, ch151, ch144⟩ := zk_o3 ch144
                          have ch151 : f_X0_closes (grp_grp138 5) (0 : Int32) x3 ((((0 : Int32) + (1 : Int32)) + (1 : Int32)) + (1 : Int32)) (1 : Int32) x1 (S_askedCount x1.toNatClampNeg) (upd (upd (upd acts_bodies (0 : Int32).toNatClampNeg (2 : Int32)) ((0 : Int32) + (1 : Int32)).toNatClampNeg (20 : Int32)) (((0 : Int32) + (1 : Int32)) + (1 : Int32)).toNatClampNeg (10 : Int32)) = some (cv148, cv149, cv150) := ch151
                          unfold f_X0_closes at ch151
                          unfold B_X0_closes_0 at ch151
                          have ch151 := zk_f (by decide) ch151
                          have ch151 := zk_f (by decide) ch151
                          have ch151 := zk_f (by decide) ch151
                          have ch151 := zk_f (by decide) ch151
                          have ch151 := zk_f (by decide) ch151
                          have ch151 := zk_f (by decide) ch151
                          obtain ⟨cv152, cv153, ch154, ch151⟩ := zk_o2 ch151
                          unfold f_X0_note at ch154
                          unfold B_X0_note_0 at ch154
                          have ch154 := zk_f (by decide) ch154
                          obtain ⟨_, ch154⟩ := zk_gd ch154
                          obtain ⟨cv155, ce156, ch154⟩ := zk_lt ch154
                          subst ce156
                          unfold B_X0_note_19 at ch154
                          obtain ⟨cv157, ce158, ch154⟩ := zk_lt ch154
                          subst ce158
                          simp only [Option.some.injEq, Prod.mk.injEq] at ch154
                          obtain ⟨rfl, rfl⟩ := ch154
                          simp only [Option.some.injEq, Prod.mk.injEq] at ch151
                          obtain ⟨rfl, rfl, rfl⟩ := ch151
                          simp only [Option.some.injEq, Prod.mk.injEq] at ch144
                          obtain ⟨rfl, rfl, rfl⟩ := ch144
                          simp only [Option.some.injEq, Prod.mk.injEq] at ch133
                          obtain ⟨rfl, rfl, rfl⟩ := ch133
                          simp only [Option.some.injEq, Prod.mk.injEq] at ch119
                          obtain ⟨rfl, rfl, rfl⟩ := ch119
                          obtain ⟨cv159, cv160, cv161, ch162, ch108⟩ := zk_o3 ch108
                          have ch162 : f_X0_binds (grp_grp139 6) (1 : Int32) (1 : Int32) (((((0 : Int32) + (1 : Int32)) + (1 : Int32)) + (1 : Int32)) + (1 : Int32)) (1 : Int32) x1 (S_askedCount x1.toNatClampNeg) (upd (upd (upd (upd acts_bodies (0 : Int32).toNatClampNeg (2 : Int32)) ((0 : Int32) + (1 : Int32)).toNatClampNeg (20 : Int32)) (((0 : Int32) + (1 : Int32)) + (1 : Int32)).toNatClampNeg (10 : Int32)) ((((0 : Int32) + (1 : Int32)) + (1 : Int32)) + (1 : Int32)).toNatClampNeg (1 : Int32)) = some (cv159, cv160, cv161) := ch162
                          unfold f_X0_binds at ch162
                          unfold B_X0_binds_0 at ch162
                          have ch162 := zk_f (by decide) ch162
                          have ch162 := zk_f (by decide) ch162
                          obtain ⟨cv163, cv164, ch165, ch162⟩ := zk_o2 ch162
                          unfold f_X0_above at ch165
                          unfold B_X0_above_0 at ch165
                          have ch165 := zk_f (by decide) ch165
                          have ch165 := zk_f (by decide) ch165
                          have ch165 := zk_f (by decide) ch165
                          simp only [Option.some.injEq, Prod.mk.injEq] at ch165
                          obtain ⟨rfl, _⟩ := ch165
                          obtain ⟨cv166, cv167, cv168, ch169, ch162⟩ := zk_o3 ch162
                          have ch169 : f_X0_binds (grp_grp139 5) (0 : Int32) (1 : Int32) (((((0 : Int32) + (1 : Int32)) + (1 : Int32)) + (1 : Int32)) + (1 : Int32)) (1 : Int32) x1 (S_askedCount x1.toNatClampNeg) (upd (upd (upd (upd acts_bodies (0 : Int32).toNatClampNeg (2 : Int32)) ((0 : Int32) + (1 : Int32)).toNatClampNeg (20 : Int32)) (((0 : Int32) + (1 : Int32)) + (1 : Int32)).toNatClampNeg (10 : Int32)) ((((0 : Int32) + (1 : Int32)) + (1 : Int32)) + (1 : Int32)).toNatClampNeg (1 : Int32)) = some (cv166, cv167, cv168) := ch169
                          unfold f_X0_binds at ch169
                          unfold B_X0_binds_0 at ch169
                          have ch169 := zk_f (by decide) ch169
                          have ch169 := zk_t (Int32.le_refl _) ch169
                          obtain ⟨cv170, cv171, ch172, ch169⟩ := zk_o2 ch169
                          unfold f_X0_note at ch172
                          unfold B_X0_note_0 at ch172
                          have ch172 := zk_f (by decide) ch172
                          obtain ⟨_, ch172⟩ := zk_gd ch172
                          obtain ⟨cv173, ce174, ch172⟩ := zk_lt ch172
                          subst ce174
                          unfold B_X0_note_19 at ch172
                          obtain ⟨cv175, ce176, ch172⟩ := zk_lt ch172
                          subst ce176
                          simp only [Option.some.injEq, Prod.mk.injEq] at ch172
                          obtain ⟨rfl, rfl⟩ := ch172
                          simp only [Option.some.injEq, Prod.mk.injEq] at ch169
                          obtain ⟨rfl, rfl, rfl⟩ := ch169
                          simp only [Option.some.injEq, Prod.mk.injEq] at ch162
                          obtain ⟨rfl, rfl, rfl⟩ := ch162
                          simp only [Option.some.injEq, Prod.mk.injEq] at ch108
                          obtain ⟨rfl, rfl, rfl⟩ := ch108
                          simp only [Option.some.injEq, Prod.mk.injEq] at ch101
                          obtain ⟨rfl, rfl, rfl⟩ := ch101
                          have hi : x1.toNatClampNeg < court_suitCount.toInt.toNat := by rw [tcn]; omega
                          have ea : mod_askedMany x1.toNatClampNeg = S_askedCount x1.toNatClampNeg := (hA _ hi).symm
                          unfold B_X12_act_0 at k
                          replace k := zk_o2 k
                          obtain ⟨mv130, mv131, mh132, k⟩ := k
                          unfold f_X12_isSuit at mh132
                          unfold B_X12_isSuit_0 at mh132
                          obtain ⟨mv133, mv134, mh135, mh132⟩ := zk_o2 mh132
                          unfold f_X12_in at mh135
                          unfold B_X12_in_0 at mh135
                          have mh135 := zk_f cc4 mh135
                          have mh135 := zk_f (by (try simp only [i32_lt, i32_le, i32_e, z32_0, z32_1]); omega) mh135
                          simp only [Option.some.injEq, Prod.mk.injEq] at mh135
                          obtain ⟨rfl, _⟩ := mh135
                          obtain ⟨_, mh132⟩ := zk_gd mh132
                          simp only [Option.some.injEq, Prod.mk.injEq] at mh132
                          obtain ⟨rfl, _⟩ := mh132
                          replace k := zk_f (by decide) k
                          replace k := zk_o2 k
                          obtain ⟨mv136, mv137, mh138, k⟩ := k
                          unfold f_X12_in at mh138
                          unfold B_X12_in_0 at mh138
                          have mh138 := zk_f (by (try simp only [i32_lt, i32_le, i32_e, z32_0, z32_1]); omega) mh138
                          have mh138 := zk_f (by (try simp only [i32_lt, i32_le, i32_e, z32_0, z32_1, z32L_3]); omega) mh138
                          simp only [Option.some.injEq, Prod.mk.injEq] at mh138
                          obtain ⟨rfl, _⟩ := mh138
                          replace k := zk_f (by decide) k
                          replace k := zk_f cc15 k
                          replace k := zk_f cc34 k
                          replace k := zk_f cc78 k
                          replace k := zk_o3 k
                          obtain ⟨mv139, mv140, mv141, mh142, k⟩ := k
                          unfold f_X12_tells at mh142
                          unfold B_X12_tells_0 at mh142
                          obtain ⟨mv143, mv144, mh145, mh142⟩ := zk_o2 mh142
                          obtain mq146 := bk12_e (hB12 hi) mh145
                          replace mq146 := mq146.symm
                          subst mq146
                          have mh142 := zk_f (by decide) mh142
                          obtain ⟨mv147, mv148, mv149, mh150, mh142⟩ := zk_o3 mh142
                          unfold f_X12_plainTells at mh150
                          unfold B_X12_plainTells_0 at mh150
                          obtain ⟨mv151, mv152, mh153, mh150⟩ := zk_o2 mh150
                          unfold f_X12_ran at mh153
                          unfold B_X12_ran_0 at mh153
                          have mh153 := zk_f (by decide) mh153
                          obtain ⟨_, mh153⟩ := zk_gd mh153
                          obtain ⟨mv154, me155, mh153⟩ := zk_lt mh153
                          subst me155
                          unfold B_X12_ran_19 at mh153
                          obtain ⟨mv156, me157, mh153⟩ := zk_lt mh153
                          subst me157
                          simp only [Option.some.injEq, Prod.mk.injEq] at mh153
                          obtain ⟨rfl, rfl⟩ := mh153
                          obtain ⟨mv158, mv159, mv160, mh161, mh150⟩ := zk_o3 mh150
                          unfold f_X12_settles at mh161
                          unfold B_X12_settles_0 at mh161
                          obtain ⟨mv162, mv163, mh164, mh161⟩ := zk_o2 mh161
                          obtain mq165 := bk12_e (hB12 hi) mh164
                          replace mq165 := mq165.symm
                          subst mq165
                          have mh161 := zk_f (by decide) mh161
                          have mh161 := zk_f (by decide) mh161
                          have mh161 := zk_t rfl mh161
                          obtain ⟨mv166, mv167, mv168, mh169, mh161⟩ := zk_o3 mh161
                          unfold f_X12_meritsSettles at mh169
                          unfold B_X12_meritsSettles_0 at mh169
                          rw [ea] at mh169
                          obtain ⟨mv170, mv171, mh172, mh169⟩ := zk_o2 mh169
                          unfold f_X12_ran at mh172
                          unfold B_X12_ran_0 at mh172
                          have mh172 := zk_f (by decide) mh172
                          obtain ⟨_, mh172⟩ := zk_gd mh172
                          obtain ⟨mv173, me174, mh172⟩ := zk_lt mh172
                          subst me174
                          unfold B_X12_ran_19 at mh172
                          obtain ⟨mv175, me176, mh172⟩ := zk_lt mh172
                          subst me176
                          simp only [Option.some.injEq, Prod.mk.injEq] at mh172
                          obtain ⟨rfl, rfl⟩ := mh172
                          obtain ⟨mv177, mv178, mv179, mh180, mh169⟩ := zk_o3 mh169
                          unfold f_X12_plainSettles at mh180
                          unfold B_X12_plainSettles_0 at mh180
                          obtain ⟨mv181, mv182, mh183, mh180⟩ := zk_o2 mh180
                          unfold f_X12_ran at mh183
                          unfold B_X12_ran_0 at mh183
                          have mh183 := zk_f (by decide) mh183
                          obtain ⟨_, mh183⟩ := zk_gd mh183
                          obtain ⟨mv184, me185, mh183⟩ := zk_lt mh183
                          subst me185
                          unfold B_X12_ran_19 at mh183
                          obtain ⟨mv186, me187, mh183⟩ := zk_lt mh183
                          subst me187
                          simp only [Option.some.injEq, Prod.mk.injEq] at mh183
                          obtain ⟨rfl, rfl⟩ := mh183
                          obtain ⟨mv188, mv189, mv190, mh191, mh180⟩ := zk_o3 mh180
                          unfold f_X12_closes at mh191
                          unfold B_X12_closes_0 at mh191
                          rw [ea] at mh191
                          obtain ⟨mv192, mv193, mh194, mh191⟩ := zk_o2 mh191
                          obtain mq195 := bk12_e (hB12 hi) mh194
                          replace mq195 := mq195.symm
                          subst mq195
                          have mh191 := zk_f (by decide) mh191
                          have mh191 := zk_f (by decide) mh191
                          have mh191 := zk_f (by decide) mh191
                          have mh191 := zk_f (by decide) mh191
                          obtain ⟨mv196, mv197, mv198, mh199, mh191⟩ := zk_o3 mh191
                          unfold f_X12_plainCloses at mh199
                          unfold B_X12_plainCloses_0 at mh199
                          obtain ⟨mv200, mv201, mh202, mh199⟩ := zk_o2 mh199
                          unfold f_X12_ran at mh202
                          unfold B_X12_ran_0 at mh202
                          have mh202 := zk_f (by decide) mh202
                          obtain ⟨_, mh202⟩ := zk_gd mh202
                          obtain ⟨mv203, me204, mh202⟩ := zk_lt mh202
                          subst me204
                          unfold B_X12_ran_19 at mh202
                          obtain ⟨mv205, me206, mh202⟩ := zk_lt mh202
                          subst me206
                          simp only [Option.some.injEq, Prod.mk.injEq] at mh202
                          obtain ⟨rfl, rfl⟩ := mh202
                          simp only [Option.some.injEq, Prod.mk.injEq] at mh199
                          obtain ⟨rfl, rfl, rfl⟩ := mh199
                          simp only [Option.some.injEq, Prod.mk.injEq] at mh191
                          obtain ⟨rfl, rfl, rfl⟩ := mh191
                          simp only [Option.some.injEq, Prod.mk.injEq] at mh180
                          obtain ⟨rfl, rfl, rfl⟩ := mh180
                          obtain ⟨_, mh169⟩ := zk_gd mh169
                          simp only [Option.some.injEq, Prod.mk.injEq] at mh169
                          obtain ⟨rfl, rfl, rfl⟩ := mh169
                          simp only [Option.some.injEq, Prod.mk.injEq] at mh161
                          obtain ⟨rfl, rfl, rfl⟩ := mh161
                          obtain ⟨mv207, mv208, mv209, mh210, mh150⟩ := zk_o3 mh150
                          unfold f_X12_binds at mh210
                          unfold B_X12_binds_0 at mh210
                          obtain ⟨mv211, mv212, mh213, mh210⟩ := zk_o2 mh210
                          obtain mq214 := bk12_e (hB12 hi) mh213
                          replace mq214 := mq214.symm
                          subst mq214
                          obtain ⟨mv215, mv216, mh217, mh210⟩ := zk_o2 mh210
                          unfold f_X12_isUnder at mh217
                          unfold B_X12_isUnder_0 at mh217
                          have mh217 := zk_f (by decide) mh217
                          have mh217 := zk_f (by decide) mh217
                          have mh217 := zk_f (by decide) mh217
                          unfold B_X12_isUnder_19 at mh217
                          have mh217 := zk_t rfl mh217
                          have mh217 := zk_f (by decide) mh217
                          unfold B_X12_isUnder_29 at mh217
                          have mh217 := zk_f (by decide) mh217
                          simp only [Option.some.injEq, Prod.mk.injEq] at mh217
                          obtain ⟨rfl, _⟩ := mh217
                          have mh210 := zk_t rfl mh210
                          obtain ⟨mv218, mv219, mv220, mh221, mh210⟩ := zk_o3 mh210
                          unfold f_X12_plainBinds at mh221
                          unfold B_X12_plainBinds_0 at mh221
                          obtain ⟨mv222, mv223, mh224, mh221⟩ := zk_o2 mh221
                          unfold f_X12_ran at mh224
                          unfold B_X12_ran_0 at mh224
                          have mh224 := zk_f (by decide) mh224
                          obtain ⟨_, mh224⟩ := zk_gd mh224
                          obtain ⟨mv225, me226, mh224⟩ := zk_lt mh224
                          subst me226
                          unfold B_X12_ran_19 at mh224
                          obtain ⟨mv227, me228, mh224⟩ := zk_lt mh224
                          subst me228
                          simp only [Option.some.injEq, Prod.mk.injEq] at mh224
                          obtain ⟨rfl, rfl⟩ := mh224
                          simp only [Option.some.injEq, Prod.mk.injEq] at mh221
                          obtain ⟨rfl, rfl, rfl⟩ := mh221
                          simp only [Option.some.injEq, Prod.mk.injEq] at mh210
                          obtain ⟨rfl, rfl, rfl⟩ := mh210
                          simp only [Option.some.injEq, Prod.mk.injEq] at mh150
                          obtain ⟨rfl, rfl, rfl⟩ := mh150
                          simp only [Option.some.injEq, Prod.mk.injEq] at mh142
                          obtain ⟨rfl, rfl, rfl⟩ := mh142
                          replace h := Option.some.inj h
                          replace k := Option.some.inj k
                          subst h
                          subst k
                          try dsimp only
                          all_goals first
                          | (exfalso; omega)
                          | exact ⟨rfl, rfl, fun e => by first | exact e | rw [e]⟩
                          | exact ⟨rfl, rfl, fun e => by rw [e]; rfl⟩
                      · replace h := zk_f cc97 h
                        have cc97n := cc97
                        (try simp only [i32_lt, i32_le, i32_e, z32_0, z32_1, z32L_3] at cc97n)
                        first
                        | (exfalso; omega)
                        | have hi : x1.toNatClampNeg < court_suitCount.toInt.toNat := by rw [tcn]; omega
                          have ea : mod_askedMany x1.toNatClampNeg = S_askedCount x1.toNatClampNeg := (hA _ hi).symm
                          unfold B_X12_act_0 at k
                          replace k := zk_o2 k
                          obtain ⟨mv229, mv230, mh231, k⟩ := k
                          unfold f_X12_isSuit at mh231
                          unfold B_X12_isSuit_0 at mh231
                          obtain ⟨mv232, mv233, mh234, mh231⟩ := zk_o2 mh231
                          unfold f_X12_in at mh234
                          unfold B_X12_in_0 at mh234
                          have mh234 := zk_f cc4 mh234
                          have mh234 := zk_f (by (try simp only [i32_lt, i32_le, i32_e, z32_0, z32_1]); omega) mh234
                          simp only [Option.some.injEq, Prod.mk.injEq] at mh234
                          obtain ⟨rfl, _⟩ := mh234
                          obtain ⟨_, mh231⟩ := zk_gd mh231
                          simp only [Option.some.injEq, Prod.mk.injEq] at mh231
                          obtain ⟨rfl, _⟩ := mh231
                          replace k := zk_f (by decide) k
                          replace k := zk_o2 k
                          obtain ⟨mv235, mv236, mh237, k⟩ := k
                          unfold f_X12_in at mh237
                          unfold B_X12_in_0 at mh237
                          by_cases mc238 : x2 < (0 : Int32)
                          · have mh237 := zk_t mc238 mh237
                            have mc238n := mc238
                            (try simp only [i32_lt, i32_le, i32_e, z32_0, z32_1] at mc238n)
                            first
                            | (exfalso; omega)
                            | simp only [Option.some.injEq, Prod.mk.injEq] at mh237
                              obtain ⟨rfl, _⟩ := mh237
                              replace k := zk_t rfl k
                              replace h := Option.some.inj h
                              replace k := Option.some.inj k
                              subst h
                              subst k
                              try dsimp only
                              all_goals first
                              | (exfalso; omega)
                              | exact ⟨rfl, rfl, fun e => by first | exact e | rw [e]⟩
                              | exact ⟨rfl, rfl, fun e => by rw [e]; rfl⟩
                          · have mh237 := zk_f mc238 mh237
                            have mc238n := mc238
                            (try simp only [i32_lt, i32_le, i32_e, z32_0, z32_1] at mc238n)
                            first
                            | (exfalso; omega)
                            | by_cases mc239 : (3 : Int32) < x2
                              · have mh237 := zk_t mc239 mh237
                                have mc239n := mc239
                                (try simp only [i32_lt, i32_le, i32_e, z32_0, z32_1, z32L_3] at mc239n)
                                first
                                | (exfalso; omega)
                                | simp only [Option.some.injEq, Prod.mk.injEq] at mh237
                                  obtain ⟨rfl, _⟩ := mh237
                                  replace k := zk_t rfl k
                                  replace h := Option.some.inj h
                                  replace k := Option.some.inj k
                                  subst h
                                  subst k
                                  try dsimp only
                                  all_goals first
                                  | (exfalso; omega)
                                  | exact ⟨rfl, rfl, fun e => by first | exact e | rw [e]⟩
                                  | exact ⟨rfl, rfl, fun e => by rw [e]; rfl⟩
                              · have mh237 := zk_f mc239 mh237
                                have mc239n := mc239
                                (try simp only [i32_lt, i32_le, i32_e, z32_0, z32_1, z32L_3] at mc239n)
                                first
                                | (exfalso; omega)
                                | simp only [Option.some.injEq, Prod.mk.injEq] at mh237
                                  obtain ⟨rfl, _⟩ := mh237
                                  replace k := zk_f (by decide) k
                                  replace k := zk_f cc15 k
                                  replace k := zk_f cc34 k
                                  replace k := zk_f cc78 k
                                  replace k := zk_o3 k
                                  obtain ⟨mv240, mv241, mv242, mh243, k⟩ := k
                                  unfold f_X12_tells at mh243
                                  unfold B_X12_tells_0 at mh243
                                  obtain ⟨mv244, mv245, mh246, mh243⟩ := zk_o2 mh243
                                  obtain mq247 := bk12_e (hB12 hi) mh246
                                  replace mq247 := mq247.symm
                                  subst mq247
                                  have mh243 := zk_f (by decide) mh243
                                  obtain ⟨mv248, mv249, mv250, mh251, mh243⟩ := zk_o3 mh243
                                  unfold f_X12_plainTells at mh251
                                  unfold B_X12_plainTells_0 at mh251
                                  obtain ⟨mv252, mv253, mh254, mh251⟩ := zk_o2 mh251
                                  unfold f_X12_ran at mh254
                                  unfold B_X12_ran_0 at mh254
                                  have mh254 := zk_f (by decide) mh254
                                  obtain ⟨_, mh254⟩ := zk_gd mh254
                                  obtain ⟨mv255, me256, mh254⟩ := zk_lt mh254
                                  subst me256
                                  unfold B_X12_ran_19 at mh254
                                  obtain ⟨mv257, me258, mh254⟩ := zk_lt mh254
                                  subst me258
                                  simp only [Option.some.injEq, Prod.mk.injEq] at mh254
                                  obtain ⟨rfl, rfl⟩ := mh254
                                  obtain ⟨mv259, mv260, mv261, mh262, mh251⟩ := zk_o3 mh251
                                  unfold f_X12_settles at mh262
                                  unfold B_X12_settles_0 at mh262
                                  obtain ⟨mv263, mv264, mh265, mh262⟩ := zk_o2 mh262
                                  obtain mq266 := bk12_e (hB12 hi) mh265
                                  replace mq266 := mq266.symm
                                  subst mq266
                                  have mh262 := zk_f (by decide) mh262
                                  have mh262 := zk_f (by decide) mh262
                                  have mh262 := zk_t rfl mh262
                                  obtain ⟨mv267, mv268, mv269, mh270, mh262⟩ := zk_o3 mh262
                                  unfold f_X12_meritsSettles at mh270
                                  unfold B_X12_meritsSettles_0 at mh270
                                  rw [ea] at mh270
                                  obtain ⟨mv271, mv272, mh273, mh270⟩ := zk_o2 mh270
                                  unfold f_X12_ran at mh273
                                  unfold B_X12_ran_0 at mh273
                                  have mh273 := zk_f (by decide) mh273
                                  obtain ⟨_, mh273⟩ := zk_gd mh273
                                  obtain ⟨mv274, me275, mh273⟩ := zk_lt mh273
                                  subst me275
                                  unfold B_X12_ran_19 at mh273
                                  obtain ⟨mv276, me277, mh273⟩ := zk_lt mh273
                                  subst me277
                                  simp only [Option.some.injEq, Prod.mk.injEq] at mh273
                                  obtain ⟨rfl, rfl⟩ := mh273
                                  obtain ⟨mv278, mv279, mv280, mh281, mh270⟩ := zk_o3 mh270
                                  unfold f_X12_plainSettles at mh281
                                  unfold B_X12_plainSettles_0 at mh281
                                  obtain ⟨mv282, mv283, mh284, mh281⟩ := zk_o2 mh281
                                  unfold f_X12_ran at mh284
                                  unfold B_X12_ran_0 at mh284
                                  have mh284 := zk_f (by decide) mh284
                                  obtain ⟨_, mh284⟩ := zk_gd mh284
                                  obtain ⟨mv285, me286, mh284⟩ := zk_lt mh284
                                  subst me286
                                  unfold B_X12_ran_19 at mh284
                                  obtain ⟨mv287, me288, mh284⟩ := zk_lt mh284
                                  subst me288
                                  simp only [Option.some.injEq, Prod.mk.injEq] at mh284
                                  obtain ⟨rfl, rfl⟩ := mh284
                                  obtain ⟨mv289, mv290, mv291, mh292, mh281⟩ := zk_o3 mh281
                                  unfold f_X12_closes at mh292
                                  unfold B_X12_closes_0 at mh292
                                  rw [ea] at mh292
                                  obtain ⟨mv293, mv294, mh295, mh292⟩ := zk_o2 mh292
                                  obtain mq296 := bk12_e (hB12 hi) mh295
                                  replace mq296 := mq296.symm
                                  subst mq296
                                  have mh292 := zk_f (by decide) mh292
                                  have mh292 := zk_f (by decide) mh292
                                  have mh292 := zk_f (by decide) mh292
                                  have mh292 := zk_f (by decide) mh292
                                  obtain ⟨mv297, mv298, mv299, mh300, mh292⟩ := zk_o3 mh292
                                  unfold f_X12_plainCloses at mh300
                                  unfold B_X12_plainCloses_0 at mh300
                                  obtain ⟨mv301, mv302, mh303, mh300⟩ := zk_o2 mh300
                                  unfold f_X12_ran at mh303
                                  unfold B_X12_ran_0 at mh303
                                  have mh303 := zk_f (by decide) mh303
                                  obtain ⟨_, mh303⟩ := zk_gd mh303
                                  obtain ⟨mv304, me305, mh303⟩ := zk_lt mh303
                                  subst me305
                                  unfold B_X12_ran_19 at mh303
                                  obtain ⟨mv306, me307, mh303⟩ := zk_lt mh303
                                  subst me307
                                  simp only [Option.some.injEq, Prod.mk.injEq] at mh303
                                  obtain ⟨rfl, rfl⟩ := mh303
                                  simp only [Option.some.injEq, Prod.mk.injEq] at mh300
                                  obtain ⟨rfl, rfl, rfl⟩ := mh300
                                  simp only [Option.some.injEq, Prod.mk.injEq] at mh292
                                  obtain ⟨rfl, rfl, rfl⟩ := mh292
                                  simp only [Option.some.injEq, Prod.mk.injEq] at mh281
                                  obtain ⟨rfl, rfl, rfl⟩ := mh281
                                  obtain ⟨_, mh270⟩ := zk_gd mh270
                                  simp only [Option.some.injEq, Prod.mk.injEq] at mh270
                                  obtain ⟨rfl, rfl, rfl⟩ := mh270
                                  simp only [Option.some.injEq, Prod.mk.injEq] at mh262
                                  obtain ⟨rfl, rfl, rfl⟩ := mh262
                                  obtain ⟨mv308, mv309, mv310, mh311, mh251⟩ := zk_o3 mh251
                                  unfold f_X12_binds at mh311
                                  unfold B_X12_binds_0 at mh311
                                  obtain ⟨mv312, mv313, mh314, mh311⟩ := zk_o2 mh311
                                  obtain mq315 := bk12_e (hB12 hi) mh314
                                  replace mq315 := mq315.symm
                                  subst mq315
                                  obtain ⟨mv316, mv317, mh318, mh311⟩ := zk_o2 mh311
                                  unfold f_X12_isUnder at mh318
                                  unfold B_X12_isUnder_0 at mh318
                                  have mh318 := zk_f (by decide) mh318
                                  have mh318 := zk_f (by decide) mh318
                                  have mh318 := zk_f (by decide) mh318
                                  unfold B_X12_isUnder_19 at mh318
                                  have mh318 := zk_t rfl mh318
                                  have mh318 := zk_f (by decide) mh318
                                  unfold B_X12_isUnder_29 at mh318
                                  have mh318 := zk_f (by decide) mh318
                                  simp only [Option.some.injEq, Prod.mk.injEq] at mh318
                                  obtain ⟨rfl, _⟩ := mh318
                                  have mh311 := zk_t rfl mh311
                                  obtain ⟨mv319, mv320, mv321, mh322, mh311⟩ := zk_o3 mh311
                                  unfold f_X12_plainBinds at mh322
                                  unfold B_X12_plainBinds_0 at mh322
                                  obtain ⟨mv323, mv324, mh325, mh322⟩ := zk_o2 mh322
                                  unfold f_X12_ran at mh325
                                  unfold B_X12_ran_0 at mh325
                                  have mh325 := zk_f (by decide) mh325
                                  obtain ⟨_, mh325⟩ := zk_gd mh325
                                  obtain ⟨mv326, me327, mh325⟩ := zk_lt mh325
                                  subst me327
                                  unfold B_X12_ran_19 at mh325
                                  obtain ⟨mv328, me329, mh325⟩ := zk_lt mh325
                                  subst me329
                                  simp only [Option.some.injEq, Prod.mk.injEq] at mh325
                                  obtain ⟨rfl, rfl⟩ := mh325
                                  simp only [Option.some.injEq, Prod.mk.injEq] at mh322
                                  obtain ⟨rfl, rfl, rfl⟩ := mh322
                                  simp only [Option.some.injEq, Prod.mk.injEq] at mh311
                                  obtain ⟨rfl, rfl, rfl⟩ := mh311
                                  simp only [Option.some.injEq, Prod.mk.injEq] at mh251
                                  obtain ⟨rfl, rfl, rfl⟩ := mh251
                                  simp only [Option.some.injEq, Prod.mk.injEq] at mh243
                                  obtain ⟨rfl, rfl, rfl⟩ := mh243
                                  replace h := Option.some.inj h
                                  replace k := Option.some.inj k
                                  subst h
                                  subst k
                                  try dsimp only
                                  all_goals first
                                  | (exfalso; omega)
                                  | exact ⟨rfl, rfl, fun e => by first | exact e | rw [e]⟩
                                  | exact ⟨rfl, rfl, fun e => by rw [e]; rfl⟩
