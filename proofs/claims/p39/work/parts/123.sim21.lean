
set_option maxHeartbeats 4000000 in
set_option maxRecDepth 20000 in
theorem pw_act4 {mod_code : Int32} {court_shoeCount : Int32} {mod_claims : Int32} {ts : Int32} {at_ : Int32} {f : Int32} {court_suitCount : Int32} {mod_doneMany : Int32} {mod_undoneMany : Int32} {mod_open : Int32} {mod_laid : Int32} {mod_isBoth : Int32} {mod_wished : Int32} {mod_bestMany : Int32} {mod_bestRow : Int32} {mod_ringDigits : Int32} {mod_traces : Int32} {mod_askedMany : Nat → Int32} {mod_endKind : Nat → Int32} {mod_undoneFrom : Nat → Int32} {mod_traced : Nat → Int32} {court_claimCount : Int32} {court_suits : Nat → Option Nat} {S_who : Nat → Int32} {S_against : Nat → Int32} {S_kind : Nat → Int32} {S_won : Nat → Int32} {S_day : Nat → Int32} {S_land : Nat → Int32} {S_undoneFrom : Nat → Int32} {S_asked : Nat → Nat → Int32} {S_askedCount : Nat → Int32} {S_askedBits : Nat → Int32} {S_first : Nat → Int32} {S_foundSo : Nat → Int32} {S_foundNot : Nat → Int32} {S_fought : Nat → Int32} {S_needed : Nat → Int32} {acts_ran : Int32} {acts_kind : Int32} {acts_number : Int32} {acts_claims : Int32} {acts_bodies : Nat → Int32} {x1 x2 x3 : Int32} {R : Int32 × Int32 × Int32 × Int32 × Int32 × (Nat → Int32)} {Q : Int32 × Int32 × (Nat → Int32)} (hn : 0 ≤ court_suitCount.toInt ∧ court_suitCount.toInt ≤ 40) (hA : WU court_suitCount S_askedCount mod_askedMany) (hB8 : ((S_undoneFrom x1.toNatClampNeg).toInt < 0 ∧ S_kind x1.toNatClampNeg = (4 : Int32)) ∨ (0 ≤ (S_undoneFrom x1.toNatClampNeg).toInt ∧ (4 : Int32) = 5)) (hB12 : x1.toNatClampNeg < court_suitCount.toInt.toNat → ((mod_undoneFrom x1.toNatClampNeg).toInt < 0 ∧ mod_endKind x1.toNatClampNeg = (4 : Int32)) ∨ (0 ≤ (mod_undoneFrom x1.toNatClampNeg).toInt ∧ (4 : Int32) = 5)) (h : f_X11_act x1 x2 x3 court_shoeCount court_claimCount court_suitCount court_suits acts_ran acts_kind acts_number acts_claims acts_bodies S_who S_against S_kind S_won S_day S_land S_undoneFrom S_asked S_askedCount S_askedBits S_first S_foundSo S_foundNot S_fought S_needed = some R) (k : f_X12_act x1 x2 x3 mod_code court_shoeCount mod_claims ts at_ f court_suitCount mod_doneMany mod_undoneMany mod_open mod_laid mod_isBoth mod_wished mod_bestMany mod_bestRow mod_ringDigits mod_traces mod_endKind mod_undoneFrom mod_askedMany mod_traced = some Q) : R.1 = Q.1 ∧ R.2.1 = Q.2.1 ∧ (acts_bodies = mod_traced → R.2.2.2.2.2 = Q.2.2) := by
  have hn1 := i32_m1 (a := court_suitCount) (by omega)
  unfold f_X11_act at h
  unfold f_X12_act at k
  unfold B_X11_act_0 at h
  replace h := zk_o2 h
  obtain ⟨cv1, cv2, ch3, h⟩ := h
  unfold f_X2_suitAt at ch3
  unfold B_X2_suitAt_0 at ch3
  by_cases cc4 : x1 < 0
  · have ch3 := zk_t cc4 ch3
    have cc4n := cc4
    (try simp only [i32_lt, i32_le, i32_e, z32_0, z32_1] at cc4n)
    first
    | (exfalso; omega)
    | simp only [Option.some.injEq, Prod.mk.injEq] at ch3
      obtain ⟨rfl, _⟩ := ch3
      replace h := zk_t (by decide) h
      unfold B_X12_act_0 at k
      replace k := zk_o2 k
      obtain ⟨mv1, mv2, mh3, k⟩ := k
      unfold f_X12_isSuit at mh3
      unfold B_X12_isSuit_0 at mh3
      obtain ⟨mv4, mv5, mh6, mh3⟩ := zk_o2 mh3
      unfold f_X12_in at mh6
      unfold B_X12_in_0 at mh6
      have mh6 := zk_t cc4 mh6
      simp only [Option.some.injEq, Prod.mk.injEq] at mh6
      obtain ⟨rfl, _⟩ := mh6
      obtain ⟨_, mh3⟩ := zk_gd mh3
      simp only [Option.some.injEq, Prod.mk.injEq] at mh3
      obtain ⟨rfl, _⟩ := mh3
      replace k := zk_t rfl k
      replace h := Option.some.inj h
      replace k := Option.some.inj k
      subst h
      subst k
      try dsimp only
      all_goals first
      | (exfalso; omega)
      | exact ⟨rfl, rfl, fun e => by first | exact e | rw [e]⟩
      | exact ⟨rfl, rfl, fun e => by rw [e]; rfl⟩
  · have ch3 := zk_f cc4 ch3
    have cc4n := cc4
    (try simp only [i32_lt, i32_le, i32_e, z32_0, z32_1] at cc4n)
    first
    | (exfalso; omega)
    | by_cases cc5 : court_suitCount ≤ x1
      · have ch3 := zk_t cc5 ch3
        have cc5n := cc5
        (try simp only [i32_lt, i32_le, i32_e, z32_0, z32_1] at cc5n)
        first
        | (exfalso; omega)
        | simp only [Option.some.injEq, Prod.mk.injEq] at ch3
          obtain ⟨rfl, _⟩ := ch3
          replace h := zk_t (by decide) h
          unfold B_X12_act_0 at k
          replace k := zk_o2 k
          obtain ⟨mv7, mv8, mh9, k⟩ := k
          unfold f_X12_isSuit at mh9
          unfold B_X12_isSuit_0 at mh9
          obtain ⟨mv10, mv11, mh12, mh9⟩ := zk_o2 mh9
          unfold f_X12_in at mh12
          unfold B_X12_in_0 at mh12
          have mh12 := zk_f cc4 mh12
          have mh12 := zk_t (by (try simp only [i32_lt, i32_le, i32_e, z32_0, z32_1]); omega) mh12
          simp only [Option.some.injEq, Prod.mk.injEq] at mh12
          obtain ⟨rfl, _⟩ := mh12
          obtain ⟨_, mh9⟩ := zk_gd mh9
          simp only [Option.some.injEq, Prod.mk.injEq] at mh9
          obtain ⟨rfl, _⟩ := mh9
          replace k := zk_t rfl k
          replace h := Option.some.inj h
          replace k := Option.some.inj k
          subst h
          subst k
          try dsimp only
          all_goals first
          | (exfalso; omega)
          | exact ⟨rfl, rfl, fun e => by first | exact e | rw [e]⟩
          | exact ⟨rfl, rfl, fun e => by rw [e]; rfl⟩
      · have ch3 := zk_f cc5 ch3
        have cc5n := cc5
        (try simp only [i32_lt, i32_le, i32_e, z32_0, z32_1] at cc5n)
        first
        | (exfalso; omega)
        | obtain ⟨_, ch3⟩ := zk_gd ch3
          obtain ⟨_, ch3⟩ := zk_gd ch3
          obtain ⟨_, ch3⟩ := zk_gd ch3
          simp only [Option.some.injEq, Prod.mk.injEq] at ch3
          obtain ⟨rfl, _⟩ := ch3
          replace h := zk_f cc4 h
          replace h := zk_gd h
          obtain ⟨_, h⟩ := h
          replace h := zk_o2 h
          obtain ⟨cv6, cv7, ch8, h⟩ := h
          obtain cq9 := bk8_e hB8 ch8
          replace cq9 := cq9.symm
          subst cq9
          replace h := zk_gd h
          obtain ⟨_, h⟩ := h
          replace h := zk_o4 h
          obtain ⟨cv10, cv11, cv12, cv13, ch14, h⟩ := h
          unfold f_X0_begin at ch14
          unfold B_X0_begin_0 at ch14
          simp only [Option.some.injEq, Prod.mk.injEq] at ch14
          obtain ⟨rfl, rfl, rfl, rfl⟩ := ch14
          by_cases cc15 : x2 = (0 : Int32)
          · replace h := zk_t cc15 h
            have cc15n := cc15
            (try simp only [i32_lt, i32_le, i32_e, z32_0, z32_1] at cc15n)
            first
            | (exfalso; omega)
            | obtain ⟨cv16, cv17, cv18, ch19, h⟩ := zk_o3 h
              have ch19 : f_X0_closes (grp_grp138 6) (4 : Int32) x3 (0 : Int32) (4 : Int32) x1 (S_askedCount x1.toNatClampNeg) acts_bodies = some (cv16, cv17, cv18) := ch19
              unfold f_X0_closes at ch19
              unfold B_X0_closes_0 at ch19
              have ch19 := zk_f (by decide) ch19
              have ch19 := zk_f (by decide) ch19
              have ch19 := zk_f (by decide) ch19
              have ch19 := zk_t rfl ch19
              obtain ⟨cv20, cv21, ch22, ch19⟩ := zk_o2 ch19
              unfold f_X0_above at ch22
              unfold B_X0_above_0 at ch22
              have ch22 := zk_t rfl ch22
              simp only [Option.some.injEq, Prod.mk.injEq] at ch22
              obtain ⟨rfl, _⟩ := ch22
              obtain ⟨cv23, cv24, cv25, ch26, ch19⟩ := zk_o3 ch19
              have ch26 : f_X0_closes (grp_grp138 5) (3 : Int32) x3 (0 : Int32) (4 : Int32) x1 (S_askedCount x1.toNatClampNeg) acts_bodies = some (cv23, cv24, cv25) := ch26
              unfold f_X0_closes at ch26
              unfold B_X0_closes_0 at ch26
              have ch26 := zk_f (by decide) ch26
              have ch26 := zk_f (by decide) ch26
              have ch26 := zk_t rfl ch26
              obtain ⟨cv27, cv28, ch29, ch26⟩ := zk_o2 ch26
              unfold f_X0_note at ch29
              unfold B_X0_note_0 at ch29
              have ch29 := zk_f (by decide) ch29
              obtain ⟨_, ch29⟩ := zk_gd ch29
              obtain ⟨cv30, ce31, ch29⟩ := zk_lt ch29
              subst ce31
              unfold B_X0_note_19 at ch29
              obtain ⟨cv32, ce33, ch29⟩ := zk_lt ch29
              subst ce33
              simp only [Option.some.injEq, Prod.mk.injEq] at ch29
              obtain ⟨rfl, rfl⟩ := ch29
              obtain ⟨cv34, cv35, ch36, ch26⟩ := zk_o2 ch26
              unfold f_X0_above at ch36
              unfold B_X0_above_0 at ch36
              have ch36 := zk_f (by decide) ch36
              have ch36 := zk_f (by decide) ch36
              have ch36 := zk_f (by decide) ch36
              simp only [Option.some.injEq, Prod.mk.injEq] at ch36
              obtain ⟨rfl, _⟩ := ch36
              obtain ⟨cv37, cv38, cv39, ch40, ch26⟩ := zk_o3 ch26
              have ch40 : f_X0_closes (grp_grp138 4) (0 : Int32) x3 ((0 : Int32) + (1 : Int32)) (4 : Int32) x1 (S_askedCount x1.toNatClampNeg) (upd acts_bodies (0 : Int32).toNatClampNeg (40 : Int32)) = some (cv37, cv38, cv39) := ch40
              unfold f_X0_closes at ch40
              unfold B_X0_closes_0 at ch40
              have ch40 := zk_f (by decide) ch40
              have ch40 := zk_f (by decide) ch40
              have ch40 := zk_f (by decide) ch40
              have ch40 := zk_f (by decide) ch40
              have ch40 := zk_f (by decide) ch40
              have ch40 := zk_f (by decide) ch40
              obtain ⟨cv41, cv42, ch43, ch40⟩ := zk_o2 ch40
              unfold f_X0_note at ch43
              unfold B_X0_note_0 at ch43
              have ch43 := zk_f (by decide) ch43
              obtain ⟨_, ch43⟩ := zk_gd ch43
              obtain ⟨cv44, ce45, ch43⟩ := zk_lt ch43
              subst ce45
              unfold B_X0_note_19 at ch43
              obtain ⟨cv46, ce47, ch43⟩ := zk_lt ch43
              subst ce47
              simp only [Option.some.injEq, Prod.mk.injEq] at ch43
              obtain ⟨rfl, rfl⟩ := ch43
              simp only [Option.some.injEq, Prod.mk.injEq] at ch40
              obtain ⟨rfl, rfl, rfl⟩ := ch40
              simp only [Option.some.injEq, Prod.mk.injEq] at ch26
              obtain ⟨rfl, rfl, rfl⟩ := ch26
              simp only [Option.some.injEq, Prod.mk.injEq] at ch19
              obtain ⟨rfl, rfl, rfl⟩ := ch19
              have hi : x1.toNatClampNeg < court_suitCount.toInt.toNat := by rw [tcn]; omega
              have ea : mod_askedMany x1.toNatClampNeg = S_askedCount x1.toNatClampNeg := (hA _ hi).symm
              unfold B_X12_act_0 at k
              replace k := zk_o2 k
              obtain ⟨mv13, mv14, mh15, k⟩ := k
              unfold f_X12_isSuit at mh15
              unfold B_X12_isSuit_0 at mh15
              obtain ⟨mv16, mv17, mh18, mh15⟩ := zk_o2 mh15
              unfold f_X12_in at mh18
              unfold B_X12_in_0 at mh18
              have mh18 := zk_f cc4 mh18
              have mh18 := zk_f (by (try simp only [i32_lt, i32_le, i32_e, z32_0, z32_1]); omega) mh18
              simp only [Option.some.injEq, Prod.mk.injEq] at mh18
              obtain ⟨rfl, _⟩ := mh18
              obtain ⟨_, mh15⟩ := zk_gd mh15
              simp only [Option.some.injEq, Prod.mk.injEq] at mh15
              obtain ⟨rfl, _⟩ := mh15
              replace k := zk_f (by decide) k
              replace k := zk_o2 k
              obtain ⟨mv19, mv20, mh21, k⟩ := k
              unfold f_X12_in at mh21
              unfold B_X12_in_0 at mh21
              have mh21 := zk_f (by (try simp only [i32_lt, i32_le, i32_e, z32_0, z32_1]); omega) mh21
              have mh21 := zk_f (by (try simp only [i32_lt, i32_le, i32_e, z32_0, z32_1, z32L_3]); omega) mh21
              simp only [Option.some.injEq, Prod.mk.injEq] at mh21
              obtain ⟨rfl, _⟩ := mh21
              replace k := zk_f (by decide) k
              replace k := zk_t cc15 k
              replace k := zk_o3 k
              obtain ⟨mv22, mv23, mv24, mh25, k⟩ := k
              unfold f_X12_closes at mh25
              unfold B_X12_closes_0 at mh25
              rw [ea] at mh25
              obtain ⟨mv26, mv27, mh28, mh25⟩ := zk_o2 mh25
              obtain mq29 := bk12_e (hB12 hi) mh28
              replace mq29 := mq29.symm
              subst mq29
              have mh25 := zk_f (by decide) mh25
              have mh25 := zk_t rfl mh25
              unfold B_X12_closes_16 at mh25
              obtain ⟨mv30, mv31, mh32, mh25⟩ := zk_o2 mh25
              unfold f_X12_ran at mh32
              unfold B_X12_ran_0 at mh32
              have mh32 := zk_f (by decide) mh32
              obtain ⟨_, mh32⟩ := zk_gd mh32
              obtain ⟨mv33, me34, mh32⟩ := zk_lt mh32
              subst me34
              unfold B_X12_ran_19 at mh32
              obtain ⟨mv35, me36, mh32⟩ := zk_lt mh32
              subst me36
              simp only [Option.some.injEq, Prod.mk.injEq] at mh32
              obtain ⟨rfl, rfl⟩ := mh32
              obtain ⟨mv37, mv38, mv39, mh40, mh25⟩ := zk_o3 mh25
              unfold f_X12_plainCloses at mh40
              unfold B_X12_plainCloses_0 at mh40
              obtain ⟨mv41, mv42, mh43, mh40⟩ := zk_o2 mh40
              unfold f_X12_ran at mh43
              unfold B_X12_ran_0 at mh43
              have mh43 := zk_f (by decide) mh43
              obtain ⟨_, mh43⟩ := zk_gd mh43
              obtain ⟨mv44, me45, mh43⟩ := zk_lt mh43
              subst me45
              unfold B_X12_ran_19 at mh43
              obtain ⟨mv46, me47, mh43⟩ := zk_lt mh43
              subst me47
              simp only [Option.some.injEq, Prod.mk.injEq] at mh43
              obtain ⟨rfl, rfl⟩ := mh43
              simp only [Option.some.injEq, Prod.mk.injEq] at mh40
              obtain ⟨rfl, rfl, rfl⟩ := mh40
              simp only [Option.some.injEq, Prod.mk.injEq] at mh25
              obtain ⟨rfl, rfl, rfl⟩ := mh25
              replace h := Option.some.inj h
              replace k := Option.some.inj k
              subst h
              subst k
              try dsimp only
              all_goals first
              | (exfalso; omega)
              | exact ⟨rfl, rfl, fun e => by first | exact e | rw [e]⟩
              | exact ⟨rfl, rfl, fun e => by rw [e]; rfl⟩
          · replace h := zk_f cc15 h
            have cc15n := cc15
            (try simp only [i32_lt, i32_le, i32_e, z32_0, z32_1] at cc15n)
            first
            | (exfalso; omega)
            | by_cases cc48 : x2 = (1 : Int32)
              · replace h := zk_t cc48 h
                have cc48n := cc48
                (try simp only [i32_lt, i32_le, i32_e, z32_0, z32_1] at cc48n)
                first
                | (exfalso; omega)
                | obtain ⟨cv49, cv50, cv51, ch52, h⟩ := zk_o3 h
                  have ch52 : f_X0_settles (grp_grp140 6) (4 : Int32) x3 (0 : Int32) (4 : Int32) x1 (S_askedCount x1.toNatClampNeg) acts_bodies = some (cv49, cv50, cv51) := ch52
                  unfold f_X0_settles at ch52
                  unfold B_X0_settles_0 at ch52
                  have ch52 := zk_f (by decide) ch52
                  have ch52 := zk_f (by decide) ch52
                  have ch52 := zk_f (by decide) ch52
                  have ch52 := zk_t rfl ch52
                  obtain ⟨cv53, cv54, ch55, ch52⟩ := zk_o2 ch52
                  unfold f_X0_note at ch55
                  unfold B_X0_note_0 at ch55
                  have ch55 := zk_f (by decide) ch55
                  obtain ⟨_, ch55⟩ := zk_gd ch55
                  obtain ⟨cv56, ce57, ch55⟩ := zk_lt ch55
                  subst ce57
                  unfold B_X0_note_19 at ch55
                  obtain ⟨cv58, ce59, ch55⟩ := zk_lt ch55
                  subst ce59
                  simp only [Option.some.injEq, Prod.mk.injEq] at ch55
                  obtain ⟨rfl, rfl⟩ := ch55
                  obtain ⟨cv60, cv61, ch62, ch52⟩ := zk_o2 ch52
                  unfold f_X0_above at ch62
                  unfold B_X0_above_0 at ch62
                  have ch62 := zk_t rfl ch62
                  simp only [Option.some.injEq, Prod.mk.injEq] at ch62
                  obtain ⟨rfl, _⟩ := ch62
                  obtain ⟨cv63, cv64, cv65, ch66, ch52⟩ := zk_o3 ch52
                  have ch66 : f_X0_settles (grp_grp140 5) (3 : Int32) x3 ((0 : Int32) + (1 : Int32)) (4 : Int32) x1 (S_askedCount x1.toNatClampNeg) (upd acts_bodies (0 : Int32).toNatClampNeg (50 : Int32)) = some (cv63, cv64, cv65) := ch66
                  unfold f_X0_settles at ch66
                  unfold B_X0_settles_0 at ch66
                  have ch66 := zk_f (by decide) ch66
                  have ch66 := zk_f (by decide) ch66
                  have ch66 := zk_t rfl ch66
                  obtain ⟨cv67, cv68, ch69, ch66⟩ := zk_o2 ch66
                  unfold f_X0_above at ch69
                  unfold B_X0_above_0 at ch69
                  have ch69 := zk_f (by decide) ch69
                  have ch69 := zk_f (by decide) ch69
                  have ch69 := zk_f (by decide) ch69
                  simp only [Option.some.injEq, Prod.mk.injEq] at ch69
                  obtain ⟨rfl, _⟩ := ch69
                  obtain ⟨cv70, cv71, cv72, ch73, ch66⟩ := zk_o3 ch66
                  have ch73 : f_X0_settles (grp_grp140 4) (0 : Int32) x3 ((0 : Int32) + (1 : Int32)) (4 : Int32) x1 (S_askedCount x1.toNatClampNeg) (upd acts_bodies (0 : Int32).toNatClampNeg (50 : Int32)) = some (cv70, cv71, cv72) := ch73
                  unfold f_X0_settles at ch73
                  unfold B_X0_settles_0 at ch73
                  have ch73 := zk_f (by decide) ch73
                  have ch73 := zk_f (by decide) ch73
                  have ch73 := zk_f (by decide) ch73
                  have ch73 := zk_f (by decide) ch73
                  have ch73 := zk_f (by decide) ch73
                  have ch73 := zk_f (by decide) ch73
                  obtain ⟨cv74, cv75, ch76, ch73⟩ := zk_o2 ch73
                  unfold f_X0_note at ch76
                  unfold B_X0_note_0 at ch76
                  have ch76 := zk_f (by decide) ch76
                  obtain ⟨_, ch76⟩ := zk_gd ch76
                  obtain ⟨cv77, ce78, ch76⟩ := zk_lt ch76
                  subst ce78
                  unfold B_X0_note_19 at ch76
                  obtain ⟨cv79, ce80, ch76⟩ := zk_lt ch76
                  subst ce80
                  simp only [Option.some.injEq, Prod.mk.injEq] at ch76
                  obtain ⟨rfl, rfl⟩ := ch76
                  obtain ⟨cv81, cv82, cv83, ch84, ch73⟩ := zk_o3 ch73
                  have ch84 : f_X0_closes (grp_grp138 6) (4 : Int32) x3 (((0 : Int32) + (1 : Int32)) + (1 : Int32)) (4 : Int32) x1 (S_askedCount x1.toNatClampNeg) (upd (upd acts_bodies (0 : Int32).toNatClampNeg (50 : Int32)) ((0 : Int32) + (1 : Int32)).toNatClampNeg (10 : Int32)) = some (cv81, cv82, cv83) := ch84
                  unfold f_X0_closes at ch84
                  unfold B_X0_closes_0 at ch84
                  have ch84 := zk_f (by decide) ch84
                  have ch84 := zk_f (by decide) ch84
                  have ch84 := zk_f (by decide) ch84
                  have ch84 := zk_t rfl ch84
                  obtain ⟨cv85, cv86, ch87, ch84⟩ := zk_o2 ch84
                  unfold f_X0_above at ch87
                  unfold B_X0_above_0 at ch87
                  have ch87 := zk_t rfl ch87
                  simp only [Option.some.injEq, Prod.mk.injEq] at ch87
                  obtain ⟨rfl, _⟩ := ch87
                  obtain ⟨cv88, cv89, cv90, ch91, ch84⟩ := zk_o3 ch84
                  have ch91 : f_X0_closes (grp_grp138 5) (3 : Int32) x3 (((0 : Int32) + (1 : Int32)) + (1 : Int32)) (4 : Int32) x1 (S_askedCount x1.toNatClampNeg) (upd (upd acts_bodies (0 : Int32).toNatClampNeg (50 : Int32)) ((0 : Int32) + (1 : Int32)).toNatClampNeg (10 : Int32)) = some (cv88, cv89, cv90) := ch91
                  unfold f_X0_closes at ch91
                  unfold B_X0_closes_0 at ch91
                  have ch91 := zk_f (by decide) ch91
                  have ch91 := zk_f (by decide) ch91
                  have ch91 := zk_t rfl ch91
                  obtain ⟨cv92, cv93, ch94, ch91⟩ := zk_o2 ch91
                  unfold f_X0_note at ch94
                  unfold B_X0_note_0 at ch94
                  have ch94 := zk_f (by decide) ch94
                  obtain ⟨_, ch94⟩ := zk_gd ch94
                  obtain ⟨cv95, ce96, ch94⟩ := zk_lt ch94
                  subst ce96
                  unfold B_X0_note_19 at ch94
                  obtain ⟨cv97, ce98, ch94⟩ := zk_lt ch94
                  subst ce98
                  simp only [Option.some.injEq, Prod.mk.injEq] at ch94
                  obtain ⟨rfl, rfl⟩ := ch94
                  obtain ⟨cv99, cv100, ch101, ch91⟩ := zk_o2 ch91
                  unfold f_X0_above at ch101
                  unfold B_X0_above_0 at ch101
                  have ch101 := zk_f (by decide) ch101
                  have ch101 := zk_f (by decide) ch101
                  have ch101 := zk_f (by decide) ch101
                  simp only [Option.some.injEq, Prod.mk.injEq] at ch101
                  obtain ⟨rfl, _⟩ := ch101
                  obtain ⟨cv102, cv103, cv104, ch105, ch91⟩ := zk_o3 ch91
                  have ch105 : f_X0_closes (grp_grp138 4) (0 : Int32) x3 ((((0 : Int32) + (1 : Int32)) + (1 : Int32)) + (1 : Int32)) (4 : Int32) x1 (S_askedCount x1.toNatClampNeg) (upd (upd (upd acts_bodies (0 : Int32).toNatClampNeg (50 : Int32)) ((0 : Int32) + (1 : Int32)).toNatClampNeg (10 : Int32)) (((0 : Int32) + (1 : Int32)) + (1 : Int32)).toNatClampNeg (40 : Int32)) = some (cv102, cv103, cv104) := ch105
                  unfold f_X0_closes at ch105
                  unfold B_X0_closes_0 at ch105
                  have ch105 := zk_f (by decide) ch105
                  have ch105 := zk_f (by decide) ch105
                  have ch105 := zk_f (by decide) ch105
                  have ch105 := zk_f (by decide) ch105
                  have ch105 := zk_f (by decide) ch105
                  have ch105 := zk_f (by decide) ch105
                  obtain ⟨cv106, cv107, ch108, ch105⟩ := zk_o2 ch105
                  unfold f_X0_note at ch108
                  unfold B_X0_note_0 at ch108
                  have ch108 := zk_f (by decide) ch108
                  obtain ⟨_, ch108⟩ := zk_gd ch108
                  obtain ⟨cv109, ce110, ch108⟩ := zk_lt ch108
                  subst ce110
                  unfold B_X0_note_19 at ch108
                  obtain ⟨cv111, ce112, ch108⟩ := zk_lt ch108
                  subst ce112
                  simp only [Option.some.injEq, Prod.mk.injEq] at ch108
                  obtain ⟨rfl, rfl⟩ := ch108
                  simp only [Option.some.injEq, Prod.mk.injEq] at ch105
                  obtain ⟨rfl, rfl, rfl⟩ := ch105
                  simp only [Option.some.injEq, Prod.mk.injEq] at ch91
                  obtain ⟨rfl, rfl, rfl⟩ := ch91
                  simp only [Option.some.injEq, Prod.mk.injEq] at ch84
                  obtain ⟨rfl, rfl, rfl⟩ := ch84
                  simp only [Option.some.injEq, Prod.mk.injEq] at ch73
                  obtain ⟨rfl, rfl, rfl⟩ := ch73
                  simp only [Option.some.injEq, Prod.mk.injEq] at ch66
                  obtain ⟨rfl, rfl, rfl⟩ := ch66
                  simp only [Option.some.injEq, Prod.mk.injEq] at ch52
                  obtain ⟨rfl, rfl, rfl⟩ := ch52
                  have hi : x1.toNatClampNeg < court_suitCount.toInt.toNat := by rw [tcn]; omega
                  have ea : mod_askedMany x1.toNatClampNeg = S_askedCount x1.toNatClampNeg := (hA _ hi).symm
                  unfold B_X12_act_0 at k
                  replace k := zk_o2 k
                  obtain ⟨mv48, mv49, mh50, k⟩ := k
                  unfold f_X12_isSuit at mh50
                  unfold B_X12_isSuit_0 at mh50
                  obtain ⟨mv51, mv52, mh53, mh50⟩ := zk_o2 mh50
                  unfold f_X12_in at mh53
                  unfold B_X12_in_0 at mh53
                  have mh53 := zk_f cc4 mh53
                  have mh53 := zk_f (by (try simp only [i32_lt, i32_le, i32_e, z32_0, z32_1]); omega) mh53
                  simp only [Option.some.injEq, Prod.mk.injEq] at mh53
                  obtain ⟨rfl, _⟩ := mh53
                  obtain ⟨_, mh50⟩ := zk_gd mh50
                  simp only [Option.some.injEq, Prod.mk.injEq] at mh50
                  obtain ⟨rfl, _⟩ := mh50
                  replace k := zk_f (by decide) k
                  replace k := zk_o2 k
                  obtain ⟨mv54, mv55, mh56, k⟩ := k
                  unfold f_X12_in at mh56
                  unfold B_X12_in_0 at mh56
                  have mh56 := zk_f (by (try simp only [i32_lt, i32_le, i32_e, z32_0, z32_1]); omega) mh56
                  have mh56 := zk_f (by (try simp only [i32_lt, i32_le, i32_e, z32_0, z32_1, z32L_3]); omega) mh56
                  simp only [Option.some.injEq, Prod.mk.injEq] at mh56
                  obtain ⟨rfl, _⟩ := mh56
                  replace k := zk_f (by decide) k
                  replace k := zk_f cc15 k
                  replace k := zk_t cc48 k
                  replace k := zk_o3 k
                  obtain ⟨mv57, mv58, mv59, mh60, k⟩ := k
                  unfold f_X12_settles at mh60
                  unfold B_X12_settles_0 at mh60
                  obtain ⟨mv61, mv62, mh63, mh60⟩ := zk_o2 mh60
                  obtain mq64 := bk12_e (hB12 hi) mh63
                  replace mq64 := mq64.symm
                  subst mq64
                  have mh60 := zk_t rfl mh60
                  obtain ⟨mv65, mv66, mh67, mh60⟩ := zk_o2 mh60
                  unfold f_X12_ran at mh67
                  unfold B_X12_ran_0 at mh67
                  have mh67 := zk_f (by decide) mh67
                  obtain ⟨_, mh67⟩ := zk_gd mh67
                  obtain ⟨mv68, me69, mh67⟩ := zk_lt mh67
                  subst me69
                  unfold B_X12_ran_19 at mh67
                  obtain ⟨mv70, me71, mh67⟩ := zk_lt mh67
                  subst me71
                  simp only [Option.some.injEq, Prod.mk.injEq] at mh67
                  obtain ⟨rfl, rfl⟩ := mh67
                  obtain ⟨mv72, mv73, mv74, mh75, mh60⟩ := zk_o3 mh60
                  unfold f_X12_plainSettles at mh75
                  unfold B_X12_plainSettles_0 at mh75
                  obtain ⟨mv76, mv77, mh78, mh75⟩ := zk_o2 mh75
                  unfold f_X12_ran at mh78
                  unfold B_X12_ran_0 at mh78
                  have mh78 := zk_f (by decide) mh78
                  obtain ⟨_, mh78⟩ := zk_gd mh78
                  obtain ⟨mv79, me80, mh78⟩ := zk_lt mh78
                  subst me80
                  unfold B_X12_ran_19 at mh78
                  obtain ⟨mv81, me82, mh78⟩ := zk_lt mh78
                  subst me82
                  simp only [Option.some.injEq, Prod.mk.injEq] at mh78
                  obtain ⟨rfl, rfl⟩ := mh78
                  obtain ⟨mv83, mv84, mv85, mh86, mh75⟩ := zk_o3 mh75
                  unfold f_X12_closes at mh86
                  unfold B_X12_closes_0 at mh86
                  rw [ea] at mh86
                  obtain ⟨mv87, mv88, mh89, mh86⟩ := zk_o2 mh86
                  obtain mq90 := bk12_e (hB12 hi) mh89
                  replace mq90 := mq90.symm
                  subst mq90
                  have mh86 := zk_f (by decide) mh86
                  have mh86 := zk_t rfl mh86
                  unfold B_X12_closes_16 at mh86
                  obtain ⟨mv91, mv92, mh93, mh86⟩ := zk_o2 mh86
                  unfold f_X12_ran at mh93
                  unfold B_X12_ran_0 at mh93
                  have mh93 := zk_f (by decide) mh93
                  obtain ⟨_, mh93⟩ := zk_gd mh93
                  obtain ⟨mv94, me95, mh93⟩ := zk_lt mh93
                  subst me95
                  unfold B_X12_ran_19 at mh93
                  obtain ⟨mv96, me97, mh93⟩ := zk_lt mh93
                  subst me97
                  simp only [Option.some.injEq, Prod.mk.injEq] at mh93
                  obtain ⟨rfl, rfl⟩ := mh93
                  obtain ⟨mv98, mv99, mv100, mh101, mh86⟩ := zk_o3 mh86
                  unfold f_X12_plainCloses at mh101
                  unfold B_X12_plainCloses_0 at mh101
                  obtain ⟨mv102, mv103, mh104, mh101⟩ := zk_o2 mh101
                  unfold f_X12_ran at mh104
                  unfold B_X12_ran_0 at mh104
                  have mh104 := zk_f (by decide) mh104
                  obtain ⟨_, mh104⟩ := zk_gd mh104
                  obtain ⟨mv105, me106, mh104⟩ := zk_lt mh104
                  subst me106
                  unfold B_X12_ran_19 at mh104
                  obtain ⟨mv107, me108, mh104⟩ := zk_lt mh104
                  subst me108
                  simp only [Option.some.injEq, Prod.mk.injEq] at mh104
                  obtain ⟨rfl, rfl⟩ := mh104
                  simp only [Option.some.injEq, Prod.mk.injEq] at mh101
                  obtain ⟨rfl, rfl, rfl⟩ := mh101
                  simp only [Option.some.injEq, Prod.mk.injEq] at mh86
                  obtain ⟨rfl, rfl, rfl⟩ := mh86
                  simp only [Option.some.injEq, Prod.mk.injEq] at mh75
                  obtain ⟨rfl, rfl, rfl⟩ := mh75
                  simp only [Option.some.injEq, Prod.mk.injEq] at mh60
                  obtain ⟨rfl, rfl, rfl⟩ := mh60
                  replace h := Option.some.inj h
                  replace k := Option.some.inj k
                  subst h
                  subst k
                  try dsimp only
                  all_goals first
                  | (exfalso; omega)
                  | exact ⟨rfl, rfl, fun e => by first | exact e | rw [e]⟩
                  | exact ⟨rfl, rfl, fun e => by rw [e]; rfl⟩
              · replace h := zk_f cc48 h
                have cc48n := cc48
                (try simp only [i32_lt, i32_le, i32_e, z32_0, z32_1] at cc48n)
                first
                | (exfalso; omega)
                | by_cases cc113 : x2 = (2 : Int32)
                  · replace h := zk_t cc113 h
                    have cc113n := cc113
                    (try simp only [i32_lt, i32_le, i32_e, z32_0, z32_1, z32L_2] at cc113n)
                    first
                    | (exfalso; omega)
                    | obtain ⟨cv114, cv115, cv116, ch117, h⟩ := zk_o3 h
                      have ch117 : f_X0_binds (grp_grp139 6) (4 : Int32) x3 (0 : Int32) (4 : Int32) x1 (S_askedCount x1.toNatClampNeg) acts_bodies = some (cv114, cv115, cv116) := ch117
                      unfold f_X0_binds at ch117
                      unfold B_X0_binds_0 at ch117
                      have ch117 := zk_f (by decide) ch117
                      have ch117 := zk_f (by decide) ch117
                      obtain ⟨cv118, cv119, ch120, ch117⟩ := zk_o2 ch117
                      unfold f_X0_above at ch120
                      unfold B_X0_above_0 at ch120
                      have ch120 := zk_t rfl ch120
                      simp only [Option.some.injEq, Prod.mk.injEq] at ch120
                      obtain ⟨rfl, _⟩ := ch120
                      obtain ⟨cv121, cv122, cv123, ch124, ch117⟩ := zk_o3 ch117
                      have ch124 : f_X0_binds (grp_grp139 5) (3 : Int32) x3 (0 : Int32) (4 : Int32) x1 (S_askedCount x1.toNatClampNeg) acts_bodies = some (cv121, cv122, cv123) := ch124
                      unfold f_X0_binds at ch124
                      unfold B_X0_binds_0 at ch124
                      have ch124 := zk_f (by decide) ch124
                      have ch124 := zk_f (by decide) ch124
                      obtain ⟨cv125, cv126, ch127, ch124⟩ := zk_o2 ch124
                      unfold f_X0_above at ch127
                      unfold B_X0_above_0 at ch127
                      have ch127 := zk_f (by decide) ch127
                      have ch127 := zk_f (by decide) ch127
                      have ch127 := zk_f (by decide) ch127
                      simp only [Option.some.injEq, Prod.mk.injEq] at ch127
                      obtain ⟨rfl, _⟩ := ch127
                      obtain ⟨cv128, cv129, cv130, ch131, ch124⟩ := zk_o3 ch124
                      have ch131 : f_X0_binds (grp_grp139 4) (0 : Int32) x3 (0 : Int32) (4 : Int32) x1 (S_askedCount x1.toNatClampNeg) acts_bodies = some (cv128, cv129, cv130) := ch131
                      unfold f_X0_binds at ch131
                      unfold B_X0_binds_0 at ch131
                      have ch131 := zk_f (by decide) ch131
                      have ch131 := zk_t (Int32.le_refl _) ch131
                      obtain ⟨cv132, cv133, ch134, ch131⟩ := zk_o2 ch131
                      unfold f_X0_note at ch134
                      unfold B_X0_note_0 at ch134
                      have ch134 := zk_f (by decide) ch134
                      obtain ⟨_, ch134⟩ := zk_gd ch134
                      obtain ⟨cv135, ce136, ch134⟩ := zk_lt ch134
                      subst ce136
                      unfold B_X0_note_19 at ch134
                      obtain ⟨cv137, ce138, ch134⟩ := zk_lt ch134
                      subst ce138
                      simp only [Option.some.injEq, Prod.mk.injEq] at ch134
                      obtain ⟨rfl, rfl⟩ := ch134
                      simp only [Option.some.injEq, Prod.mk.injEq] at ch131
                      obtain ⟨rfl, rfl, rfl⟩ := ch131
                      simp only [Option.some.injEq, Prod.mk.injEq] at ch124
                      obtain ⟨rfl, rfl, rfl⟩ := ch124
                      simp only [Option.some.injEq, Prod.mk.injEq] at ch117
                      obtain ⟨rfl, rfl, rfl⟩ := ch117
                      have hi : x1.toNatClampNeg < court_suitCount.toInt.toNat := by rw [tcn]; omega
                      have ea : mod_askedMany x1.toNatClampNeg = S_askedCount x1.toNatClampNeg := (hA _ hi).symm
                      unfold B_X12_act_0 at k
                      replace k := zk_o2 k
                      obtain ⟨mv109, mv110, mh111, k⟩ := k
                      unfold f_X12_isSuit at mh111
                      unfold B_X12_isSuit_0 at mh111
                      obtain ⟨mv112, mv113, mh114, mh111⟩ := zk_o2 mh111
                      unfold f_X12_in at mh114
                      unfold B_X12_in_0 at mh114
                      have mh114 := zk_f cc4 mh114
                      have mh114 := zk_f (by (try simp only [i32_lt, i32_le, i32_e, z32_0, z32_1]); omega) mh114
                      simp only [Option.some.injEq, Prod.mk.injEq] at mh114
                      obtain ⟨rfl, _⟩ := mh114
                      obtain ⟨_, mh111⟩ := zk_gd mh111
                      simp only [Option.some.injEq, Prod.mk.injEq] at mh111
                      obtain ⟨rfl, _⟩ := mh111
                      replace k := zk_f (by decide) k
                      replace k := zk_o2 k
                      obtain ⟨mv115, mv116, mh117, k⟩ := k
                      unfold f_X12_in at mh117
                      unfold B_X12_in_0 at mh117
                      have mh117 := zk_f (by (try simp only [i32_lt, i32_le, i32_e, z32_0, z32_1]); omega) mh117
                      have mh117 := zk_f (by (try simp only [i32_lt, i32_le, i32_e, z32_0, z32_1, z32L_3]); omega) mh117
                      simp only [Option.some.injEq, Prod.mk.injEq] at mh117
                      obtain ⟨rfl, _⟩ := mh117
                      replace k := zk_f (by decide) k
                      replace k := zk_f cc15 k
                      replace k := zk_f cc48 k
                      replace k := zk_t cc113 k
                      replace k := zk_o3 k
                      obtain ⟨mv118, mv119, mv120, mh121, k⟩ := k
                      unfold f_X12_binds at mh121
                      unfold B_X12_binds_0 at mh121
                      obtain ⟨mv122, mv123, mh124, mh121⟩ := zk_o2 mh121
                      obtain mq125 := bk12_e (hB12 hi) mh124
                      replace mq125 := mq125.symm
                      subst mq125
                      obtain ⟨mv126, mv127, mh128, mh121⟩ := zk_o2 mh121
                      unfold f_X12_isUnder at mh128
                      unfold B_X12_isUnder_0 at mh128
                      have mh128 := zk_f (by decide) mh128
                      have mh128 := zk_f (by decide) mh128
                      have mh128 := zk_f (by decide) mh128
                      unfold B_X12_isUnder_19 at mh128
                      have mh128 := zk_t rfl mh128
                      have mh128 := zk_f (by decide) mh128
                      unfold B_X12_isUnder_29 at mh128
                      have mh128 := zk_f (by decide) mh128
                      simp only [Option.some.injEq, Prod.mk.injEq] at mh128
                      obtain ⟨rfl, _⟩ := mh128
                      have mh121 := zk_t rfl mh121
                      obtain ⟨mv129, mv130, mv131, mh132, mh121⟩ := zk_o3 mh121
                      unfold f_X12_plainBinds at mh132
                      unfold B_X12_plainBinds_0 at mh132
                      obtain ⟨mv133, mv134, mh135, mh132⟩ := zk_o2 mh132
                      unfold f_X12_ran at mh135
                      unfold B_X12_ran_0 at mh135
                      have mh135 := zk_f (by decide) mh135
                      obtain ⟨_, mh135⟩ := zk_gd mh135
                      obtain ⟨mv136, me137, mh135⟩ := zk_lt mh135
                      subst me137
                      unfold B_X12_ran_19 at mh135
                      obtain ⟨mv138, me139, mh135⟩ := zk_lt mh135
                      subst me139
                      simp only [Option.some.injEq, Prod.mk.injEq] at mh135
                      obtain ⟨rfl, rfl⟩ := mh135
                      simp only [Option.some.injEq, Prod.mk.injEq] at mh132
                      obtain ⟨rfl, rfl, rfl⟩ := mh132
                      simp only [Option.some.injEq, Prod.mk.injEq] at mh121
                      obtain ⟨rfl, rfl, rfl⟩ := mh121
                      replace h := Option.some.inj h
                      replace k := Option.some.inj k
                      subst h
                      subst k
                      try dsimp only
                      all_goals first
                      | (exfalso; omega)
                      | exact ⟨rfl, rfl, fun e => by first | exact e | rw [e]⟩
                      | exact ⟨rfl, rfl, fun e => by rw [e]; rfl⟩
                  · replace h := zk_f cc113 h
                    have cc113n := cc113
                    (try simp only [i32_lt, i32_le, i32_e, z32_0, z32_1, z32L_2] at cc113n)
                    first
                    | (exfalso; omega)
                    | by_cases cc139 : x2 = (3 : Int32)
                      · replace h := zk_t cc139 h
                        have cc139n := cc139
                        (try simp only [i32_lt, i32_le, i32_e, z32_0, z32_1, z32L_3] at cc139n)
                        first
                        | (exfalso; omega)
                        | obtain ⟨cv140, cv141, cv142, ch143, h⟩ := zk_o3 h
                          have ch143 : f_X0_tells (grp_grp141 6) (4 : Int32) x3 (0 : Int32) (4 : Int32) x1 (S_askedCount x1.toNatClampNeg) acts_bodies = some (cv140, cv141, cv142) := ch143
                          unfold f_X0_tells at ch143
                          unfold B_X0_tells_0 at ch143
                          have ch143 := zk_t rfl ch143
                          obtain ⟨cv144, cv145, ch146, ch143⟩ := zk_o2 ch143
                          unfold f_X0_note at ch146
                          unfold B_X0_note_0 at ch146
                          have ch146 := zk_f (by decide) ch146
                          obtain ⟨_, ch146⟩ := zk_gd ch146
                          obtain ⟨cv147, ce148, ch146⟩ := zk_lt ch146
                          subst ce148
                          unfold B_X0_note_19 at ch146
                          obtain ⟨cv149, ce150, ch146⟩ := zk_lt ch146
                          subst ce150
                          simp only [Option.some.injEq, Prod.mk.injEq] at ch146
                          obtain ⟨rfl, rfl⟩ := ch146
                          obtain ⟨cv151, cv152, ch153, ch143⟩ := zk_o2 ch143
                          unfold f_X0_above at ch153
                          unfold B_X0_above_0 at ch153
                          have ch153 := zk_t rfl ch153
                          simp only [Option.some.injEq, Prod.mk.injEq] at ch153
                          obtain ⟨rfl, _⟩ := ch153
                          obtain ⟨cv154, cv155, cv156, ch157, ch143⟩ := zk_o3 ch143
                          have ch157 : f_X0_tells (grp_grp141 5) (3 : Int32) x3 ((0 : Int32) + (1 : Int32)) (4 : Int32) x1 (S_askedCount x1.toNatClampNeg) (upd acts_bodies (0 : Int32).toNatClampNeg (51 : Int32)) = some (cv154, cv155, cv156) := ch157
                          unfold f_X0_tells at ch157
                          unfold B_X0_tells_0 at ch157
                          have ch157 := zk_f (by decide) ch157
                          have ch157 := zk_f (by decide) ch157
                          obtain ⟨cv158, cv159, ch160, ch157⟩ := zk_o2 ch157
                          unfold f_X0_above at ch160
                          unfold B_X0_above_0 at ch160
                          have ch160 := zk_f (by decide) ch160
                          have ch160 := zk_f (by decide) ch160
                          have ch160 := zk_f (by decide) ch160
                          simp only [Option.some.injEq, Prod.mk.injEq] at ch160
                          obtain ⟨rfl, _⟩ := ch160
                          obtain ⟨cv161, cv162, cv163, ch164, ch157⟩ := zk_o3 ch157
                          have ch164 : f_X0_tells (grp_grp141 4) (0 : Int32) x3 ((0 : Int32) + (1 : Int32)) (4 : Int32) x1 (S_askedCount x1.toNatClampNeg) (upd acts_bodies (0 : Int32).toNatClampNeg (51 : Int32)) = some (cv161, cv162, cv163) := ch164
                          unfold f_X0_tells at ch164
                          unfold B_X0_tells_0 at ch164
                          have ch164 := zk_f (by decide) ch164
                          have ch164 := zk_t (Int32.le_refl _) ch164
                          obtain ⟨cv165, cv166, ch167, ch164⟩ := zk_o2 ch164
                          unfold f_X0_note at ch167
                          unfold B_X0_note_0 at ch167
                          have ch167 := zk_f (by decide) ch167
                          obtain ⟨_, ch167⟩ := zk_gd ch167
                          obtain ⟨cv168, ce169, ch167⟩ := zk_lt ch167
                          subst ce169
                          unfold B_X0_note_19 at ch167
                          obtain ⟨cv170, ce171, ch167⟩ := zk_lt ch167
                          subst ce171
                          simp only [Option.some.injEq, Prod.mk.injEq] at ch167
                          obtain ⟨rfl, rfl⟩ := ch167
                          obtain ⟨cv172, cv173, cv174, ch175, ch164⟩ := zk_o3 ch164
                          have ch175 : f_X0_settles (grp_grp140 6) (4 : Int32) x3 (((0 : Int32) + (1 : Int32)) + (1 : Int32)) (4 : Int32) x1 (S_askedCount x1.toNatClampNeg) (upd (upd acts_bodies (0 : Int32).toNatClampNeg (51 : Int32)) ((0 : Int32) + (1 : Int32)).toNatClampNeg (2 : Int32)) = some (cv172, cv173, cv174) := ch175
                          unfold f_X0_settles at ch175
                          unfold B_X0_settles_0 at ch175
                          have ch175 := zk_f (by decide) ch175
                          have ch175 := zk_f (by decide) ch175
                          have ch175 := zk_f (by decide) ch175
                          have ch175 := zk_t rfl ch175
                          obtain ⟨cv176, cv177, ch178, ch175⟩ := zk_o2 ch175
                          unfold f_X0_note at ch178
                          unfold B_X0_note_0 at ch178
                          have ch178 := zk_f (by decide) ch178
                          obtain ⟨_, ch178⟩ := zk_gd ch178
                          obtain ⟨cv179, ce180, ch178⟩ := zk_lt ch178
                          subst ce180
                          unfold B_X0_note_19 at ch178
                          obtain ⟨cv181, ce182, ch178⟩ := zk_lt ch178
                          subst ce182
                          simp only [Option.some.injEq, Prod.mk.injEq] at ch178
                          obtain ⟨rfl, rfl⟩ := ch178
                          obtain ⟨cv183, cv184, ch185, ch175⟩ := zk_o2 ch175
                          unfold f_X0_above at ch185
                          unfold B_X0_above_0 at ch185
                          have ch185 := zk_t rfl ch185
                          simp only [Option.some.injEq, Prod.mk.injEq] at ch185
                          obtain ⟨rfl, _⟩ := ch185
                          obtain ⟨cv186, cv187, cv188, ch189, ch175⟩ := zk_o3 ch175
                          have ch189 : f_X0_settles (grp_grp140 5) (3 : Int32) x3 ((((0 : Int32) + (1 : Int32)) + (1 : Int32)) + (1 : Int32)) (4 : Int32) x1 (S_askedCount x1.toNatClampNeg) (upd (upd (upd acts_bodies (0 : Int32).toNatClampNeg (51 : Int32)) ((0 : Int32) + (1 : Int32)).toNatClampNeg (2 : Int32)) (((0 : Int32) + (1 : Int32)) + (1 : Int32)).toNatClampNeg (50 : Int32)) = some (cv186, cv187, cv188) := ch189
                          unfold f_X0_settles at ch189
                          unfold B_X0_settles_0 at ch189
                          have ch189 := zk_f (by decide) ch189
                          have ch189 := zk_f (by decide) ch189
                          have ch189 := zk_t rfl ch189
                          obtain ⟨cv190, cv191, ch192, ch189⟩ := zk_o2 ch189
                          unfold f_X0_above at ch192
                          unfold B_X0_above_0 at ch192
                          have ch192 := zk_f (by decide) ch192
                          have ch192 := zk_f (by decide) ch192
                          have ch192 := zk_f (by decide) ch192
                          simp only [Option.some.injEq, Prod.mk.injEq] at ch192
                          obtain ⟨rfl, _⟩ := ch192
                          obtain ⟨cv193, cv194, cv195, ch196, ch189⟩ := zk_o3 ch189
                          have ch196 : f_X0_settles (grp_grp140 4) (0 : Int32) x3 ((((0 : Int32) + (1 : Int32)) + (1 : Int32)) + (1 : Int32)) (4 : Int32) x1 (S_askedCount x1.toNatClampNeg) (upd (upd (upd acts_bodies (0 : Int32).toNatClampNeg (51 : Int32)) ((0 : Int32) + (1 : Int32)).toNatClampNeg (2 : Int32)) (((0 : Int32) + (1 : Int32)) + (1 : Int32)).toNatClampNeg (50 : Int32)) = some (cv193, cv194, cv195) := ch196
                          unfold f_X0_settles at ch196
                          unfold B_X0_settles_0 at ch196
                          have ch196 := zk_f (by decide) ch196
                          have ch196 := zk_f (by decide) ch196
                          have ch196 := zk_f (by decide) ch196
                          have ch196 := zk_f (by decide) ch196
                          have ch196 := zk_f (by decide) ch196
                          have ch196 := zk_f (by decide) ch196
                          obtain ⟨cv197, cv198, ch199, ch196⟩ := zk_o2 ch196
                          unfold f_X0_note at ch199
                          unfold B_X0_note_0 at ch199
                          have ch199 := zk_f (by decide) ch199
                          obtain ⟨_, ch199⟩ := zk_gd ch199
                          obtain ⟨cv200, ce201, ch199⟩ := zk_lt ch199
                          subst ce201
                          unfold B_X0_note_19 at ch199
                          obtain ⟨cv202, ce203, ch199⟩ := zk_lt ch199
                          subst ce203
                          simp only [Option.some.injEq, Prod.mk.injEq] at ch199
                          obtain ⟨rfl, rfl⟩ := ch199
                          obtain ⟨cv204, cv205, cv206, ch207, ch196⟩ := zk_o3 ch196
                          have ch207 : f_X0_closes (grp_grp138 6) (4 : Int32) x3 (((((0 : Int32) + (1 : Int32)) + (1 : Int32)) + (1 : Int32)) + (1 : Int32)) (4 : Int32) x1 (S_askedCount x1.toNatClampNeg) (upd (upd (upd (upd acts_bodies (0 : Int32).toNatClampNeg (51 : Int32)) ((0 : Int32) + (1 : Int32)).toNatClampNeg (2 : Int32)) (((0 : Int32) + (1 : Int32)) + (1 : Int32)).toNatClampNeg (50 : Int32)) ((((0 : Int32) + (1 : Int32)) + (1 : Int32)) + (1 : Int32)).toNatClampNeg (10 : Int32)) = some (cv204, cv205, cv206) := ch207
                          unfold f_X0_closes at ch207
                          unfold B_X0_closes_0 at ch207
                          have ch207 := zk_f (by decide) ch207
                          have ch207 := zk_f (by decide) ch207
                          have ch207 := zk_f (by decide) ch207
                          have ch207 := zk_t rfl ch207
                          obtain ⟨cv208, cv209, ch210, ch207⟩ := zk_o2 ch207
                          unfold f_X0_above at ch210
                          unfold B_X0_above_0 at ch210
                          have ch210 := zk_t rfl ch210
                          simp only [Option.some.injEq, Prod.mk.injEq] at ch210
                          obtain ⟨rfl, _⟩ := ch210
                          obtain ⟨cv211, cv212, cv213, ch214, ch207⟩ := zk_o3 ch207
                          have ch214 : f_X0_closes (grp_grp138 5) (3 : Int32) x3 (((((0 : Int32) + (1 : Int32)) + (1 : Int32)) + (1 : Int32)) + (1 : Int32)) (4 : Int32) x1 (S_askedCount x1.toNatClampNeg) (upd (upd (upd (upd acts_bodies (0 : Int32).toNatClampNeg (51 : Int32)) ((0 : Int32) + (1 : Int32)).toNatClampNeg (2 : Int32)) (((0 : Int32) + (1 : Int32)) + (1 : Int32)).toNatClampNeg (50 : Int32)) ((((0 : Int32) + (1 : Int32)) + (1 : Int32)) + (1 : Int32)).toNatClampNeg (10 : Int32)) = some (cv211, cv212, cv213) := ch214
                          unfold f_X0_closes at ch214
                          unfold B_X0_closes_0 at ch214
                          have ch214 := zk_f (by decide) ch214
                          have ch214 := zk_f (by decide) ch214
                          have ch214 := zk_t rfl ch214
                          obtain ⟨cv215, cv216, ch217, ch214⟩ := zk_o2 ch214
                          unfold f_X0_note at ch217
                          unfold B_X0_note_0 at ch217
                          have ch217 := zk_f (by decide) ch217
                          obtain ⟨_, ch217⟩ := zk_gd ch217
                          obtain ⟨cv218, ce219, ch217⟩ := zk_lt ch217
                          subst ce219
                          unfold B_X0_note_19 at ch217
                          obtain ⟨cv220, ce221, ch217⟩ := zk_lt ch217
                          subst ce221
                          simp only [Option.some.injEq, Prod.mk.injEq] at ch217
                          obtain ⟨rfl, rfl⟩ := ch217
                          obtain ⟨cv222, cv223, ch224, ch214⟩ := zk_o2 ch214
                          unfold f_X0_above at ch224
                          unfold B_X0_above_0 at ch224
                          have ch224 := zk_f (by decide) ch224
                          have ch224 := zk_f (by decide) ch224
                          have ch224 := zk_f (by decide) ch224
                          simp only [Option.some.injEq, Prod.mk.injEq] at ch224
                          obtain ⟨rfl, _⟩ := ch224
                          obtain ⟨cv225, cv226, cv227, ch228, ch214⟩ := zk_o3 ch214
                          have ch228 : f_X0_closes (grp_grp138 4) (0 : Int32) x3 ((((((0 : Int32) + (1 : Int32)) + (1 : Int32)) + (1 : Int32)) + (1 : Int32)) + (1 : Int32)) (4 : Int32) x1 (S_askedCount x1.toNatClampNeg) (upd (upd (upd (upd (upd acts_bodies (0 : Int32).toNatClampNeg (51 : Int32)) ((0 : Int32) + (1 : Int32)).toNatClampNeg (2 : Int32)) (((0 : Int32) + (1 : Int32)) + (1 : Int32)).toNatClampNeg (50 : Int32)) ((((0 : Int32) + (1 : Int32)) + (1 : Int32)) + (1 : Int32)).toNatClampNeg (10 : Int32)) (((((0 : Int32) + (1 : Int32)) + (1 : Int32)) + (1 : Int32)) + (1 : Int32)).toNatClampNeg (40 : Int32)) = some (cv225, cv226, cv227) := ch228
                          unfold f_X0_closes at ch228
                          unfold B_X0_closes_0 at ch228
                          have ch228 := zk_f (by decide) ch228
                          have ch228 := zk_f (by decide) ch228
                          have ch228 := zk_f (by decide) ch228
                          have ch228 := zk_f (by decide) ch228
                          have ch228 := zk_f (by decide) ch228
                          have ch228 := zk_f (by decide) ch228
                          obtain ⟨cv229, cv230, ch231, ch228⟩ := zk_o2 ch228
                          unfold f_X0_note at ch231
                          unfold B_X0_note_0 at ch231
                          have ch231 := zk_f (by decide) ch231
                          obtain ⟨_, ch231⟩ := zk_gd ch231
                          obtain ⟨cv232, ce233, ch231⟩ := zk_lt ch231
                          subst ce233
                          unfold B_X0_note_19 at ch231
                          obtain ⟨cv234, ce235, ch231⟩ := zk_lt ch231
                          subst ce235
                          simp only [Option.some.injEq, Prod.mk.injEq] at ch231
                          obtain ⟨rfl, rfl⟩ := ch231
                          simp only [Option.some.injEq, Prod.mk.injEq] at ch228
                          obtain ⟨rfl, rfl, rfl⟩ := ch228
                          simp only [Option.some.injEq, Prod.mk.injEq] at ch214
                          obtain ⟨rfl, rfl, rfl⟩ := ch214
                          simp only [Option.some.injEq, Prod.mk.injEq] at ch207
                          obtain ⟨rfl, rfl, rfl⟩ := ch207
                          simp only [Option.some.injEq, Prod.mk.injEq] at ch196
                          obtain ⟨rfl, rfl, rfl⟩ := ch196
                          simp only [Option.some.injEq, Prod.mk.injEq] at ch189
                          obtain ⟨rfl, rfl, rfl⟩ := ch189
                          simp only [Option.some.injEq, Prod.mk.injEq] at ch175
                          obtain ⟨rfl, rfl, rfl⟩ := ch175
                          obtain ⟨cv236, cv237, cv238, ch239, ch164⟩ := zk_o3 ch164
                          have ch239 : f_X0_binds (grp_grp139 6) (4 : Int32) (1 : Int32) (((((((0 : Int32) + (1 : Int32)) + (1 : Int32)) + (1 : Int32)) + (1 : Int32)) + (1 : Int32)) + (1 : Int32)) (4 : Int32) x1 (S_askedCount x1.toNatClampNeg) (upd (upd (upd (upd (upd (upd acts_bodies (0 : Int32).toNatClampNeg (51 : Int32)) ((0 : Int32) + (1 : Int32)).toNatClampNeg (2 : Int32)) (((0 : Int32) + (1 : Int32)) + (1 : Int32)).toNatClampNeg (50 : Int32)) ((((0 : Int32) + (1 : Int32)) + (1 : Int32)) + (1 : Int32)).toNatClampNeg (10 : Int32)) (((((0 : Int32) + (1 : Int32)) + (1 : Int32)) + (1 : Int32)) + (1 : Int32)).toNatClampNeg (40 : Int32)) ((((((0 : Int32) + (1 : Int32)) + (1 : Int32)) + (1 : Int32)) + (1 : Int32)) + (1 : Int32)).toNatClampNeg (1 : Int32)) = some (cv236, cv237, cv238) := ch239
                          unfold f_X0_binds at ch239
                          unfold B_X0_binds_0 at ch239
                          have ch239 := zk_f (by decide) ch239
                          have ch239 := zk_f (by decide) ch239
                          obtain ⟨cv240, cv241, ch242, ch239⟩ := zk_o2 ch239
                          unfold f_X0_above at ch242
                          unfold B_X0_above_0 at ch242
                          have ch242 := zk_t rfl ch242
                          simp only [Option.some.injEq, Prod.mk.injEq] at ch242
                          obtain ⟨rfl, _⟩ := ch242
                          obtain ⟨cv243, cv244, cv245, ch246, ch239⟩ := zk_o3 ch239
                          have ch246 : f_X0_binds (grp_grp139 5) (3 : Int32) (1 : Int32) (((((((0 : Int32) + (1 : Int32)) + (1 : Int32)) + (1 : Int32)) + (1 : Int32)) + (1 : Int32)) + (1 : Int32)) (4 : Int32) x1 (S_askedCount x1.toNatClampNeg) (upd (upd (upd (upd (upd (upd acts_bodies (0 : Int32).toNatClampNeg (51 : Int32)) ((0 : Int32) + (1 : Int32)).toNatClampNeg (2 : Int32)) (((0 : Int32) + (1 : Int32)) + (1 : Int32)).toNatClampNeg (50 : Int32)) ((((0 : Int32) + (1 : Int32)) + (1 : Int32)) + (1 : Int32)).toNatClampNeg (10 : Int32)) (((((0 : Int32) + (1 : Int32)) + (1 : Int32)) + (1 : Int32)) + (1 : Int32)).toNatClampNeg (40 : Int32)) ((((((0 : Int32) + (1 : Int32)) + (1 : Int32)) + (1 : Int32)) + (1 : Int32)) + (1 : Int32)).toNatClampNeg (1 : Int32)) = some (cv243, cv244, cv245) := ch246
                          unfold f_X0_binds at ch246
                          unfold B_X0_binds_0 at ch246
                          have ch246 := zk_f (by decide) ch246
                          have ch246 := zk_f (by decide) ch246
                          obtain ⟨cv247, cv248, ch249, ch246⟩ := zk_o2 ch246
                          unfold f_X0_above at ch249
                          unfold B_X0_above_0 at ch249
                          have ch249 := zk_f (by decide) ch249
                          have ch249 := zk_f (by decide) ch249
                          have ch249 := zk_f (by decide) ch249
                          simp only [Option.some.injEq, Prod.mk.injEq] at ch249
                          obtain ⟨rfl, _⟩ := ch249
                          obtain ⟨cv250, cv251, cv252, ch253, ch246⟩ := zk_o3 ch246
                          have ch253 : f_X0_binds (grp_grp139 4) (0 : Int32) (1 : Int32) (((((((0 : Int32) + (1 : Int32)) + (1 : Int32)) + (1 : Int32)) + (1 : Int32)) + (1 : Int32)) + (1 : Int32)) (4 : Int32) x1 (S_askedCount x1.toNatClampNeg) (upd (upd (upd (upd (upd (upd acts_bodies (0 : Int32).toNatClampNeg (51 : Int32)) ((0 : Int32) + (1 : Int32)).toNatClampNeg (2 : Int32)) (((0 : Int32) + (1 : Int32)) + (1 : Int32)).toNatClampNeg (50 : Int32)) ((((0 : Int32) + (1 : Int32)) + (1 : Int32)) + (1 : Int32)).toNatClampNeg (10 : Int32)) (((((0 : Int32) + (1 : Int32)) + (1 : Int32)) + (1 : Int32)) + (1 : Int32)).toNatClampNeg (40 : Int32)) ((((((0 : Int32) + (1 : Int32)) + (1 : Int32)) + (1 : Int32)) + (1 : Int32)) + (1 : Int32)).toNatClampNeg (1 : Int32)) = some (cv250, cv251, cv252) := ch253
                          unfold f_X0_binds at ch253
                          unfold B_X0_binds_0 at ch253
                          have ch253 := zk_f (by decide) ch253
                          have ch253 := zk_t (Int32.le_refl _) ch253
                          obtain ⟨cv254, cv255, ch256, ch253⟩ := zk_o2 ch253
                          unfold f_X0_note at ch256
                          unfold B_X0_note_0 at ch256
                          have ch256 := zk_f (by decide) ch256
                          obtain ⟨_, ch256⟩ := zk_gd ch256
                          obtain ⟨cv257, ce258, ch256⟩ := zk_lt ch256
                          subst ce258
                          unfold B_X0_note_19 at ch256
                          obtain ⟨cv259, ce260, ch256⟩ := zk_lt ch256
                          subst ce260
                          simp only [Option.some.injEq, Prod.mk.injEq] at ch256
                          obtain ⟨rfl, rfl⟩ := ch256
                          simp only [Option.some.injEq, Prod.mk.injEq] at ch253
                          obtain ⟨rfl, rfl, rfl⟩ := ch253
                          simp only [Option.some.injEq, Prod.mk.injEq] at ch246
                          obtain ⟨rfl, rfl, rfl⟩ := ch246
                          simp only [Option.some.injEq, Prod.mk.injEq] at ch239
                          obtain ⟨rfl, rfl, rfl⟩ := ch239
                          simp only [Option.some.injEq, Prod.mk.injEq] at ch164
                          obtain ⟨rfl, rfl, rfl⟩ := ch164
                          simp only [Option.some.injEq, Prod.mk.injEq] at ch157
                          obtain ⟨rfl, rfl, rfl⟩ := ch157
                          simp only [Option.some.injEq, Prod.mk.injEq] at ch143
                          obtain ⟨rfl, rfl, rfl⟩ := ch143
                          have hi : x1.toNatClampNeg < court_suitCount.toInt.toNat := by rw [tcn]; omega
                          have ea : mod_askedMany x1.toNatClampNeg = S_askedCount x1.toNatClampNeg := (hA _ hi).symm
                          unfold B_X12_act_0 at k
                          replace k := zk_o2 k
                          obtain ⟨mv140, mv141, mh142, k⟩ := k
                          unfold f_X12_isSuit at mh142
                          unfold B_X12_isSuit_0 at mh142
                          obtain ⟨mv143, mv144, mh145, mh142⟩ := zk_o2 mh142
                          unfold f_X12_in at mh145
                          unfold B_X12_in_0 at mh145
                          have mh145 := zk_f cc4 mh145
                          have mh145 := zk_f (by (try simp only [i32_lt, i32_le, i32_e, z32_0, z32_1]); omega) mh145
                          simp only [Option.some.injEq, Prod.mk.injEq] at mh145
                          obtain ⟨rfl, _⟩ := mh145
                          obtain ⟨_, mh142⟩ := zk_gd mh142
                          simp only [Option.some.injEq, Prod.mk.injEq] at mh142
                          obtain ⟨rfl, _⟩ := mh142
                          replace k := zk_f (by decide) k
                          replace k := zk_o2 k
                          obtain ⟨mv146, mv147, mh148, k⟩ := k
                          unfold f_X12_in at mh148
                          unfold B_X12_in_0 at mh148
                          have mh148 := zk_f (by (try simp only [i32_lt, i32_le, i32_e, z32_0, z32_1]); omega) mh148
                          have mh148 := zk_f (by (try simp only [i32_lt, i32_le, i32_e, z32_0, z32_1, z32L_3]); omega) mh148
                          simp only [Option.some.injEq, Prod.mk.injEq] at mh148
                          obtain ⟨rfl, _⟩ := mh148
                          replace k := zk_f (by decide) k
                          replace k := zk_f cc15 k
                          replace k := zk_f cc48 k
                          replace k := zk_f cc113 k
                          replace k := zk_o3 k
                          obtain ⟨mv149, mv150, mv151, mh152, k⟩ := k
                          unfold f_X12_tells at mh152
                          unfold B_X12_tells_0 at mh152
                          obtain ⟨mv153, mv154, mh155, mh152⟩ := zk_o2 mh152
                          obtain mq156 := bk12_e (hB12 hi) mh155
                          replace mq156 := mq156.symm
                          subst mq156
                          have mh152 := zk_t rfl mh152
                          obtain ⟨mv157, mv158, mh159, mh152⟩ := zk_o2 mh152
                          unfold f_X12_ran at mh159
                          unfold B_X12_ran_0 at mh159
                          have mh159 := zk_f (by decide) mh159
                          obtain ⟨_, mh159⟩ := zk_gd mh159
                          obtain ⟨mv160, me161, mh159⟩ := zk_lt mh159
                          subst me161
                          unfold B_X12_ran_19 at mh159
                          obtain ⟨mv162, me163, mh159⟩ := zk_lt mh159
                          subst me163
                          simp only [Option.some.injEq, Prod.mk.injEq] at mh159
                          obtain ⟨rfl, rfl⟩ := mh159
                          obtain ⟨mv164, mv165, mv166, mh167, mh152⟩ := zk_o3 mh152
                          unfold f_X12_plainTells at mh167
                          unfold B_X12_plainTells_0 at mh167
                          obtain ⟨mv168, mv169, mh170, mh167⟩ := zk_o2 mh167
                          unfold f_X12_ran at mh170
                          unfold B_X12_ran_0 at mh170
                          have mh170 := zk_f (by decide) mh170
                          obtain ⟨_, mh170⟩ := zk_gd mh170
                          obtain ⟨mv171, me172, mh170⟩ := zk_lt mh170
                          subst me172
                          unfold B_X12_ran_19 at mh170
                          obtain ⟨mv173, me174, mh170⟩ := zk_lt mh170
                          subst me174
                          simp only [Option.some.injEq, Prod.mk.injEq] at mh170
                          obtain ⟨rfl, rfl⟩ := mh170
                          obtain ⟨mv175, mv176, mv177, mh178, mh167⟩ := zk_o3 mh167
                          unfold f_X12_settles at mh178
                          unfold B_X12_settles_0 at mh178
                          obtain ⟨mv179, mv180, mh181, mh178⟩ := zk_o2 mh178
                          obtain mq182 := bk12_e (hB12 hi) mh181
                          replace mq182 := mq182.symm
                          subst mq182
                          have mh178 := zk_t rfl mh178
                          obtain ⟨mv183, mv184, mh185, mh178⟩ := zk_o2 mh178
                          unfold f_X12_ran at mh185
                          unfold B_X12_ran_0 at mh185
                          have mh185 := zk_f (by decide) mh185
                          obtain ⟨_, mh185⟩ := zk_gd mh185
                          obtain ⟨mv186, me187, mh185⟩ := zk_lt mh185
                          subst me187
                          unfold B_X12_ran_19 at mh185
                          obtain ⟨mv188, me189, mh185⟩ := zk_lt mh185
                          subst me189
                          simp only [Option.some.injEq, Prod.mk.injEq] at mh185
                          obtain ⟨rfl, rfl⟩ := mh185
                          obtain ⟨mv190, mv191, mv192, mh193, mh178⟩ := zk_o3 mh178
                          unfold f_X12_plainSettles at mh193
                          unfold B_X12_plainSettles_0 at mh193
                          obtain ⟨mv194, mv195, mh196, mh193⟩ := zk_o2 mh193
                          unfold f_X12_ran at mh196
                          unfold B_X12_ran_0 at mh196
                          have mh196 := zk_f (by decide) mh196
                          obtain ⟨_, mh196⟩ := zk_gd mh196
                          obtain ⟨mv197, me198, mh196⟩ := zk_lt mh196
                          subst me198
                          unfold B_X12_ran_19 at mh196
                          obtain ⟨mv199, me200, mh196⟩ := zk_lt mh196
                          subst me200
                          simp only [Option.some.injEq, Prod.mk.injEq] at mh196
                          obtain ⟨rfl, rfl⟩ := mh196
                          obtain ⟨mv201, mv202, mv203, mh204, mh193⟩ := zk_o3 mh193
                          unfold f_X12_closes at mh204
                          unfold B_X12_closes_0 at mh204
                          rw [ea] at mh204
                          obtain ⟨mv205, mv206, mh207, mh204⟩ := zk_o2 mh204
                          obtain mq208 := bk12_e (hB12 hi) mh207
                          replace mq208 := mq208.symm
                          subst mq208
                          have mh204 := zk_f (by decide) mh204
                          have mh204 := zk_t rfl mh204
                          unfold B_X12_closes_16 at mh204
                          obtain ⟨mv209, mv210, mh211, mh204⟩ := zk_o2 mh204
                          unfold f_X12_ran at mh211
                          unfold B_X12_ran_0 at mh211
                          have mh211 := zk_f (by decide) mh211
                          obtain ⟨_, mh211⟩ := zk_gd mh211
                          obtain ⟨mv212, me213, mh211⟩ := zk_lt mh211
                          subst me213
                          unfold B_X12_ran_19 at mh211
                          obtain ⟨mv214, me215, mh211⟩ := zk_lt mh211
                          subst me215
                          simp only [Option.some.injEq, Prod.mk.injEq] at mh211
                          obtain ⟨rfl, rfl⟩ := mh211
                          obtain ⟨mv216, mv217, mv218, mh219, mh204⟩ := zk_o3 mh204
                          unfold f_X12_plainCloses at mh219
                          unfold B_X12_plainCloses_0 at mh219
                          obtain ⟨mv220, mv221, mh222, mh219⟩ := zk_o2 mh219
                          unfold f_X12_ran at mh222
                          unfold B_X12_ran_0 at mh222
                          have mh222 := zk_f (by decide) mh222
                          obtain ⟨_, mh222⟩ := zk_gd mh222
                          obtain ⟨mv223, me224, mh222⟩ := zk_lt mh222
                          subst me224
                          unfold B_X12_ran_19 at mh222
                          obtain ⟨mv225, me226, mh222⟩ := zk_lt mh222
                          subst me226
                          simp only [Option.some.injEq, Prod.mk.injEq] at mh222
                          obtain ⟨rfl, rfl⟩ := mh222
                          simp only [Option.some.injEq, Prod.mk.injEq] at mh219
                          obtain ⟨rfl, rfl, rfl⟩ := mh219
                          simp only [Option.some.injEq, Prod.mk.injEq] at mh204
                          obtain ⟨rfl, rfl, rfl⟩ := mh204
                          simp only [Option.some.injEq, Prod.mk.injEq] at mh193
                          obtain ⟨rfl, rfl, rfl⟩ := mh193
                          simp only [Option.some.injEq, Prod.mk.injEq] at mh178
                          obtain ⟨rfl, rfl, rfl⟩ := mh178
                          obtain ⟨mv227, mv228, mv229, mh230, mh167⟩ := zk_o3 mh167
                          unfold f_X12_binds at mh230
                          unfold B_X12_binds_0 at mh230
                          obtain ⟨mv231, mv232, mh233, mh230⟩ := zk_o2 mh230
                          obtain mq234 := bk12_e (hB12 hi) mh233
                          replace mq234 := mq234.symm
                          subst mq234
                          obtain ⟨mv235, mv236, mh237, mh230⟩ := zk_o2 mh230
                          unfold f_X12_isUnder at mh237
                          unfold B_X12_isUnder_0 at mh237
                          have mh237 := zk_f (by decide) mh237
                          have mh237 := zk_f (by decide) mh237
                          have mh237 := zk_f (by decide) mh237
                          unfold B_X12_isUnder_19 at mh237
                          have mh237 := zk_t rfl mh237
                          have mh237 := zk_f (by decide) mh237
                          unfold B_X12_isUnder_29 at mh237
                          have mh237 := zk_f (by decide) mh237
                          simp only [Option.some.injEq, Prod.mk.injEq] at mh237
                          obtain ⟨rfl, _⟩ := mh237
                          have mh230 := zk_t rfl mh230
                          obtain ⟨mv238, mv239, mv240, mh241, mh230⟩ := zk_o3 mh230
                          unfold f_X12_plainBinds at mh241
                          unfold B_X12_plainBinds_0 at mh241
                          obtain ⟨mv242, mv243, mh244, mh241⟩ := zk_o2 mh241
                          unfold f_X12_ran at mh244
                          unfold B_X12_ran_0 at mh244
                          have mh244 := zk_f (by decide) mh244
                          obtain ⟨_, mh244⟩ := zk_gd mh244
                          obtain ⟨mv245, me246, mh244⟩ := zk_lt mh244
                          subst me246
                          unfold B_X12_ran_19 at mh244
                          obtain ⟨mv247, me248, mh244⟩ := zk_lt mh244
                          subst me248
                          simp only [Option.some.injEq, Prod.mk.injEq] at mh244
                          obtain ⟨rfl, rfl⟩ := mh244
                          simp only [Option.some.injEq, Prod.mk.injEq] at mh241
                          obtain ⟨rfl, rfl, rfl⟩ := mh241
                          simp only [Option.some.injEq, Prod.mk.injEq] at mh230
                          obtain ⟨rfl, rfl, rfl⟩ := mh230
                          simp only [Option.some.injEq, Prod.mk.injEq] at mh167
                          obtain ⟨rfl, rfl, rfl⟩ := mh167
                          simp only [Option.some.injEq, Prod.mk.injEq] at mh152
                          obtain ⟨rfl, rfl, rfl⟩ := mh152
                          replace h := Option.some.inj h
                          replace k := Option.some.inj k
                          subst h
                          subst k
                          try dsimp only
                          all_goals first
                          | (exfalso; omega)
                          | exact ⟨rfl, rfl, fun e => by first | exact e | rw [e]⟩
                          | exact ⟨rfl, rfl, fun e => by rw [e]; rfl⟩
                      · replace h := zk_f cc139 h
                        have cc139n := cc139
                        (try simp only [i32_lt, i32_le, i32_e, z32_0, z32_1, z32L_3] at cc139n)
                        first
                        | (exfalso; omega)
                        | have hi : x1.toNatClampNeg < court_suitCount.toInt.toNat := by rw [tcn]; omega
                          have ea : mod_askedMany x1.toNatClampNeg = S_askedCount x1.toNatClampNeg := (hA _ hi).symm
                          unfold B_X12_act_0 at k
                          replace k := zk_o2 k
                          obtain ⟨mv249, mv250, mh251, k⟩ := k
                          unfold f_X12_isSuit at mh251
                          unfold B_X12_isSuit_0 at mh251
                          obtain ⟨mv252, mv253, mh254, mh251⟩ := zk_o2 mh251
                          unfold f_X12_in at mh254
                          unfold B_X12_in_0 at mh254
                          have mh254 := zk_f cc4 mh254
                          have mh254 := zk_f (by (try simp only [i32_lt, i32_le, i32_e, z32_0, z32_1]); omega) mh254
                          simp only [Option.some.injEq, Prod.mk.injEq] at mh254
                          obtain ⟨rfl, _⟩ := mh254
                          obtain ⟨_, mh251⟩ := zk_gd mh251
                          simp only [Option.some.injEq, Prod.mk.injEq] at mh251
                          obtain ⟨rfl, _⟩ := mh251
                          replace k := zk_f (by decide) k
                          replace k := zk_o2 k
                          obtain ⟨mv255, mv256, mh257, k⟩ := k
                          unfold f_X12_in at mh257
                          unfold B_X12_in_0 at mh257
                          by_cases mc258 : x2 < (0 : Int32)
                          · have mh257 := zk_t mc258 mh257
                            have mc258n := mc258
                            (try simp only [i32_lt, i32_le, i32_e, z32_0, z32_1] at mc258n)
                            first
                            | (exfalso; omega)
                            | simp only [Option.some.injEq, Prod.mk.injEq] at mh257
                              obtain ⟨rfl, _⟩ := mh257
                              replace k := zk_t rfl k
                              replace h := Option.some.inj h
                              replace k := Option.some.inj k
                              subst h
                              subst k
                              try dsimp only
                              all_goals first
                              | (exfalso; omega)
                              | exact ⟨rfl, rfl, fun e => by first | exact e | rw [e]⟩
                              | exact ⟨rfl, rfl, fun e => by rw [e]; rfl⟩
                          · have mh257 := zk_f mc258 mh257
                            have mc258n := mc258
                            (try simp only [i32_lt, i32_le, i32_e, z32_0, z32_1] at mc258n)
                            first
                            | (exfalso; omega)
                            | by_cases mc259 : (3 : Int32) < x2
                              · have mh257 := zk_t mc259 mh257
                                have mc259n := mc259
                                (try simp only [i32_lt, i32_le, i32_e, z32_0, z32_1, z32L_3] at mc259n)
                                first
                                | (exfalso; omega)
                                | simp only [Option.some.injEq, Prod.mk.injEq] at mh257
                                  obtain ⟨rfl, _⟩ := mh257
                                  replace k := zk_t rfl k
                                  replace h := Option.some.inj h
                                  replace k := Option.some.inj k
                                  subst h
                                  subst k
                                  try dsimp only
                                  all_goals first
                                  | (exfalso; omega)
                                  | exact ⟨rfl, rfl, fun e => by first | exact e | rw [e]⟩
                                  | exact ⟨rfl, rfl, fun e => by rw [e]; rfl⟩
                              · have mh257 := zk_f mc259 mh257
                                have mc259n := mc259
                                (try simp only [i32_lt, i32_le, i32_e, z32_0, z32_1, z32L_3] at mc259n)
                                first
                                | (exfalso; omega)
                                | simp only [Option.some.injEq, Prod.mk.injEq] at mh257
                                  obtain ⟨rfl, _⟩ := mh257
                                  replace k := zk_f (by decide) k
                                  replace k := zk_f cc15 k
                                  replace k := zk_f cc48 k
                                  replace k := zk_f cc113 k
                                  replace k := zk_o3 k
                                  obtain ⟨mv260, mv261, mv262, mh263, k⟩ := k
                                  unfold f_X12_tells at mh263
                                  unfold B_X12_tells_0 at mh263
                                  obtain ⟨mv264, mv265, mh266, mh263⟩ := zk_o2 mh263
                                  obtain mq267 := bk12_e (hB12 hi) mh266
                                  replace mq267 := mq267.symm
                                  subst mq267
                                  have mh263 := zk_t rfl mh263
                                  obtain ⟨mv268, mv269, mh270, mh263⟩ := zk_o2 mh263
                                  unfold f_X12_ran at mh270
                                  unfold B_X12_ran_0 at mh270
                                  have mh270 := zk_f (by decide) mh270
                                  obtain ⟨_, mh270⟩ := zk_gd mh270
                                  obtain ⟨mv271, me272, mh270⟩ := zk_lt mh270
                                  subst me272
                                  unfold B_X12_ran_19 at mh270
                                  obtain ⟨mv273, me274, mh270⟩ := zk_lt mh270
                                  subst me274
                                  simp only [Option.some.injEq, Prod.mk.injEq] at mh270
                                  obtain ⟨rfl, rfl⟩ := mh270
                                  obtain ⟨mv275, mv276, mv277, mh278, mh263⟩ := zk_o3 mh263
                                  unfold f_X12_plainTells at mh278
                                  unfold B_X12_plainTells_0 at mh278
                                  obtain ⟨mv279, mv280, mh281, mh278⟩ := zk_o2 mh278
                                  unfold f_X12_ran at mh281
                                  unfold B_X12_ran_0 at mh281
                                  have mh281 := zk_f (by decide) mh281
                                  obtain ⟨_, mh281⟩ := zk_gd mh281
                                  obtain ⟨mv282, me283, mh281⟩ := zk_lt mh281
                                  subst me283
                                  unfold B_X12_ran_19 at mh281
                                  obtain ⟨mv284, me285, mh281⟩ := zk_lt mh281
                                  subst me285
                                  simp only [Option.some.injEq, Prod.mk.injEq] at mh281
                                  obtain ⟨rfl, rfl⟩ := mh281
                                  obtain ⟨mv286, mv287, mv288, mh289, mh278⟩ := zk_o3 mh278
                                  unfold f_X12_settles at mh289
                                  unfold B_X12_settles_0 at mh289
                                  obtain ⟨mv290, mv291, mh292, mh289⟩ := zk_o2 mh289
                                  obtain mq293 := bk12_e (hB12 hi) mh292
                                  replace mq293 := mq293.symm
                                  subst mq293
                                  have mh289 := zk_t rfl mh289
                                  obtain ⟨mv294, mv295, mh296, mh289⟩ := zk_o2 mh289
                                  unfold f_X12_ran at mh296
                                  unfold B_X12_ran_0 at mh296
                                  have mh296 := zk_f (by decide) mh296
                                  obtain ⟨_, mh296⟩ := zk_gd mh296
                                  obtain ⟨mv297, me298, mh296⟩ := zk_lt mh296
                                  subst me298
                                  unfold B_X12_ran_19 at mh296
                                  obtain ⟨mv299, me300, mh296⟩ := zk_lt mh296
                                  subst me300
                                  simp only [Option.some.injEq, Prod.mk.injEq] at mh296
                                  obtain ⟨rfl, rfl⟩ := mh296
                                  obtain ⟨mv301, mv302, mv303, mh304, mh289⟩ := zk_o3 mh289
                                  unfold f_X12_plainSettles at mh304
                                  unfold B_X12_plainSettles_0 at mh304
                                  obtain ⟨mv305, mv306, mh307, mh304⟩ := zk_o2 mh304
                                  unfold f_X12_ran at mh307
                                  unfold B_X12_ran_0 at mh307
                                  have mh307 := zk_f (by decide) mh307
                                  obtain ⟨_, mh307⟩ := zk_gd mh307
                                  obtain ⟨mv308, me309, mh307⟩ := zk_lt mh307
                                  subst me309
                                  unfold B_X12_ran_19 at mh307
                                  obtain ⟨mv310, me311, mh307⟩ := zk_lt mh307
                                  subst me311
                                  simp only [Option.some.injEq, Prod.mk.injEq] at mh307
                                  obtain ⟨rfl, rfl⟩ := mh307
                                  obtain ⟨mv312, mv313, mv314, mh315, mh304⟩ := zk_o3 mh304
                                  unfold f_X12_closes at mh315
                                  unfold B_X12_closes_0 at mh315
                                  rw [ea] at mh315
                                  obtain ⟨mv316, mv317, mh318, mh315⟩ := zk_o2 mh315
                                  obtain mq319 := bk12_e (hB12 hi) mh318
                                  replace mq319 := mq319.symm
                                  subst mq319
                                  have mh315 := zk_f (by decide) mh315
                                  have mh315 := zk_t rfl mh315
                                  unfold B_X12_closes_16 at mh315
                                  obtain ⟨mv320, mv321, mh322, mh315⟩ := zk_o2 mh315
                                  unfold f_X12_ran at mh322
                                  unfold B_X12_ran_0 at mh322
                                  have mh322 := zk_f (by decide) mh322
                                  obtain ⟨_, mh322⟩ := zk_gd mh322
                                  obtain ⟨mv323, me324, mh322⟩ := zk_lt mh322
                                  subst me324
                                  unfold B_X12_ran_19 at mh322
                                  obtain ⟨mv325, me326, mh322⟩ := zk_lt mh322
                                  subst me326
                                  simp only [Option.some.injEq, Prod.mk.injEq] at mh322
                                  obtain ⟨rfl, rfl⟩ := mh322
                                  obtain ⟨mv327, mv328, mv329, mh330, mh315⟩ := zk_o3 mh315
                                  unfold f_X12_plainCloses at mh330
                                  unfold B_X12_plainCloses_0 at mh330
                                  obtain ⟨mv331, mv332, mh333, mh330⟩ := zk_o2 mh330
                                  unfold f_X12_ran at mh333
                                  unfold B_X12_ran_0 at mh333
                                  have mh333 := zk_f (by decide) mh333
                                  obtain ⟨_, mh333⟩ := zk_gd mh333
                                  obtain ⟨mv334, me335, mh333⟩ := zk_lt mh333
                                  subst me335
                                  unfold B_X12_ran_19 at mh333
                                  obtain ⟨mv336, me337, mh333⟩ := zk_lt mh333
                                  subst me337
                                  simp only [Option.some.injEq, Prod.mk.injEq] at mh333
                                  obtain ⟨rfl, rfl⟩ := mh333
                                  simp only [Option.some.injEq, Prod.mk.injEq] at mh330
                                  obtain ⟨rfl, rfl, rfl⟩ := mh330
                                  simp only [Option.some.injEq, Prod.mk.injEq] at mh315
                                  obtain ⟨rfl, rfl, rfl⟩ := mh315
                                  simp only [Option.some.injEq, Prod.mk.injEq] at mh304
                                  obtain ⟨rfl, rfl, rfl⟩ := mh304
                                  simp only [Option.some.injEq, Prod.mk.injEq] at mh289
                                  obtain ⟨rfl, rfl, rfl⟩ := mh289
                                  obtain ⟨mv338, mv339, mv340, mh341, mh278⟩ := zk_o3 mh278
                                  unfold f_X12_binds at mh341
                                  unfold B_X12_binds_0 at mh341
                                  obtain ⟨mv342, mv343, mh344, mh341⟩ := zk_o2 mh341
                                  obtain mq345 := bk12_e (hB12 hi) mh344
                                  replace mq345 := mq345.symm
                                  subst mq345
                                  obtain ⟨mv346, mv347, mh348, mh341⟩ := zk_o2 mh341
                                  unfold f_X12_isUnder at mh348
                                  unfold B_X12_isUnder_0 at mh348
                                  have mh348 := zk_f (by decide) mh348
                                  have mh348 := zk_f (by decide) mh348
                                  have mh348 := zk_f (by decide) mh348
                                  unfold B_X12_isUnder_19 at mh348
                                  have mh348 := zk_t rfl mh348
                                  have mh348 := zk_f (by decide) mh348
                                  unfold B_X12_isUnder_29 at mh348
                                  have mh348 := zk_f (by decide) mh348
                                  simp only [Option.some.injEq, Prod.mk.injEq] at mh348
                                  obtain ⟨rfl, _⟩ := mh348
                                  have mh341 := zk_t rfl mh341
                                  obtain ⟨mv349, mv350, mv351, mh352, mh341⟩ := zk_o3 mh341
                                  unfold f_X12_plainBinds at mh352
                                  unfold B_X12_plainBinds_0 at mh352
                                  obtain ⟨mv353, mv354, mh355, mh352⟩ := zk_o2 mh352
                                  unfold f_X12_ran at mh355
                                  unfold B_X12_ran_0 at mh355
                                  have mh355 := zk_f (by decide) mh355
                                  obtain ⟨_, mh355⟩ := zk_gd mh355
                                  obtain ⟨mv356, me357, mh355⟩ := zk_lt mh355
                                  subst me357
                                  unfold B_X12_ran_19 at mh355
                                  obtain ⟨mv358, me359, mh355⟩ := zk_lt mh355
                                  subst me359
                                  simp only [Option.some.injEq, Prod.mk.injEq] at mh355
                                  obtain ⟨rfl, rfl⟩ := mh355
                                  simp only [Option.some.injEq, Prod.mk.injEq] at mh352
                                  obtain ⟨rfl, rfl, rfl⟩ := mh352
                                  simp only [Option.some.injEq, Prod.mk.injEq] at mh341
                                  obtain ⟨rfl, rfl, rfl⟩ := mh341
                                  simp only [Option.some.injEq, Prod.mk.injEq] at mh278
                                  obtain ⟨rfl, rfl, rfl⟩ := mh278
                                  simp only [Option.some.injEq, Prod.mk.injEq] at mh263
                                  obtain ⟨rfl, rfl, rfl⟩ := mh263
                                  replace h := Option.some.inj h
                                  replace k := Option.some.inj k
                                  subst h
                                  subst k
                                  try dsimp only
                                  all_goals first
                                  | (exfalso; omega)
                                  | exact ⟨rfl, rfl, fun e => by first | exact e | rw [e]⟩
                                  | exact ⟨rfl, rfl, fun e => by rw [e]; rfl⟩
