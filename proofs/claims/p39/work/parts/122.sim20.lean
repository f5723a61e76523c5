
set_option maxHeartbeats 4000000 in
set_option maxRecDepth 20000 in
theorem pw_act3 {mod_code : Int32} {court_shoeCount : Int32} {mod_claims : Int32} {ts : Int32} {at_ : Int32} {f : Int32} {court_suitCount : Int32} {mod_doneMany : Int32} {mod_undoneMany : Int32} {mod_open : Int32} {mod_laid : Int32} {mod_isBoth : Int32} {mod_wished : Int32} {mod_bestMany : Int32} {mod_bestRow : Int32} {mod_ringDigits : Int32} {mod_traces : Int32} {mod_askedMany : Nat → Int32} {mod_endKind : Nat → Int32} {mod_undoneFrom : Nat → Int32} {mod_traced : Nat → Int32} {court_claimCount : Int32} {court_suits : Nat → Option Nat} {S_who : Nat → Int32} {S_against : Nat → Int32} {S_kind : Nat → Int32} {S_won : Nat → Int32} {S_day : Nat → Int32} {S_land : Nat → Int32} {S_undoneFrom : Nat → Int32} {S_asked : Nat → Nat → Int32} {S_askedCount : Nat → Int32} {S_askedBits : Nat → Int32} {S_first : Nat → Int32} {S_foundSo : Nat → Int32} {S_foundNot : Nat → Int32} {S_fought : Nat → Int32} {S_needed : Nat → Int32} {acts_ran : Int32} {acts_kind : Int32} {acts_number : Int32} {acts_claims : Int32} {acts_bodies : Nat → Int32} {x1 x2 x3 : Int32} {R : Int32 × Int32 × Int32 × Int32 × Int32 × (Nat → Int32)} {Q : Int32 × Int32 × (Nat → Int32)} (hn : 0 ≤ court_suitCount.toInt ∧ court_suitCount.toInt ≤ 40) (hA : WU court_suitCount S_askedCount mod_askedMany) (hB8 : ((S_undoneFrom x1.toNatClampNeg).toInt < 0 ∧ S_kind x1.toNatClampNeg = (3 : Int32)) ∨ (0 ≤ (S_undoneFrom x1.toNatClampNeg).toInt ∧ (3 : Int32) = 5)) (hB12 : x1.toNatClampNeg < court_suitCount.toInt.toNat → ((mod_undoneFrom x1.toNatClampNeg).toInt < 0 ∧ mod_endKind x1.toNatClampNeg = (3 : Int32)) ∨ (0 ≤ (mod_undoneFrom x1.toNatClampNeg).toInt ∧ (3 : Int32) = 5)) (h : f_X11_act x1 x2 x3 court_shoeCount court_claimCount court_suitCount court_suits acts_ran acts_kind acts_number acts_claims acts_bodies S_who S_against S_kind S_won S_day S_land S_undoneFrom S_asked S_askedCount S_askedBits S_first S_foundSo S_foundNot S_fought S_needed = some R) (k : f_X12_act x1 x2 x3 mod_code court_shoeCount mod_claims ts at_ f court_suitCount mod_doneMany mod_undoneMany mod_open mod_laid mod_isBoth mod_wished mod_bestMany mod_bestRow mod_ringDigits mod_traces mod_endKind mod_undoneFrom mod_askedMany mod_traced = some Q) : R.1 = Q.1 ∧ R.2.1 = Q.2.1 ∧ (acts_bodies = mod_traced → R.2.2.2.2.2 = Q.2.2) := by
  have hn1 := i32_m1 (a := court_suitCount) (by omega)
  unfold f_X11_act at h
  unfold f_X12_act at k
  unfold B_X11_act_0 at h
  replace h := zk_o2 h
  obtain ⟨cv1, cv2, ch3, h⟩ := h
  unfold f_X2_suitAt at ch3
  unfold B_X2_suitAt_0 at ch3
  by_cases cc4 : x1 < 0
  · have ch3 := zk_t cc4 ch3
    have cc4n := cc4
    (try simp only [i32_lt, i32_le, i32_e, z32_0, z32_1] at cc4n)
    first
    | (exfalso; omega)
    | simp only [Option.some.injEq, Prod.mk.injEq] at ch3
      obtain ⟨rfl, _⟩ := ch3
      replace h := zk_t (by decide) h
      unfold B_X12_act_0 at k
      replace k := zk_o2 k
      obtain ⟨mv1, mv2, mh3, k⟩ := k
      unfold f_X12_isSuit at mh3
      unfold B_X12_isSuit_0 at mh3
      obtain ⟨mv4, mv5, mh6, mh3⟩ := zk_o2 mh3
      unfold f_X12_in at mh6
      unfold B_X12_in_0 at mh6
      have mh6 := zk_t cc4 mh6
      simp only [Option.some.injEq, Prod.mk.injEq] at mh6
      obtain ⟨rfl, _⟩ := mh6
      obtain ⟨_, mh3⟩ := zk_gd mh3
      simp only [Option.some.injEq, Prod.mk.injEq] at mh3
      obtain ⟨rfl, _⟩ := mh3
      replace k := zk_t rfl k
      replace h := Option.some.inj h
      replace k := Option.some.inj k
      subst h
      subst k
      try dsimp only
      all_goals first
      | (exfalso; omega)
      | exact ⟨rfl, rfl, fun e => by first | exact e | rw [e]⟩
      | exact ⟨rfl, rfl, fun e => by rw [e]; rfl⟩
  · have ch3 := zk_f cc4 ch3
    have cc4n := cc4
    (try simp only [i32_lt, i32_le, i32_e, z32_0, z32_1] at cc4n)
    first
    | (exfalso; omega)
    | by_cases cc5 : court_suitCount ≤ x1
      · have ch3 := zk_t cc5 ch3
        have cc5n := cc5
        (try simp only [i32_lt, i32_le, i32_e, z32_0, z32_1] at cc5n)
        first
        | (exfalso; omega)
        | simp only [Option.some.injEq, Prod.mk.injEq] at ch3
          obtain ⟨rfl, _⟩ := ch3
          replace h := zk_t (by decide) h
          unfold B_X12_act_0 at k
          replace k := zk_o2 k
          obtain ⟨mv7, mv8, mh9, k⟩ := k
          unfold f_X12_isSuit at mh9
          unfold B_X12_isSuit_0 at mh9
          obtain ⟨mv10, mv11, mh12, mh9⟩ := zk_o2 mh9
          unfold f_X12_in at mh12
          unfold B_X12_in_0 at mh12
          have mh12 := zk_f cc4 mh12
          have mh12 := zk_t (by (try simp only [i32_lt, i32_le, i32_e, z32_0, z32_1]); omega) mh12
          simp only [Option.some.injEq, Prod.mk.injEq] at mh12
          obtain ⟨rfl, _⟩ := mh12
          obtain ⟨_, mh9⟩ := zk_gd mh9
          simp only [Option.some.injEq, Prod.mk.injEq] at mh9
          obtain ⟨rfl, _⟩ := mh9
          replace k := zk_t rfl k
          replace h := Option.some.inj h
          replace k := Option.some.inj k
          subst h
          subst k
          try dsimp only
          all_goals first
          | (exfalso; omega)
          | exact ⟨rfl, rfl, fun e => by first | exact e | rw [e]⟩
          | exact ⟨rfl, rfl, fun e => by rw [e]; rfl⟩
      · have ch3 := zk_f cc5 ch3
        have cc5n := cc5
        (try simp only [i32_lt, i32_le, i32_e, z32_0, z32_1] at cc5n)
        first
        | (exfalso; omega)
        | obtain ⟨_, ch3⟩ := zk_gd ch3
          obtain ⟨_, ch3⟩ := zk_gd ch3
          obtain ⟨_, ch3⟩ := zk_gd ch3
          simp only [Option.some.injEq, Prod.mk.injEq] at ch3
          obtain ⟨rfl, _⟩ := ch3
          replace h := zk_f cc4 h
          replace h := zk_gd h
          obtain ⟨_, h⟩ := h
          replace h := zk_o2 h
          obtain ⟨cv6, cv7, ch8, h⟩ := h
          obtain cq9 := bk8_e hB8 ch8
          replace cq9 := cq9.symm
          subst cq9
          replace h := zk_gd h
          obtain ⟨_, h⟩ := h
          replace h := zk_o4 h
          obtain ⟨cv10, cv11, cv12, cv13, ch14, h⟩ := h
          unfold f_X0_begin at ch14
          unfold B_X0_begin_0 at ch14
          simp only [Option.some.injEq, Prod.mk.injEq] at ch14
          obtain ⟨rfl, rfl, rfl, rfl⟩ := ch14
          by_cases cc15 : x2 = (0 : Int32)
          · replace h := zk_t cc15 h
            have cc15n := cc15
            (try simp only [i32_lt, i32_le, i32_e, z32_0, z32_1] at cc15n)
            first
            | (exfalso; omega)
            | obtain ⟨cv16, cv17, cv18, ch19, h⟩ := zk_o3 h
              have ch19 : f_X0_closes (grp_grp138 6) (3 : Int32) x3 (0 : Int32) (3 : Int32) x1 (S_askedCount x1.toNatClampNeg) acts_bodies = some (cv16, cv17, cv18) := ch19
              unfold f_X0_closes at ch19
              unfold B_X0_closes_0 at ch19
              have ch19 := zk_f (by decide) ch19
              have ch19 := zk_f (by decide) ch19
              have ch19 := zk_t rfl ch19
              obtain ⟨cv20, cv21, ch22, ch19⟩ := zk_o2 ch19
              unfold f_X0_note at ch22
              unfold B_X0_note_0 at ch22
              have ch22 := zk_f (by decide) ch22
              obtain ⟨_, ch22⟩ := zk_gd ch22
              obtain ⟨cv23, ce24, ch22⟩ := zk_lt ch22
              subst ce24
              unfold B_X0_note_19 at ch22
              obtain ⟨cv25, ce26, ch22⟩ := zk_lt ch22
              subst ce26
              simp only [Option.some.injEq, Prod.mk.injEq] at ch22
              obtain ⟨rfl, rfl⟩ := ch22
              obtain ⟨cv27, cv28, ch29, ch19⟩ := zk_o2 ch19
              unfold f_X0_above at ch29
              unfold B_X0_above_0 at ch29
              have ch29 := zk_f (by decide) ch29
              have ch29 := zk_f (by decide) ch29
              have ch29 := zk_f (by decide) ch29
              simp only [Option.some.injEq, Prod.mk.injEq] at ch29
              obtain ⟨rfl, _⟩ := ch29
              obtain ⟨cv30, cv31, cv32, ch33, ch19⟩ := zk_o3 ch19
              have ch33 : f_X0_closes (grp_grp138 5) (0 : Int32) x3 ((0 : Int32) + (1 : Int32)) (3 : Int32) x1 (S_askedCount x1.toNatClampNeg) (upd acts_bodies (0 : Int32).toNatClampNeg (40 : Int32)) = some (cv30, cv31, cv32) := ch33
              unfold f_X0_closes at ch33
              unfold B_X0_closes_0 at ch33
              have ch33 := zk_f (by decide) ch33
              have ch33 := zk_f (by decide) ch33
              have ch33 := zk_f (by decide) ch33
              have ch33 := zk_f (by decide) ch33
              have ch33 := zk_f (by decide) ch33
              have ch33 := zk_f (by decide) ch33
              obtain ⟨cv34, cv35, ch36, ch33⟩ := zk_o2 ch33
              unfold f_X0_note at ch36
              unfold B_X0_note_0 at ch36
              have ch36 := zk_f (by decide) ch36
              obtain ⟨_, ch36⟩ := zk_gd ch36
              obtain ⟨cv37, ce38, ch36⟩ := zk_lt ch36
              subst ce38
              unfold B_X0_note_19 at ch36
              obtain ⟨cv39, ce40, ch36⟩ := zk_lt ch36
              subst ce40
              simp only [Option.some.injEq, Prod.mk.injEq] at ch36
              obtain ⟨rfl, rfl⟩ := ch36
              simp only [Option.some.injEq, Prod.mk.injEq] at ch33
              obtain ⟨rfl, rfl, rfl⟩ := ch33
              simp only [Option.some.injEq, Prod.mk.injEq] at ch19
              obtain ⟨rfl, rfl, rfl⟩ := ch19
              have hi : x1.toNatClampNeg < court_suitCount.toInt.toNat := by rw [tcn]; omega
              have ea : mod_askedMany x1.toNatClampNeg = S_askedCount x1.toNatClampNeg := (hA _ hi).symm
              unfold B_X12_act_0 at k
              replace k := zk_o2 k
              obtain ⟨mv13, mv14, mh15, k⟩ := k
              unfold f_X12_isSuit at mh15
              unfold B_X12_isSuit_0 at mh15
              obtain ⟨mv16, mv17, mh18, mh15⟩ := zk_o2 mh15
              unfold f_X12_in at mh18
              unfold B_X12_in_0 at mh18
              have mh18 := zk_f cc4 mh18
              have mh18 := zk_f (by (try simp only [i32_lt, i32_le, i32_e, z32_0, z32_1]); omega) mh18
              simp only [Option.some.injEq, Prod.mk.injEq] at mh18
              obtain ⟨rfl, _⟩ := mh18
              obtain ⟨_, mh15⟩ := zk_gd mh15
              simp only [Option.some.injEq, Prod.mk.injEq] at mh15
              obtain ⟨rfl, _⟩ := mh15
              replace k := zk_f (by decide) k
              replace k := zk_o2 k
              obtain ⟨mv19, mv20, mh21, k⟩ := k
              unfold f_X12_in at mh21
              unfold B_X12_in_0 at mh21
              have mh21 := zk_f (by (try simp only [i32_lt, i32_le, i32_e, z32_0, z32_1]); omega) mh21
              have mh21 := zk_f (by (try simp only [i32_lt, i32_le, i32_e, z32_0, z32_1, z32L_3]); omega) mh21
              simp only [Option.some.injEq, Prod.mk.injEq] at mh21
              obtain ⟨rfl, _⟩ := mh21
              replace k := zk_f (by decide) k
              replace k := zk_t cc15 k
              replace k := zk_o3 k
              obtain ⟨mv22, mv23, mv24, mh25, k⟩ := k
              unfold f_X12_closes at mh25
              unfold B_X12_closes_0 at mh25
              rw [ea] at mh25
              obtain ⟨mv26, mv27, mh28, mh25⟩ := zk_o2 mh25
              obtain mq29 := bk12_e (hB12 hi) mh28
              replace mq29 := mq29.symm
              subst mq29
              have mh25 := zk_t rfl mh25
              unfold B_X12_closes_16 at mh25
              obtain ⟨mv30, mv31, mh32, mh25⟩ := zk_o2 mh25
              unfold f_X12_ran at mh32
              unfold B_X12_ran_0 at mh32
              have mh32 := zk_f (by decide) mh32
              obtain ⟨_, mh32⟩ := zk_gd mh32
              obtain ⟨mv33, me34, mh32⟩ := zk_lt mh32
              subst me34
              unfold B_X12_ran_19 at mh32
              obtain ⟨mv35, me36, mh32⟩ := zk_lt mh32
              subst me36
              simp only [Option.some.injEq, Prod.mk.injEq] at mh32
              obtain ⟨rfl, rfl⟩ := mh32
              obtain ⟨mv37, mv38, mv39, mh40, mh25⟩ := zk_o3 mh25
              unfold f_X12_plainCloses at mh40
              unfold B_X12_plainCloses_0 at mh40
              obtain ⟨mv41, mv42, mh43, mh40⟩ := zk_o2 mh40
              unfold f_X12_ran at mh43
              unfold B_X12_ran_0 at mh43
              have mh43 := zk_f (by decide) mh43
              obtain ⟨_, mh43⟩ := zk_gd mh43
              obtain ⟨mv44, me45, mh43⟩ := zk_lt mh43
              subst me45
              unfold B_X12_ran_19 at mh43
              obtain ⟨mv46, me47, mh43⟩ := zk_lt mh43
              subst me47
              simp only [Option.some.injEq, Prod.mk.injEq] at mh43
              obtain ⟨rfl, rfl⟩ := mh43
              simp only [Option.some.injEq, Prod.mk.injEq] at mh40
              obtain ⟨rfl, rfl, rfl⟩ := mh40
              simp only [Option.some.injEq, Prod.mk.injEq] at mh25
              obtain ⟨rfl, rfl, rfl⟩ := mh25
              replace h := Option.some.inj h
              replace k := Option.some.inj k
              subst h
              subst k
              try dsimp only
              all_goals first
              | (exfalso; omega)
              | exact ⟨rfl, rfl, fun e => by first | exact e | rw [e]⟩
              | exact ⟨rfl, rfl, fun e => by rw [e]; rfl⟩
          · replace h := zk_f cc15 h
            have cc15n := cc15
            (try simp only [i32_lt, i32_le, i32_e, z32_0, z32_1] at cc15n)
            first
            | (exfalso; omega)
            | by_cases cc41 : x2 = (1 : Int32)
              · replace h := zk_t cc41 h
                have cc41n := cc41
                (try simp only [i32_lt, i32_le, i32_e, z32_0, z32_1] at cc41n)
                first
                | (exfalso; omega)
                | obtain ⟨cv42, cv43, cv44, ch45, h⟩ := zk_o3 h
                  have ch45 : f_X0_settles (grp_grp140 6) (3 : Int32) x3 (0 : Int32) (3 : Int32) x1 (S_askedCount x1.toNatClampNeg) acts_bodies = some (cv42, cv43, cv44) := ch45
                  unfold f_X0_settles at ch45
                  unfold B_X0_settles_0 at ch45
                  have ch45 := zk_f (by decide) ch45
                  have ch45 := zk_f (by decide) ch45
                  have ch45 := zk_t rfl ch45
                  obtain ⟨cv46, cv47, ch48, ch45⟩ := zk_o2 ch45
                  unfold f_X0_above at ch48
                  unfold B_X0_above_0 at ch48
                  have ch48 := zk_f (by decide) ch48
                  have ch48 := zk_f (by decide) ch48
                  have ch48 := zk_f (by decide) ch48
                  simp only [Option.some.injEq, Prod.mk.injEq] at ch48
                  obtain ⟨rfl, _⟩ := ch48
                  obtain ⟨cv49, cv50, cv51, ch52, ch45⟩ := zk_o3 ch45
                  have ch52 : f_X0_settles (grp_grp140 5) (0 : Int32) x3 (0 : Int32) (3 : Int32) x1 (S_askedCount x1.toNatClampNeg) acts_bodies = some (cv49, cv50, cv51) := ch52
                  unfold f_X0_settles at ch52
                  unfold B_X0_settles_0 at ch52
                  have ch52 := zk_f (by decide) ch52
                  have ch52 := zk_f (by decide) ch52
                  have ch52 := zk_f (by decide) ch52
                  have ch52 := zk_f (by decide) ch52
                  have ch52 := zk_f (by decide) ch52
                  have ch52 := zk_f (by decide) ch52
                  obtain ⟨cv53, cv54, ch55, ch52⟩ := zk_o2 ch52
                  unfold f_X0_note at ch55
                  unfold B_X0_note_0 at ch55
                  have ch55 := zk_f (by decide) ch55
                  obtain ⟨_, ch55⟩ := zk_gd ch55
                  obtain ⟨cv56, ce57, ch55⟩ := zk_lt ch55
                  subst ce57
                  unfold B_X0_note_19 at ch55
                  obtain ⟨cv58, ce59, ch55⟩ := zk_lt ch55
                  subst ce59
                  simp only [Option.some.injEq, Prod.mk.injEq] at ch55
                  obtain ⟨rfl, rfl⟩ := ch55
                  obtain ⟨cv60, cv61, cv62, ch63, ch52⟩ := zk_o3 ch52
                  have ch63 : f_X0_closes (grp_grp138 6) (3 : Int32) x3 ((0 : Int32) + (1 : Int32)) (3 : Int32) x1 (S_askedCount x1.toNatClampNeg) (upd acts_bodies (0 : Int32).toNatClampNeg (10 : Int32)) = some (cv60, cv61, cv62) := ch63
                  unfold f_X0_closes at ch63
                  unfold B_X0_closes_0 at ch63
                  have ch63 := zk_f (by decide) ch63
                  have ch63 := zk_f (by decide) ch63
                  have ch63 := zk_t rfl ch63
                  obtain ⟨cv64, cv65, ch66, ch63⟩ := zk_o2 ch63
                  unfold f_X0_note at ch66
                  unfold B_X0_note_0 at ch66
                  have ch66 := zk_f (by decide) ch66
                  obtain ⟨_, ch66⟩ := zk_gd ch66
                  obtain ⟨cv67, ce68, ch66⟩ := zk_lt ch66
                  subst ce68
                  unfold B_X0_note_19 at ch66
                  obtain ⟨cv69, ce70, ch66⟩ := zk_lt ch66
                  subst ce70
                  simp only [Option.some.injEq, Prod.mk.injEq] at ch66
                  obtain ⟨rfl, rfl⟩ := ch66
                  obtain ⟨cv71, cv72, ch73, ch63⟩ := zk_o2 ch63
                  unfold f_X0_above at ch73
                  unfold B_X0_above_0 at ch73
                  have ch73 := zk_f (by decide) ch73
                  have ch73 := zk_f (by decide) ch73
                  have ch73 := zk_f (by decide) ch73
                  simp only [Option.some.injEq, Prod.mk.injEq] at ch73
                  obtain ⟨rfl, _⟩ := ch73
                  obtain ⟨cv74, cv75, cv76, ch77, ch63⟩ := zk_o3 ch63
                  have ch77 : f_X0_closes (grp_grp138 5) (0 : Int32) x3 (((0 : Int32) + (1 : Int32)) + (1 : Int32)) (3 : Int32) x1 (S_askedCount x1.toNatClampNeg) (upd (upd acts_bodies (0 : Int32).toNatClampNeg (10 : Int32)) ((0 : Int32) + (1 : Int32)).toNatClampNeg (40 : Int32)) = some (cv74, cv75, cv76) := ch77
                  unfold f_X0_closes at ch77
                  unfold B_X0_closes_0 at ch77
                  have ch77 := zk_f (by decide) ch77
                  have ch77 := zk_f (by decide) ch77
                  have ch77 := zk_f (by decide) ch77
                  have ch77 := zk_f (by decide) ch77
                  have ch77 := zk_f (by decide) ch77
                  have ch77 := zk_f (by decide) ch77
                  obtain ⟨cv78, cv79, ch80, ch77⟩ := zk_o2 ch77
                  unfold f_X0_note at ch80
                  unfold B_X0_note_0 at ch80
                  have ch80 := zk_f (by decide) ch80
                  obtain ⟨_, ch80⟩ := zk_gd ch80
                  obtain ⟨cv81, ce82, ch80⟩ := zk_lt ch80
                  subst ce82
                  unfold B_X0_note_19 at ch80
                  obtain ⟨cv83, ce84, ch80⟩ := zk_lt ch80
                  subst ce84
                  simp only [Option.some.injEq, Prod.mk.injEq] at ch80
                  obtain ⟨rfl, rfl⟩ := ch80
                  simp only [Option.some.injEq, Prod.mk.injEq] at ch77
                  obtain ⟨rfl, rfl, rfl⟩ := ch77
                  simp only [Option.some.injEq, Prod.mk.injEq] at ch63
                  obtain ⟨rfl, rfl, rfl⟩ := ch63
                  simp only [Option.some.injEq, Prod.mk.injEq] at ch52
                  obtain ⟨rfl, rfl, rfl⟩ := ch52
                  simp only [Option.some.injEq, Prod.mk.injEq] at ch45
                  obtain ⟨rfl, rfl, rfl⟩ := ch45
                  have hi : x1.toNatClampNeg < court_suitCount.toInt.toNat := by rw [tcn]; omega
                  have ea : mod_askedMany x1.toNatClampNeg = S_askedCount x1.toNatClampNeg := (hA _ hi).symm
                  unfold B_X12_act_0 at k
                  replace k := zk_o2 k
                  obtain ⟨mv48, mv49, mh50, k⟩ := k
                  unfold f_X12_isSuit at mh50
                  unfold B_X12_isSuit_0 at mh50
                  obtain ⟨mv51, mv52, mh53, mh50⟩ := zk_o2 mh50
                  unfold f_X12_in at mh53
                  unfold B_X12_in_0 at mh53
                  have mh53 := zk_f cc4 mh53
                  have mh53 := zk_f (by (try simp only [i32_lt, i32_le, i32_e, z32_0, z32_1]); omega) mh53
                  simp only [Option.some.injEq, Prod.mk.injEq] at mh53
                  obtain ⟨rfl, _⟩ := mh53
                  obtain ⟨_, mh50⟩ := zk_gd mh50
                  simp only [Option.some.injEq, Prod.mk.injEq] at mh50
                  obtain ⟨rfl, _⟩ := mh50
                  replace k := zk_f (by decide) k
                  replace k := zk_o2 k
                  obtain ⟨mv54, mv55, mh56, k⟩ := k
                  unfold f_X12_in at mh56
                  unfold B_X12_in_0 at mh56
                  have mh56 := zk_f (by (try simp only [i32_lt, i32_le, i32_e, z32_0, z32_1]); omega) mh56
                  have mh56 := zk_f (by (try simp only [i32_lt, i32_le, i32_e, z32_0, z32_1, z32L_3]); omega) mh56
                  simp only [Option.some.injEq, Prod.mk.injEq] at mh56
                  obtain ⟨rfl, _⟩ := mh56
                  replace k := zk_f (by decide) k
                  replace k := zk_f cc15 k
                  replace k := zk_t cc41 k
                  replace k := zk_o3 k
                  obtain ⟨mv57, mv58, mv59, mh60, k⟩ := k
                  unfold f_X12_settles at mh60
                  unfold B_X12_settles_0 at mh60
                  obtain ⟨mv61, mv62, mh63, mh60⟩ := zk_o2 mh60
                  obtain mq64 := bk12_e (hB12 hi) mh63
                  replace mq64 := mq64.symm
                  subst mq64
                  have mh60 := zk_f (by decide) mh60
                  have mh60 := zk_f (by decide) mh60
                  have mh60 := zk_f (by decide) mh60
                  obtain ⟨mv65, mv66, mv67, mh68, mh60⟩ := zk_o3 mh60
                  unfold f_X12_plainSettles at mh68
                  unfold B_X12_plainSettles_0 at mh68
                  obtain ⟨mv69, mv70, mh71, mh68⟩ := zk_o2 mh68
                  unfold f_X12_ran at mh71
                  unfold B_X12_ran_0 at mh71
                  have mh71 := zk_f (by decide) mh71
                  obtain ⟨_, mh71⟩ := zk_gd mh71
                  obtain ⟨mv72, me73, mh71⟩ := zk_lt mh71
                  subst me73
                  unfold B_X12_ran_19 at mh71
                  obtain ⟨mv74, me75, mh71⟩ := zk_lt mh71
                  subst me75
                  simp only [Option.some.injEq, Prod.mk.injEq] at mh71
                  obtain ⟨rfl, rfl⟩ := mh71
                  obtain ⟨mv76, mv77, mv78, mh79, mh68⟩ := zk_o3 mh68
                  unfold f_X12_closes at mh79
                  unfold B_X12_closes_0 at mh79
                  rw [ea] at mh79
                  obtain ⟨mv80, mv81, mh82, mh79⟩ := zk_o2 mh79
                  obtain mq83 := bk12_e (hB12 hi) mh82
                  replace mq83 := mq83.symm
                  subst mq83
                  have mh79 := zk_t rfl mh79
                  unfold B_X12_closes_16 at mh79
                  obtain ⟨mv84, mv85, mh86, mh79⟩ := zk_o2 mh79
                  unfold f_X12_ran at mh86
                  unfold B_X12_ran_0 at mh86
                  have mh86 := zk_f (by decide) mh86
                  obtain ⟨_, mh86⟩ := zk_gd mh86
                  obtain ⟨mv87, me88, mh86⟩ := zk_lt mh86
                  subst me88
                  unfold B_X12_ran_19 at mh86
                  obtain ⟨mv89, me90, mh86⟩ := zk_lt mh86
                  subst me90
                  simp only [Option.some.injEq, Prod.mk.injEq] at mh86
                  obtain ⟨rfl, rfl⟩ := mh86
                  obtain ⟨mv91, mv92, mv93, mh94, mh79⟩ := zk_o3 mh79
                  unfold f_X12_plainCloses at mh94
                  unfold B_X12_plainCloses_0 at mh94
                  obtain ⟨mv95, mv96, mh97, mh94⟩ := zk_o2 mh94
                  unfold f_X12_ran at mh97
                  unfold B_X12_ran_0 at mh97
                  have mh97 := zk_f (by decide) mh97
                  obtain ⟨_, mh97⟩ := zk_gd mh97
                  obtain ⟨mv98, me99, mh97⟩ := zk_lt mh97
                  subst me99
                  unfold B_X12_ran_19 at mh97
                  obtain ⟨mv100, me101, mh97⟩ := zk_lt mh97
                  subst me101
                  simp only [Option.some.injEq, Prod.mk.injEq] at mh97
                  obtain ⟨rfl, rfl⟩ := mh97
                  simp only [Option.some.injEq, Prod.mk.injEq] at mh94
                  obtain ⟨rfl, rfl, rfl⟩ := mh94
                  simp only [Option.some.injEq, Prod.mk.injEq] at mh79
                  obtain ⟨rfl, rfl, rfl⟩ := mh79
                  simp only [Option.some.injEq, Prod.mk.injEq] at mh68
                  obtain ⟨rfl, rfl, rfl⟩ := mh68
                  simp only [Option.some.injEq, Prod.mk.injEq] at mh60
                  obtain ⟨rfl, rfl, rfl⟩ := mh60
                  replace h := Option.some.inj h
                  replace k := Option.some.inj k
                  subst h
                  subst k
                  try dsimp only
                  all_goals first
                  | (exfalso; omega)
                  | exact ⟨rfl, rfl, fun e => by first | exact e | rw [e]⟩
                  | exact ⟨rfl, rfl, fun e => by rw [e]; rfl⟩
              · replace h := zk_f cc41 h
                have cc41n := cc41
                (try simp only [i32_lt, i32_le, i32_e, z32_0, z32_1] at cc41n)
                first
                | (exfalso; omega)
                | by_cases cc85 : x2 = (2 : Int32)
                  · replace h := zk_t cc85 h
                    have cc85n := cc85
                    (try simp only [i32_lt, i32_le, i32_e, z32_0, z32_1, z32L_2] at cc85n)
                    first
                    | (exfalso; omega)
                    | obtain ⟨cv86, cv87, cv88, ch89, h⟩ := zk_o3 h
                      have ch89 : f_X0_binds (grp_grp139 6) (3 : Int32) x3 (0 : Int32) (3 : Int32) x1 (S_askedCount x1.toNatClampNeg) acts_bodies = some (cv86, cv87, cv88) := ch89
                      unfold f_X0_binds at ch89
                      unfold B_X0_binds_0 at ch89
                      have ch89 := zk_f (by decide) ch89
                      have ch89 := zk_f (by decide) ch89
                      obtain ⟨cv90, cv91, ch92, ch89⟩ := zk_o2 ch89
                      unfold f_X0_above at ch92
                      unfold B_X0_above_0 at ch92
                      have ch92 := zk_f (by decide) ch92
                      have ch92 := zk_f (by decide) ch92
                      have ch92 := zk_f (by decide) ch92
                      simp only [Option.some.injEq, Prod.mk.injEq] at ch92
                      obtain ⟨rfl, _⟩ := ch92
                      obtain ⟨cv93, cv94, cv95, ch96, ch89⟩ := zk_o3 ch89
                      have ch96 : f_X0_binds (grp_grp139 5) (0 : Int32) x3 (0 : Int32) (3 : Int32) x1 (S_askedCount x1.toNatClampNeg) acts_bodies = some (cv93, cv94, cv95) := ch96
                      unfold f_X0_binds at ch96
                      unfold B_X0_binds_0 at ch96
                      have ch96 := zk_f (by decide) ch96
                      have ch96 := zk_t (Int32.le_refl _) ch96
                      obtain ⟨cv97, cv98, ch99, ch96⟩ := zk_o2 ch96
                      unfold f_X0_note at ch99
                      unfold B_X0_note_0 at ch99
                      have ch99 := zk_f (by decide) ch99
                      obtain ⟨_, ch99⟩ := zk_gd ch99
                      obtain ⟨cv100, ce101, ch99⟩ := zk_lt ch99
                      subst ce101
                      unfold B_X0_note_19 at ch99
                      obtain ⟨cv102, ce103, ch99⟩ := zk_lt ch99
                      subst ce103
                      simp only [Option.some.injEq, Prod.mk.injEq] at ch99
                      obtain ⟨rfl, rfl⟩ := ch99
                      simp only [Option.some.injEq, Prod.mk.injEq] at ch96
                      obtain ⟨rfl, rfl, rfl⟩ := ch96
                      simp only [Option.some.injEq, Prod.mk.injEq] at ch89
                      obtain ⟨rfl, rfl, rfl⟩ := ch89
                      have hi : x1.toNatClampNeg < court_suitCount.toInt.toNat := by rw [tcn]; omega
                      have ea : mod_askedMany x1.toNatClampNeg = S_askedCount x1.toNatClampNeg := (hA _ hi).symm
                      unfold B_X12_act_0 at k
                      replace k := zk_o2 k
                      obtain ⟨mv102, mv103, mh104, k⟩ := k
                      unfold f_X12_isSuit at mh104
                      unfold B_X12_isSuit_0 at mh104
                      obtain ⟨mv105, mv106, mh107, mh104⟩ := zk_o2 mh104
                      unfold f_X12_in at mh107
                      unfold B_X12_in_0 at mh107
                      have mh107 := zk_f cc4 mh107
                      have mh107 := zk_f (by (try simp only [i32_lt, i32_le, i32_e, z32_0, z32_1]); omega) mh107
                      simp only [Option.some.injEq, Prod.mk.injEq] at mh107
                      obtain ⟨rfl, _⟩ := mh107
                      obtain ⟨_, mh104⟩ := zk_gd mh104
                      simp only [Option.some.injEq, Prod.mk.injEq] at mh104
                      obtain ⟨rfl, _⟩ := mh104
                      replace k := zk_f (by decide) k
                      replace k := zk_o2 k
                      obtain ⟨mv108, mv109, mh110, k⟩ := k
                      unfold f_X12_in at mh110
                      unfold B_X12_in_0 at mh110
                      have mh110 := zk_f (by (try simp only [i32_lt, i32_le, i32_e, z32_0, z32_1]); omega) mh110
                      have mh110 := zk_f (by (try simp only [i32_lt, i32_le, i32_e, z32_0, z32_1, z32L_3]); omega) mh110
                      simp only [Option.some.injEq, Prod.mk.injEq] at mh110
                      obtain ⟨rfl, _⟩ := mh110
                      replace k := zk_f (by decide) k
                      replace k := zk_f cc15 k
                      replace k := zk_f cc41 k
                      replace k := zk_t cc85 k
                      replace k := zk_o3 k
                      obtain ⟨mv111, mv112, mv113, mh114, k⟩ := k
                      unfold f_X12_binds at mh114
                      unfold B_X12_binds_0 at mh114
                      obtain ⟨mv115, mv116, mh117, mh114⟩ := zk_o2 mh114
                      obtain mq118 := bk12_e (hB12 hi) mh117
                      replace mq118 := mq118.symm
                      subst mq118
                      obtain ⟨mv119, mv120, mh121, mh114⟩ := zk_o2 mh114
                      unfold f_X12_isUnder at mh121
                      unfold B_X12_isUnder_0 at mh121
                      have mh121 := zk_f (by decide) mh121
                      have mh121 := zk_f (by decide) mh121
                      have mh121 := zk_f (by decide) mh121
                      unfold B_X12_isUnder_19 at mh121
                      have mh121 := zk_t rfl mh121
                      have mh121 := zk_f (by decide) mh121
                      unfold B_X12_isUnder_29 at mh121
                      have mh121 := zk_f (by decide) mh121
                      simp only [Option.some.injEq, Prod.mk.injEq] at mh121
                      obtain ⟨rfl, _⟩ := mh121
                      have mh114 := zk_t rfl mh114
                      obtain ⟨mv122, mv123, mv124, mh125, mh114⟩ := zk_o3 mh114
                      unfold f_X12_plainBinds at mh125
                      unfold B_X12_plainBinds_0 at mh125
                      obtain ⟨mv126, mv127, mh128, mh125⟩ := zk_o2 mh125
                      unfold f_X12_ran at mh128
                      unfold B_X12_ran_0 at mh128
                      have mh128 := zk_f (by decide) mh128
                      obtain ⟨_, mh128⟩ := zk_gd mh128
                      obtain ⟨mv129, me130, mh128⟩ := zk_lt mh128
                      subst me130
                      unfold B_X12_ran_19 at mh128
                      obtain ⟨mv131, me132, mh128⟩ := zk_lt mh128
                      subst me132
                      simp only [Option.some.injEq, Prod.mk.injEq] at mh128
                      obtain ⟨rfl, rfl⟩ := mh128
                      simp only [Option.some.injEq, Prod.mk.injEq] at mh125
                      obtain ⟨rfl, rfl, rfl⟩ := mh125
                      simp only [Option.some.injEq, Prod.mk.injEq] at mh114
                      obtain ⟨rfl, rfl, rfl⟩ := mh114
                      replace h := Option.some.inj h
                      replace k := Option.some.inj k
                      subst h
                      subst k
                      try dsimp only
                      all_goals first
                      | (exfalso; omega)
                      | exact ⟨rfl, rfl, fun e => by first | exact e | rw [e]⟩
                      | exact ⟨rfl, rfl, fun e => by rw [e]; rfl⟩
                  · replace h := zk_f cc85 h
                    have cc85n := cc85
                    (try simp only [i32_lt, i32_le, i32_e, z32_0, z32_1, z32L_2] at cc85n)
                    first
                    | (exfalso; omega)
                    | by_cases cc104 : x2 = (3 : Int32)
                      · replace h := zk_t cc104 h
                        have cc104n := cc104
                        (try simp only [i32_lt, i32_le, i32_e, z32_0, z32_1, z32L_3] at cc104n)
                        first
                        | (exfalso; omega)
                        | obtain ⟨cv105, cv106, cv107, ch108, h⟩ := zk_o3 h
                          have ch108 : f_X0_tells (grp_grp141 6) (3 : Int32) x3 (0 : Int32) (3 : Int32) x1 (S_askedCount x1.toNatClampNeg) acts_bodies = some (cv105, cv106, cv107) := ch108
                          unfold f_X0_tells at ch108
                          unfold B_X0_tells_0 at ch108
                          have ch108 := zk_f (by decide) ch108
                          have ch108 := zk_f (by decide) ch108
                          obtain ⟨cv109, cv110, ch111, ch108⟩ := zk_o2 ch108
                          unfold f_X0_above at ch111
                          unfold B_X0_above_0 at ch111
                          have ch111 := zk_f (by decide) ch111
                          have ch111 := zk_f (by decide) ch111
                          have ch111 := zk_f (by decide) ch111
                          simp only [Option.some.injEq, Prod.mk.injEq] at ch111
                          obtain ⟨rfl, _⟩ := ch111
                          obtain ⟨cv112, cv113, cv114, ch115, ch108⟩ := zk_o3 ch108
                          have ch115 : f_X0_tells (grp_grp141 5) (0 : Int32) x3 (0 : Int32) (3 : Int32) x1 (S_askedCount x1.toNatClampNeg) acts_bodies = some (cv112, cv113, cv114) := ch115
                          unfold f_X0_tells at ch115
                          unfold B_X0_tells_0 at ch115
                          have ch115 := zk_f (by decide) ch115
                          have ch115 := zk_t (Int32.le_refl _) ch115
                          obtain ⟨cv116, cv117, ch118, ch115⟩ := zk_o2 ch115
                          unfold f_X0_note at ch118
                          unfold B_X0_note_0 at ch118
                          have ch118 := zk_f (by decide) ch118
                          obtain ⟨_, ch118⟩ := zk_gd ch118
                          obtain ⟨cv119, ce120, ch118⟩ := zk_lt ch118
                          subst ce120
                          unfold B_X0_note_19 at ch118
                          obtain ⟨cv121, ce122, ch118⟩ := zk_lt ch118
                          subst ce122
                          simp only [Option.some.injEq, Prod.mk.injEq] at ch118
                          obtain ⟨rfl, rfl⟩ := ch118
                          obtain ⟨cv123, cv124, cv125, ch126, ch115⟩ := zk_o3 ch115
                          have ch126 : f_X0_settles (grp_grp140 6) (3 : Int32) x3 ((0 : Int32) + (1 : Int32)) (3 : Int32) x1 (S_askedCount x1.toNatClampNeg) (upd acts_bodies (0 : Int32).toNatClampNeg (2 : Int32)) = some (cv123, cv124, cv125) := ch126
                          unfold f_X0_settles at ch126
                          unfold B_X0_settles_0 at ch126
                          have ch126 := zk_f (by decide) ch126
                          have ch126 := zk_f (by decide) ch126
                          have ch126 := zk_t rfl ch126
                          obtain ⟨cv127, cv128, ch129, ch126⟩ := zk_o2 ch126
                          unfold f_X0_above at ch129
                          unfold B_X0_above_0 at ch129
                          have ch129 := zk_f (by decide) ch129
                          have ch129 := zk_f (by decide) ch129
                          have ch129 := zk_f (by decide) ch129
                          simp only [Option.some.injEq, Prod.mk.injEq] at ch129
                          obtain ⟨rfl, _⟩ := ch129
                          obtain ⟨cv130, cv131, cv132, ch133, ch126⟩ := zk_o3 ch126
                          have ch133 : f_X0_settles (grp_grp140 5) (0 : Int32) x3 ((0 : Int32) + (1 : Int32)) (3 : Int32) x1 (S_askedCount x1.toNatClampNeg) (upd acts_bodies (0 : Int32).toNatClampNeg (2 : Int32)) = some (cv130, cv131, cv132) := ch133
                          unfold f_X0_settles at ch133
                          unfold B_X0_settles_0 at ch133
                          have ch133 := zk_f (by decide) ch133
                          have ch133 := zk_f (by decide) ch133
                          have ch133 := zk_f (by decide) ch133
                          have ch133 := zk_f (by decide) ch133
                          have ch133 := zk_f (by decide) ch133
                          have ch133 := zk_f (by decide) ch133
                          obtain ⟨cv134, cv135, ch136, ch133⟩ := zk_o2 ch133
                          unfold f_X0_note at ch136
                          unfold B_X0_note_0 at ch136
                          have ch136 := zk_f (by decide) ch136
                          obtain ⟨_, ch136⟩ := zk_gd ch136
                          obtain ⟨cv137, ce138, ch136⟩ := zk_lt ch136
                          subst ce138
                          unfold B_X0_note_19 at ch136
                          obtain ⟨cv139, ce140, ch136⟩ := zk_lt ch136
                          subst ce140
                          simp only [Option.some.injEq, Prod.mk.injEq] at ch136
                          obtain ⟨rfl, rfl⟩ := ch136
                          obtain ⟨cv141, cv142, cv143, ch144, ch133⟩ := zk_o3 ch133
                          have ch144 : f_X0_closes (grp_grp138 6) (3 : Int32) x3 (((0 : Int32) + (1 : Int32)) + (1 : Int32)) (3 : Int32) x1 (S_askedCount x1.toNatClampNeg) (upd (upd acts_bodies (0 : Int32).toNatClampNeg (2 : Int32)) ((0 : Int32) + (1 : Int32)).toNatClampNeg (10 : Int32)) = some (cv141, cv142, cv143) := ch144
                          unfold f_X0_closes at ch144
                          unfold B_X0_closes_0 at ch144
                          have ch144 := zk_f (by decide) ch144
                          have ch144 := zk_f (by decide) ch144
                          have ch144 := zk_t rfl ch144
                          obtain ⟨cv145, cv146, ch147, ch144⟩ := zk_o2 ch144
                          unfold f_X0_note at ch147
                          unfold B_X0_note_0 at ch147
                          have ch147 := zk_f (by decide) ch147
                          obtain ⟨_, ch147⟩ := zk_gd ch147
                          obtain ⟨cv148, ce149, ch147⟩ := zk_lt ch147
                          subst ce149
                          unfold B_X0_note_19 at ch147
                          obtain ⟨cv150, ce151, ch147⟩ := zk_lt ch147
                          subst ce151
                          simp only [Option.some.injEq, Prod.mk.injEq] at ch147
                          obtain ⟨rfl, rfl⟩ := ch147
                          obtain ⟨cv152, cv153, ch154, ch144⟩ := zk_o2 ch144
                          unfold f_X0_above at ch154
                          unfold B_X0_above_0 at ch154
                          have ch154 := zk_f (by decide) ch154
                          have ch154 := zk_f (by decide) ch154
                          have ch154 := zk_f (by decide) ch154
                          simp only [Option.some.injEq, Prod.mk.injEq] at ch154
                          obtain ⟨rfl, _⟩ := ch154
                          obtain ⟨cv155, cv156, cv157, ch158, ch144⟩ := zk_o3 ch144
                          have ch158 : f_X0_closes (grp_grp138 5) (0 : Int32) x3 ((((0 : Int32) + (1 : Int32)) + (1 : Int32)) + (1 : Int32)) (3 : Int32) x1 (S_askedCount x1.toNatClampNeg) (upd (upd (upd acts_bodies (0 : Int32).toNatClampNeg (2 : Int32)) ((0 : Int32) + (1 : Int32)).toNatClampNeg (10 : Int32)) (((0 : Int32) + (1 : Int32)) + (1 : Int32)).toNatClampNeg (40 : Int32)) = some (cv155, cv156, cv157) := ch158
                          unfold f_X0_closes at ch158
                          unfold B_X0_closes_0 at ch158
                          have ch158 := zk_f (by decide) ch158
                          have ch158 := zk_f (by decide) ch158
                          have ch158 := zk_f (by decide) ch158
                          have ch158 := zk_f (by decide) ch158
                          have ch158 := zk_f (by decide) ch158
                          have ch158 := zk_f (by decide) ch158
                          obtain ⟨cv159, cv160, ch161, ch158⟩ := zk_o2 ch158
                          unfold f_X0_note at ch161
                          unfold B_X0_note_0 at ch161
                          have ch161 := zk_f (by decide) ch161
                          obtain ⟨_, ch161⟩ := zk_gd ch161
                          obtain ⟨cv162, ce163, ch161⟩ := zk_lt ch161
                          subst ce163
                          unfold B_X0_note_19 at ch161
                          obtain ⟨cv164, ce165, ch161⟩ := zk_lt ch161
                          subst ce165
                          simp only [Option.some.injEq, Prod.mk.injEq] at ch161
                          obtain ⟨rfl, rfl⟩ := ch161
                          simp only [Option.some.injEq, Prod.mk.injEq] at ch158
                          obtain ⟨rfl, rfl, rfl⟩ := ch158
                          simp only [Option.some.injEq, Prod.mk.injEq] at ch144
                          obtain ⟨rfl, rfl, rfl⟩ := ch144
                          simp only [Option.some.injEq, Prod.mk.injEq] at ch133
                          obtain ⟨rfl, rfl, rfl⟩ := ch133
                          simp only [Option.some.injEq, Prod.mk.injEq] at ch126
                          obtain ⟨rfl, rfl, rfl⟩ := ch126
                          obtain ⟨cv166, cv167, cv168, ch169, ch115⟩ := zk_o3 ch115
                          have ch169 : f_X0_binds (grp_grp139 6) (3 : Int32) (1 : Int32) (((((0 : Int32) + (1 : Int32)) + (1 : Int32)) + (1 : Int32)) + (1 : Int32)) (3 : Int32) x1 (S_askedCount x1.toNatClampNeg) (upd (upd (upd (upd acts_bodies (0 : Int32).toNatClampNeg (2 : Int32)) ((0 : Int32) + (1 : Int32)).toNatClampNeg (10 : Int32)) (((0 : Int32) + (1 : Int32)) + (1 : Int32)).toNatClampNeg (40 : Int32)) ((((0 : Int32) + (1 : Int32)) + (1 : Int32)) + (1 : Int32)).toNatClampNeg (1 : Int32)) = some (cv166, cv167, cv168) := ch169
                          unfold f_X0_binds at ch169
                          unfold B_X0_binds_0 at ch169
                          have ch169 := zk_f (by decide) ch169
                          have ch169 := zk_f (by decide) ch169
                          obtain ⟨cv170, cv171, ch172, ch169⟩ := zk_o2 ch169
                          unfold f_X0_above at ch172
                          unfold B_X0_above_0 at ch172
                          have ch172 := zk_f (by decide) ch172
                          have ch172 := zk_f (by decide) ch172
                          have ch172 := zk_f (by decide) ch172
                          simp only [Option.some.injEq, Prod.mk.injEq] at ch172
                          obtain ⟨rfl, _⟩ := ch172
                          obtain ⟨cv173, cv174, cv175, ch176, ch169⟩ := zk_o3 ch169
                          have ch176 : f_X0_binds (grp_grp139 5) (0 : Int32) (1 : Int32) (((((0 : Int32) + (1 : Int32)) + (1 : Int32)) + (1 : Int32)) + (1 : Int32)) (3 : Int32) x1 (S_askedCount x1.toNatClampNeg) (upd (upd (upd (upd acts_bodies (0 : Int32).toNatClampNeg (2 : Int32)) ((0 : Int32) + (1 : Int32)).toNatClampNeg (10 : Int32)) (((0 : Int32) + (1 : Int32)) + (1 : Int32)).toNatClampNeg (40 : Int32)) ((((0 : Int32) + (1 : Int32)) + (1 : Int32)) + (1 : Int32)).toNatClampNeg (1 : Int32)) = some (cv173, cv174, cv175) := ch176
                          unfold f_X0_binds at ch176
                          unfold B_X0_binds_0 at ch176
                          have ch176 := zk_f (by decide) ch176
                          have ch176 := zk_t (Int32.le_refl _) ch176
                          obtain ⟨cv177, cv178, ch179, ch176⟩ := zk_o2 ch176
                          unfold f_X0_note at ch179
                          unfold B_X0_note_0 at ch179
                          have ch179 := zk_f (by decide) ch179
                          obtain ⟨_, ch179⟩ := zk_gd ch179
                          obtain ⟨cv180, ce181, ch179⟩ := zk_lt ch179
                          subst ce181
                          unfold B_X0_note_19 at ch179
                          obtain ⟨cv182, ce183, ch179⟩ := zk_lt ch179
                          subst ce183
                          simp only [Option.some.injEq, Prod.mk.injEq] at ch179
                          obtain ⟨rfl, rfl⟩ := ch179
                          simp only [Option.some.injEq, Prod.mk.injEq] at ch176
                          obtain ⟨rfl, rfl, rfl⟩ := ch176
                          simp only [Option.some.injEq, Prod.mk.injEq] at ch169
                          obtain ⟨rfl, rfl, rfl⟩ := ch169
                          simp only [Option.some.injEq, Prod.mk.injEq] at ch115
                          obtain ⟨rfl, rfl, rfl⟩ := ch115
                          simp only [Option.some.injEq, Prod.mk.injEq] at ch108
                          obtain ⟨rfl, rfl, rfl⟩ := ch108
                          have hi : x1.toNatClampNeg < court_suitCount.toInt.toNat := by rw [tcn]; omega
                          have ea : mod_askedMany x1.toNatClampNeg = S_askedCount x1.toNatClampNeg := (hA _ hi).symm
                          unfold B_X12_act_0 at k
                          replace k := zk_o2 k
                          obtain ⟨mv133, mv134, mh135, k⟩ := k
                          unfold f_X12_isSuit at mh135
                          unfold B_X12_isSuit_0 at mh135
                          obtain ⟨mv136, mv137, mh138, mh135⟩ := zk_o2 mh135
                          unfold f_X12_in at mh138
                          unfold B_X12_in_0 at mh138
                          have mh138 := zk_f cc4 mh138
                          have mh138 := zk_f (by (try simp only [i32_lt, i32_le, i32_e, z32_0, z32_1]); omega) mh138
                          simp only [Option.some.injEq, Prod.mk.injEq] at mh138
                          obtain ⟨rfl, _⟩ := mh138
                          obtain ⟨_, mh135⟩ := zk_gd mh135
                          simp only [Option.some.injEq, Prod.mk.injEq] at mh135
                          obtain ⟨rfl, _⟩ := mh135
                          replace k := zk_f (by decide) k
                          replace k := zk_o2 k
                          obtain ⟨mv139, mv140, mh141, k⟩ := k
                          unfold f_X12_in at mh141
                          unfold B_X12_in_0 at mh141
                          have mh141 := zk_f (by (try simp only [i32_lt, i32_le, i32_e, z32_0, z32_1]); omega) mh141
                          have mh141 := zk_f (by (try simp only [i32_lt, i32_le, i32_e, z32_0, z32_1, z32L_3]); omega) mh141
                          simp only [Option.some.injEq, Prod.mk.injEq] at mh141
                          obtain ⟨rfl, _⟩ := mh141
                          replace k := zk_f (by decide) k
                          replace k := zk_f cc15 k
                          replace k := zk_f cc41 k
                          replace k := zk_f cc85 k
                          replace k := zk_o3 k
                          obtain ⟨mv142, mv143, mv144, mh145, k⟩ := k
                          unfold f_X12_tells at mh145
                          unfold B_X12_tells_0 at mh145
                          obtain ⟨mv146, mv147, mh148, mh145⟩ := zk_o2 mh145
                          obtain mq149 := bk12_e (hB12 hi) mh148
                          replace mq149 := mq149.symm
                          subst mq149
                          have mh145 := zk_f (by decide) mh145
                          obtain ⟨mv150, mv151, mv152, mh153, mh145⟩ := zk_o3 mh145
                          unfold f_X12_plainTells at mh153
                          unfold B_X12_plainTells_0 at mh153
                          obtain ⟨mv154, mv155, mh156, mh153⟩ := zk_o2 mh153
                          unfold f_X12_ran at mh156
                          unfold B_X12_ran_0 at mh156
                          have mh156 := zk_f (by decide) mh156
                          obtain ⟨_, mh156⟩ := zk_gd mh156
                          obtain ⟨mv157, me158, mh156⟩ := zk_lt mh156
                          subst me158
                          unfold B_X12_ran_19 at mh156
                          obtain ⟨mv159, me160, mh156⟩ := zk_lt mh156
                          subst me160
                          simp only [Option.some.injEq, Prod.mk.injEq] at mh156
                          obtain ⟨rfl, rfl⟩ := mh156
                          obtain ⟨mv161, mv162, mv163, mh164, mh153⟩ := zk_o3 mh153
                          unfold f_X12_settles at mh164
                          unfold B_X12_settles_0 at mh164
                          obtain ⟨mv165, mv166, mh167, mh164⟩ := zk_o2 mh164
                          obtain mq168 := bk12_e (hB12 hi) mh167
                          replace mq168 := mq168.symm
                          subst mq168
                          have mh164 := zk_f (by decide) mh164
                          have mh164 := zk_f (by decide) mh164
                          have mh164 := zk_f (by decide) mh164
                          obtain ⟨mv169, mv170, mv171, mh172, mh164⟩ := zk_o3 mh164
                          unfold f_X12_plainSettles at mh172
                          unfold B_X12_plainSettles_0 at mh172
                          obtain ⟨mv173, mv174, mh175, mh172⟩ := zk_o2 mh172
                          unfold f_X12_ran at mh175
                          unfold B_X12_ran_0 at mh175
                          have mh175 := zk_f (by decide) mh175
                          obtain ⟨_, mh175⟩ := zk_gd mh175
                          obtain ⟨mv176, me177, mh175⟩ := zk_lt mh175
                          subst me177
                          unfold B_X12_ran_19 at mh175
                          obtain ⟨mv178, me179, mh175⟩ := zk_lt mh175
                          subst me179
                          simp only [Option.some.injEq, Prod.mk.injEq] at mh175
                          obtain ⟨rfl, rfl⟩ := mh175
                          obtain ⟨mv180, mv181, mv182, mh183, mh172⟩ := zk_o3 mh172
                          unfold f_X12_closes at mh183
                          unfold B_X12_closes_0 at mh183
                          rw [ea] at mh183
                          obtain ⟨mv184, mv185, mh186, mh183⟩ := zk_o2 mh183
                          obtain mq187 := bk12_e (hB12 hi) mh186
                          replace mq187 := mq187.symm
                          subst mq187
                          have mh183 := zk_t rfl mh183
                          unfold B_X12_closes_16 at mh183
                          obtain ⟨mv188, mv189, mh190, mh183⟩ := zk_o2 mh183
                          unfold f_X12_ran at mh190
                          unfold B_X12_ran_0 at mh190
                          have mh190 := zk_f (by decide) mh190
                          obtain ⟨_, mh190⟩ := zk_gd mh190
                          obtain ⟨mv191, me192, mh190⟩ := zk_lt mh190
                          subst me192
                          unfold B_X12_ran_19 at mh190
                          obtain ⟨mv193, me194, mh190⟩ := zk_lt mh190
                          subst me194
                          simp only [Option.some.injEq, Prod.mk.injEq] at mh190
                          obtain ⟨rfl, rfl⟩ := mh190
                          obtain ⟨mv195, mv196, mv197, mh198, mh183⟩ := zk_o3 mh183
                          unfold f_X12_plainCloses at mh198
                          unfold B_X12_plainCloses_0 at mh198
                          obtain ⟨mv199, mv200, mh201, mh198⟩ := zk_o2 mh198
                          unfold f_X12_ran at mh201
                          unfold B_X12_ran_0 at mh201
                          have mh201 := zk_f (by decide) mh201
                          obtain ⟨_, mh201⟩ := zk_gd mh201
                          obtain ⟨mv202, me203, mh201⟩ := zk_lt mh201
                          subst me203
                          unfold B_X12_ran_19 at mh201
                          obtain ⟨mv204, me205, mh201⟩ := zk_lt mh201
                          subst me205
                          simp only [Option.some.injEq, Prod.mk.injEq] at mh201
                          obtain ⟨rfl, rfl⟩ := mh201
                          simp only [Option.some.injEq, Prod.mk.injEq] at mh198
                          obtain ⟨rfl, rfl, rfl⟩ := mh198
                          simp only [Option.some.injEq, Prod.mk.injEq] at mh183
                          obtain ⟨rfl, rfl, rfl⟩ := mh183
                          simp only [Option.some.injEq, Prod.mk.injEq] at mh172
                          obtain ⟨rfl, rfl, rfl⟩ := mh172
                          simp only [Option.some.injEq, Prod.mk.injEq] at mh164
                          obtain ⟨rfl, rfl, rfl⟩ := mh164
                          obtain ⟨mv206, mv207, mv208, mh209, mh153⟩ := zk_o3 mh153
                          unfold f_X12_binds at mh209
                          unfold B_X12_binds_0 at mh209
                          obtain ⟨mv210, mv211, mh212, mh209⟩ := zk_o2 mh209
                          obtain mq213 := bk12_e (hB12 hi) mh212
                          replace mq213 := mq213.symm
                          subst mq213
                          obtain ⟨mv214, mv215, mh216, mh209⟩ := zk_o2 mh209
                          unfold f_X12_isUnder at mh216
                          unfold B_X12_isUnder_0 at mh216
                          have mh216 := zk_f (by decide) mh216
                          have mh216 := zk_f (by decide) mh216
                          have mh216 := zk_f (by decide) mh216
                          unfold B_X12_isUnder_19 at mh216
                          have mh216 := zk_t rfl mh216
                          have mh216 := zk_f (by decide) mh216
                          unfold B_X12_isUnder_29 at mh216
                          have mh216 := zk_f (by decide) mh216
                          simp only [Option.some.injEq, Prod.mk.injEq] at mh216
                          obtain ⟨rfl, _⟩ := mh216
                          have mh209 := zk_t rfl mh209
                          obtain ⟨mv217, mv218, mv219, mh220, mh209⟩ := zk_o3 mh209
                          unfold f_X12_plainBinds at mh220
                          unfold B_X12_plainBinds_0 at mh220
                          obtain ⟨mv221, mv222, mh223, mh220⟩ := zk_o2 mh220
                          unfold f_X12_ran at mh223
                          unfold B_X12_ran_0 at mh223
                          have mh223 := zk_f (by decide) mh223
                          obtain ⟨_, mh223⟩ := zk_gd mh223
                          obtain ⟨mv224, me225, mh223⟩ := zk_lt mh223
                          subst me225
                          unfold B_X12_ran_19 at mh223
                          obtain ⟨mv226, me227, mh223⟩ := zk_lt mh223
                          subst me227
                          simp only [Option.some.injEq, Prod.mk.injEq] at mh223
                          obtain ⟨rfl, rfl⟩ := mh223
                          simp only [Option.some.injEq, Prod.mk.injEq] at mh220
                          obtain ⟨rfl, rfl, rfl⟩ := mh220
                          simp only [Option.some.injEq, Prod.mk.injEq] at mh209
                          obtain ⟨rfl, rfl, rfl⟩ := mh209
                          simp only [Option.some.injEq, Prod.mk.injEq] at mh153
                          obtain ⟨rfl, rfl, rfl⟩ := mh153
                          simp only [Option.some.injEq, Prod.mk.injEq] at mh145
                          obtain ⟨rfl, rfl, rfl⟩ := mh145
                          replace h := Option.some.inj h
                          replace k := Option.some.inj k
                          subst h
                          subst k
                          try dsimp only
                          all_goals first
                          | (exfalso; omega)
                          | exact ⟨rfl, rfl, fun e => by first | exact e | rw [e]⟩
                          | exact ⟨rfl, rfl, fun e => by rw [e]; rfl⟩
                      · replace h := zk_f cc104 h
                        have cc104n := cc104
                        (try simp only [i32_lt, i32_le, i32_e, z32_0, z32_1, z32L_3] at cc104n)
                        first
                        | (exfalso; omega)
                        | have hi : x1.toNatClampNeg < court_suitCount.toInt.toNat := by rw [tcn]; omega
                          have ea : mod_askedMany x1.toNatClampNeg = S_askedCount x1.toNatClampNeg := (hA _ hi).symm
                          unfold B_X12_act_0 at k
                          replace k := zk_o2 k
                          obtain ⟨mv228, mv229, mh230, k⟩ := k
                          unfold f_X12_isSuit at mh230
                          unfold B_X12_isSuit_0 at mh230
                          obtain ⟨mv231, mv232, mh233, mh230⟩ := zk_o2 mh230
                          unfold f_X12_in at mh233
                          unfold B_X12_in_0 at mh233
                          have mh233 := zk_f cc4 mh233
                          have mh233 := zk_f (by (try simp only [i32_lt, i32_le, i32_e, z32_0, z32_1]); omega) mh233
                          simp only [Option.some.injEq, Prod.mk.injEq] at mh233
                          obtain ⟨rfl, _⟩ := mh233
                          obtain ⟨_, mh230⟩ := zk_gd mh230
                          simp only [Option.some.injEq, Prod.mk.injEq] at mh230
                          obtain ⟨rfl, _⟩ := mh230
                          replace k := zk_f (by decide) k
                          replace k := zk_o2 k
                          obtain ⟨mv234, mv235, mh236, k⟩ := k
                          unfold f_X12_in at mh236
                          unfold B_X12_in_0 at mh236
                          by_cases mc237 : x2 < (0 : Int32)
                          · have mh236 := zk_t mc237 mh236
                            have mc237n := mc237
                            (try simp only [i32_lt, i32_le, i32_e, z32_0, z32_1] at mc237n)
                            first
                            | (exfalso; omega)
                            | simp only [Option.some.injEq, Prod.mk.injEq] at mh236
                              obtain ⟨rfl, _⟩ := mh236
                              replace k := zk_t rfl k
                              replace h := Option.some.inj h
                              replace k := Option.some.inj k
                              subst h
                              subst k
                              try dsimp only
                              all_goals first
                              | (exfalso; omega)
                              | exact ⟨rfl, rfl, fun e => by first | exact e | rw [e]⟩
                              | exact ⟨rfl, rfl, fun e => by rw [e]; rfl⟩
                          · have mh236 := zk_f mc237 mh236
                            have mc237n := mc237
                            (try simp only [i32_lt, i32_le, i32_e, z32_0, z32_1] at mc237n)
                            first
                            | (exfalso; omega)
                            | by_cases mc238 : (3 : Int32) < x2
                              · have mh236 := zk_t mc238 mh236
                                have mc238n := mc238
                                (try simp only [i32_lt, i32_le, i32_e, z32_0, z32_1, z32L_3] at mc238n)
                                first
                                | (exfalso; omega)
                                | simp only [Option.some.injEq, Prod.mk.injEq] at mh236
                                  obtain ⟨rfl, _⟩ := mh236
                                  replace k := zk_t rfl k
                                  replace h := Option.some.inj h
                                  replace k := Option.some.inj k
                                  subst h
                                  subst k
                                  try dsimp only
                                  all_goals first
                                  | (exfalso; omega)
                                  | exact ⟨rfl, rfl, fun e => by first | exact e | rw [e]⟩
                                  | exact ⟨rfl, rfl, fun e => by rw [e]; rfl⟩
                              · have mh236 := zk_f mc238 mh236
                                have mc238n := mc238
                                (try simp only [i32_lt, i32_le, i32_e, z32_0, z32_1, z32L_3] at mc238n)
                                first
                                | (exfalso; omega)
                                | simp only [Option.some.injEq, Prod.mk.injEq] at mh236
                                  obtain ⟨rfl, _⟩ := mh236
                                  replace k := zk_f (by decide) k
                                  replace k := zk_f cc15 k
                                  replace k := zk_f cc41 k
                                  replace k := zk_f cc85 k
                                  replace k := zk_o3 k
                                  obtain ⟨mv239, mv240, mv241, mh242, k⟩ := k
                                  unfold f_X12_tells at mh242
                                  unfold B_X12_tells_0 at mh242
                                  obtain ⟨mv243, mv244, mh245, mh242⟩ := zk_o2 mh242
                                  obtain mq246 := bk12_e (hB12 hi) mh245
                                  replace mq246 := mq246.symm
                                  subst mq246
                                  have mh242 := zk_f (by decide) mh242
                                  obtain ⟨mv247, mv248, mv249, mh250, mh242⟩ := zk_o3 mh242
                                  unfold f_X12_plainTells at mh250
                                  unfold B_X12_plainTells_0 at mh250
                                  obtain ⟨mv251, mv252, mh253, mh250⟩ := zk_o2 mh250
                                  unfold f_X12_ran at mh253
                                  unfold B_X12_ran_0 at mh253
                                  have mh253 := zk_f (by decide) mh253
                                  obtain ⟨_, mh253⟩ := zk_gd mh253
                                  obtain ⟨mv254, me255, mh253⟩ := zk_lt mh253
                                  subst me255
                                  unfold B_X12_ran_19 at mh253
                                  obtain ⟨mv256, me257, mh253⟩ := zk_lt mh253
                                  subst me257
                                  simp only [Option.some.injEq, Prod.mk.injEq] at mh253
                                  obtain ⟨rfl, rfl⟩ := mh253
                                  obtain ⟨mv258, mv259, mv260, mh261, mh250⟩ := zk_o3 mh250
                                  unfold f_X12_settles at mh261
                                  unfold B_X12_settles_0 at mh261
                                  obtain ⟨mv262, mv263, mh264, mh261⟩ := zk_o2 mh261
                                  obtain mq265 := bk12_e (hB12 hi) mh264
                                  replace mq265 := mq265.symm
                                  subst mq265
                                  have mh261 := zk_f (by decide) mh261
                                  have mh261 := zk_f (by decide) mh261
                                  have mh261 := zk_f (by decide) mh261
                                  obtain ⟨mv266, mv267, mv268, mh269, mh261⟩ := zk_o3 mh261
                                  unfold f_X12_plainSettles at mh269
                                  unfold B_X12_plainSettles_0 at mh269
                                  obtain ⟨mv270, mv271, mh272, mh269⟩ := zk_o2 mh269
                                  unfold f_X12_ran at mh272
                                  unfold B_X12_ran_0 at mh272
                                  have mh272 := zk_f (by decide) mh272
                                  obtain ⟨_, mh272⟩ := zk_gd mh272
                                  obtain ⟨mv273, me274, mh272⟩ := zk_lt mh272
                                  subst me274
                                  unfold B_X12_ran_19 at mh272
                                  obtain ⟨mv275, me276, mh272⟩ := zk_lt mh272
                                  subst me276
                                  simp only [Option.some.injEq, Prod.mk.injEq] at mh272
                                  obtain ⟨rfl, rfl⟩ := mh272
                                  obtain ⟨mv277, mv278, mv279, mh280, mh269⟩ := zk_o3 mh269
                                  unfold f_X12_closes at mh280
                                  unfold B_X12_closes_0 at mh280
                                  rw [ea] at mh280
                                  obtain ⟨mv281, mv282, mh283, mh280⟩ := zk_o2 mh280
                                  obtain mq284 := bk12_e (hB12 hi) mh283
                                  replace mq284 := mq284.symm
                                  subst mq284
                                  have mh280 := zk_t rfl mh280
                                  unfold B_X12_closes_16 at mh280
                                  obtain ⟨mv285, mv286, mh287, mh280⟩ := zk_o2 mh280
                                  unfold f_X12_ran at mh287
                                  unfold B_X12_ran_0 at mh287
                                  have mh287 := zk_f (by decide) mh287
                                  obtain ⟨_, mh287⟩ := zk_gd mh287
                                  obtain ⟨mv288, me289, mh287⟩ := zk_lt mh287
                                  subst me289
                                  unfold B_X12_ran_19 at mh287
                                  obtain ⟨mv290, me291, mh287⟩ := zk_lt mh287
                                  subst me291
                                  simp only [Option.some.injEq, Prod.mk.injEq] at mh287
                                  obtain ⟨rfl, rfl⟩ := mh287
                                  obtain ⟨mv292, mv293, mv294, mh295, mh280⟩ := zk_o3 mh280
                                  unfold f_X12_plainCloses at mh295
                                  unfold B_X12_plainCloses_0 at mh295
                                  obtain ⟨mv296, mv297, mh298, mh295⟩ := zk_o2 mh295
                                  unfold f_X12_ran at mh298
                                  unfold B_X12_ran_0 at mh298
                                  have mh298 := zk_f (by decide) mh298
                                  obtain ⟨_, mh298⟩ := zk_gd mh298
                                  obtain ⟨mv299, me300, mh298⟩ := zk_lt mh298
                                  subst me300
                                  unfold B_X12_ran_19 at mh298
                                  obtain ⟨mv301, me302, mh298⟩ := zk_lt mh298
                                  subst me302
                                  simp only [Option.some.injEq, Prod.mk.injEq] at mh298
                                  obtain ⟨rfl, rfl⟩ := mh298
                                  simp only [Option.some.injEq, Prod.mk.injEq] at mh295
                                  obtain ⟨rfl, rfl, rfl⟩ := mh295
                                  simp only [Option.some.injEq, Prod.mk.injEq] at mh280
                                  obtain ⟨rfl, rfl, rfl⟩ := mh280
                                  simp only [Option.some.injEq, Prod.mk.injEq] at mh269
                                  obtain ⟨rfl, rfl, rfl⟩ := mh269
                                  simp only [Option.some.injEq, Prod.mk.injEq] at mh261
                                  obtain ⟨rfl, rfl, rfl⟩ := mh261
                                  obtain ⟨mv303, mv304, mv305, mh306, mh250⟩ := zk_o3 mh250
                                  unfold f_X12_binds at mh306
                                  unfold B_X12_binds_0 at mh306
                                  obtain ⟨mv307, mv308, mh309, mh306⟩ := zk_o2 mh306
                                  obtain mq310 := bk12_e (hB12 hi) mh309
                                  replace mq310 := mq310.symm
                                  subst mq310
                                  obtain ⟨mv311, mv312, mh313, mh306⟩ := zk_o2 mh306
                                  unfold f_X12_isUnder at mh313
                                  unfold B_X12_isUnder_0 at mh313
                                  have mh313 := zk_f (by decide) mh313
                                  have mh313 := zk_f (by decide) mh313
                                  have mh313 := zk_f (by decide) mh313
                                  unfold B_X12_isUnder_19 at mh313
                                  have mh313 := zk_t rfl mh313
                                  have mh313 := zk_f (by decide) mh313
                                  unfold B_X12_isUnder_29 at mh313
                                  have mh313 := zk_f (by decide) mh313
                                  simp only [Option.some.injEq, Prod.mk.injEq] at mh313
                                  obtain ⟨rfl, _⟩ := mh313
                                  have mh306 := zk_t rfl mh306
                                  obtain ⟨mv314, mv315, mv316, mh317, mh306⟩ := zk_o3 mh306
                                  unfold f_X12_plainBinds at mh317
                                  unfold B_X12_plainBinds_0 at mh317
                                  obtain ⟨mv318, mv319, mh320, mh317⟩ := zk_o2 mh317
                                  unfold f_X12_ran at mh320
                                  unfold B_X12_ran_0 at mh320
                                  have mh320 := zk_f (by decide) mh320
                                  obtain ⟨_, mh320⟩ := zk_gd mh320
                                  obtain ⟨mv321, me322, mh320⟩ := zk_lt mh320
                                  subst me322
                                  unfold B_X12_ran_19 at mh320
                                  obtain ⟨mv323, me324, mh320⟩ := zk_lt mh320
                                  subst me324
                                  simp only [Option.some.injEq, Prod.mk.injEq] at mh320
                                  obtain ⟨rfl, rfl⟩ := mh320
                                  simp only [Option.some.injEq, Prod.mk.injEq] at mh317
                                  obtain ⟨rfl, rfl, rfl⟩ := mh317
                                  simp only [Option.some.injEq, Prod.mk.injEq] at mh306
                                  obtain ⟨rfl, rfl, rfl⟩ := mh306
                                  simp only [Option.some.injEq, Prod.mk.injEq] at mh250
                                  obtain ⟨rfl, rfl, rfl⟩ := mh250
                                  simp only [Option.some.injEq, Prod.mk.injEq] at mh242
                                  obtain ⟨rfl, rfl, rfl⟩ := mh242
                                  replace h := Option.some.inj h
                                  replace k := Option.some.inj k
                                  subst h
                                  subst k
                                  try dsimp only
                                  all_goals first
                                  | (exfalso; omega)
                                  | exact ⟨rfl, rfl, fun e => by first | exact e | rw [e]⟩
                                  | exact ⟨rfl, rfl, fun e => by rw [e]; rfl⟩
