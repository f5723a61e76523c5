
set_option maxHeartbeats 4000000 in
set_option maxRecDepth 20000 in
theorem pw_act6 {mod_code : Int32} {court_shoeCount : Int32} {mod_claims : Int32} {ts : Int32} {at_ : Int32} {f : Int32} {court_suitCount : Int32} {mod_doneMany : Int32} {mod_undoneMany : Int32} {mod_open : Int32} {mod_laid : Int32} {mod_isBoth : Int32} {mod_wished : Int32} {mod_bestMany : Int32} {mod_bestRow : Int32} {mod_ringDigits : Int32} {mod_traces : Int32} {mod_askedMany : Nat → Int32} {mod_endKind : Nat → Int32} {mod_undoneFrom : Nat → Int32} {mod_traced : Nat → Int32} {court_claimCount : Int32} {court_suits : Nat → Option Nat} {S_who : Nat → Int32} {S_against : Nat → Int32} {S_kind : Nat → Int32} {S_won : Nat → Int32} {S_day : Nat → Int32} {S_land : Nat → Int32} {S_undoneFrom : Nat → Int32} {S_asked : Nat → Nat → Int32} {S_askedCount : Nat → Int32} {S_askedBits : Nat → Int32} {S_first : Nat → Int32} {S_foundSo : Nat → Int32} {S_foundNot : Nat → Int32} {S_fought : Nat → Int32} {S_needed : Nat → Int32} {acts_ran : Int32} {acts_kind : Int32} {acts_number : Int32} {acts_claims : Int32} {acts_bodies : Nat → Int32} {x1 x2 x3 : Int32} {R : Int32 × Int32 × Int32 × Int32 × Int32 × (Nat → Int32)} {Q : Int32 × Int32 × (Nat → Int32)} (hn : 0 ≤ court_suitCount.toInt ∧ court_suitCount.toInt ≤ 40) (hA : WU court_suitCount S_askedCount mod_askedMany) (hB8 : ((S_undoneFrom x1.toNatClampNeg).toInt < 0 ∧ S_kind x1.toNatClampNeg = (6 : Int32)) ∨ (0 ≤ (S_undoneFrom x1.toNatClampNeg).toInt ∧ (6 : Int32) = 5)) (hB12 : x1.toNatClampNeg < court_suitCount.toInt.toNat → ((mod_undoneFrom x1.toNatClampNeg).toInt < 0 ∧ mod_endKind x1.toNatClampNeg = (6 : Int32)) ∨ (0 ≤ (mod_undoneFrom x1.toNatClampNeg).toInt ∧ (6 : Int32) = 5)) (h : f_X11_act x1 x2 x3 court_shoeCount court_claimCount court_suitCount court_suits acts_ran acts_kind acts_number acts_claims acts_bodies S_who S_against S_kind S_won S_day S_land S_undoneFrom S_asked S_askedCount S_askedBits S_first S_foundSo S_foundNot S_fought S_needed = some R) (k : f_X12_act x1 x2 x3 mod_code court_shoeCount mod_claims ts at_ f court_suitCount mod_doneMany mod_undoneMany mod_open mod_laid mod_isBoth mod_wished mod_bestMany mod_bestRow mod_ringDigits mod_traces mod_endKind mod_undoneFrom mod_askedMany mod_traced = some Q) : R.1 = Q.1 ∧ R.2.1 = Q.2.1 ∧ (acts_bodies = mod_traced → R.2.2.2.2.2 = Q.2.2) := by
  have hn1 := i32_m1 (a := court_suitCount) (by omega)
  unfold f_X11_act at h
  unfold f_X12_act at k
  unfold B_X11_act_0 at h
  replace h := zk_o2 h
  obtain ⟨cv1, cv2, ch3, h⟩ := h
  unfold f_X2_suitAt at ch3
  unfold B_X2_suitAt_0 at ch3
  by_cases cc4 : x1 < 0
  · have ch3 := zk_t cc4 ch3
    have cc4n := cc4
    (try simp only [i32_lt, i32_le, i32_e, z32_0, z32_1] at cc4n)
    first
    | (exfalso; omega)
    | simp only [Option.some.injEq, Prod.mk.injEq] at ch3
      obtain ⟨rfl, _⟩ := ch3
      replace h := zk_t (by decide) h
      unfold B_X12_act_0 at k
      replace k := zk_o2 k
      obtain ⟨mv1, mv2, mh3, k⟩ := k
      unfold f_X12_isSuit at mh3
      unfold B_X12_isSuit_0 at mh3
      obtain ⟨mv4, mv5, mh6, mh3⟩ := zk_o2 mh3
      unfold f_X12_in at mh6
      unfold B_X12_in_0 at mh6
      have mh6 := zk_t cc4 mh6
      simp only [Option.some.injEq, Prod.mk.injEq] at mh6
      obtain ⟨rfl, _⟩ := mh6
      obtain ⟨_, mh3⟩ := zk_gd mh3
      simp only [Option.some.injEq, Prod.mk.injEq] at mh3
      obtain ⟨rfl, _⟩ := mh3
      replace k := zk_t rfl k
      replace h := Option.some.inj h
      replace k := Option.some.inj k
      subst h
      subst k
      try dsimp only
      all_goals first
      | (exfalso; omega)
      | exact ⟨rfl, rfl, fun e => by first | exact e | rw [e]⟩
      | exact ⟨rfl, rfl, fun e => by rw [e]; rfl⟩
  · have ch3 := zk_f cc4 ch3
    have cc4n := cc4
    (try simp only [i32_lt, i32_le, i32_e, z32_0, z32_1] at cc4n)
    first
    | (exfalso; omega)
    | by_cases cc5 : court_suitCount ≤ x1
      · have ch3 := zk_t cc5 ch3
        have cc5n := cc5
        (try simp only [i32_lt, i32_le, i32_e, z32_0, z32_1] at cc5n)
        first
        | (exfalso; omega)
        | simp only [Option.some.injEq, Prod.mk.injEq] at ch3
          obtain ⟨rfl, _⟩ := ch3
          replace h := zk_t (by decide) h
          unfold B_X12_act_0 at k
          replace k := zk_o2 k
          obtain ⟨mv7, mv8, mh9, k⟩ := k
          unfold f_X12_isSuit at mh9
          unfold B_X12_isSuit_0 at mh9
          obtain ⟨mv10, mv11, mh12, mh9⟩ := zk_o2 mh9
          unfold f_X12_in at mh12
          unfold B_X12_in_0 at mh12
          have mh12 := zk_f cc4 mh12
          have mh12 := zk_t (by (try simp only [i32_lt, i32_le, i32_e, z32_0, z32_1]); omega) mh12
          simp only [Option.some.injEq, Prod.mk.injEq] at mh12
          obtain ⟨rfl, _⟩ := mh12
          obtain ⟨_, mh9⟩ := zk_gd mh9
          simp only [Option.some.injEq, Prod.mk.injEq] at mh9
          obtain ⟨rfl, _⟩ := mh9
          replace k := zk_t rfl k
          replace h := Option.some.inj h
          replace k := Option.some.inj k
          subst h
          subst k
          try dsimp only
          all_goals first
          | (exfalso; omega)
          | exact ⟨rfl, rfl, fun e => by first | exact e | rw [e]⟩
          | exact ⟨rfl, rfl, fun e => by rw [e]; rfl⟩
      · have ch3 := zk_f cc5 ch3
        have cc5n := cc5
        (try simp only [i32_lt, i32_le, i32_e, z32_0, z32_1] at cc5n)
        first
        | (exfalso; omega)
        | obtain ⟨_, ch3⟩ := zk_gd ch3
          obtain ⟨_, ch3⟩ := zk_gd ch3
          obtain ⟨_, ch3⟩ := zk_gd ch3
          simp only [Option.some.injEq, Prod.mk.injEq] at ch3
          obtain ⟨rfl, _⟩ := ch3
          replace h := zk_f cc4 h
          replace h := zk_gd h
          obtain ⟨_, h⟩ := h
          replace h := zk_o2 h
          obtain ⟨cv6, cv7, ch8, h⟩ := h
          obtain cq9 := bk8_e hB8 ch8
          replace cq9 := cq9.symm
          subst cq9
          replace h := zk_gd h
          obtain ⟨_, h⟩ := h
          replace h := zk_o4 h
          obtain ⟨cv10, cv11, cv12, cv13, ch14, h⟩ := h
          unfold f_X0_begin at ch14
          unfold B_X0_begin_0 at ch14
          simp only [Option.some.injEq, Prod.mk.injEq] at ch14
          obtain ⟨rfl, rfl, rfl, rfl⟩ := ch14
          by_cases cc15 : x2 = (0 : Int32)
          · replace h := zk_t cc15 h
            have cc15n := cc15
            (try simp only [i32_lt, i32_le, i32_e, z32_0, z32_1] at cc15n)
            first
            | (exfalso; omega)
            | obtain ⟨cv16, cv17, cv18, ch19, h⟩ := zk_o3 h
              have ch19 : f_X0_closes (grp_grp138 6) (6 : Int32) x3 (0 : Int32) (6 : Int32) x1 (S_askedCount x1.toNatClampNeg) acts_bodies = some (cv16, cv17, cv18) := ch19
              unfold f_X0_closes at ch19
              unfold B_X0_closes_0 at ch19
              have ch19 := zk_f (by decide) ch19
              have ch19 := zk_f (by decide) ch19
              have ch19 := zk_f (by decide) ch19
              have ch19 := zk_f (by decide) ch19
              have ch19 := zk_f (by decide) ch19
              have ch19 := zk_t rfl ch19
              obtain ⟨cv20, cv21, ch22, ch19⟩ := zk_o2 ch19
              unfold f_X0_note at ch22
              unfold B_X0_note_0 at ch22
              have ch22 := zk_f (by decide) ch22
              obtain ⟨_, ch22⟩ := zk_gd ch22
              obtain ⟨cv23, ce24, ch22⟩ := zk_lt ch22
              subst ce24
              unfold B_X0_note_19 at ch22
              obtain ⟨cv25, ce26, ch22⟩ := zk_lt ch22
              subst ce26
              simp only [Option.some.injEq, Prod.mk.injEq] at ch22
              obtain ⟨rfl, rfl⟩ := ch22
              obtain ⟨cv27, cv28, ch29, ch19⟩ := zk_o2 ch19
              unfold f_X0_above at ch29
              unfold B_X0_above_0 at ch29
              have ch29 := zk_f (by decide) ch29
              have ch29 := zk_f (by decide) ch29
              have ch29 := zk_t rfl ch29
              simp only [Option.some.injEq, Prod.mk.injEq] at ch29
              obtain ⟨rfl, _⟩ := ch29
              obtain ⟨cv30, cv31, cv32, ch33, ch19⟩ := zk_o3 ch19
              have ch33 : f_X0_closes (grp_grp138 5) (1 : Int32) x3 ((0 : Int32) + (1 : Int32)) (6 : Int32) x1 (S_askedCount x1.toNatClampNeg) (upd acts_bodies (0 : Int32).toNatClampNeg (70 : Int32)) = some (cv30, cv31, cv32) := ch33
              unfold f_X0_closes at ch33
              unfold B_X0_closes_0 at ch33
              have ch33 := zk_t rfl ch33
              obtain ⟨cv34, cv35, ch36, ch33⟩ := zk_o2 ch33
              unfold f_X0_above at ch36
              unfold B_X0_above_0 at ch36
              have ch36 := zk_f (by decide) ch36
              have ch36 := zk_f (by decide) ch36
              have ch36 := zk_f (by decide) ch36
              simp only [Option.some.injEq, Prod.mk.injEq] at ch36
              obtain ⟨rfl, _⟩ := ch36
              obtain ⟨cv37, cv38, cv39, ch40, ch33⟩ := zk_o3 ch33
              have ch40 : f_X0_closes (grp_grp138 4) (0 : Int32) x3 ((0 : Int32) + (1 : Int32)) (6 : Int32) x1 (S_askedCount x1.toNatClampNeg) (upd acts_bodies (0 : Int32).toNatClampNeg (70 : Int32)) = some (cv37, cv38, cv39) := ch40
              unfold f_X0_closes at ch40
              unfold B_X0_closes_0 at ch40
              have ch40 := zk_f (by decide) ch40
              have ch40 := zk_f (by decide) ch40
              have ch40 := zk_f (by decide) ch40
              have ch40 := zk_f (by decide) ch40
              have ch40 := zk_f (by decide) ch40
              have ch40 := zk_f (by decide) ch40
              obtain ⟨cv41, cv42, ch43, ch40⟩ := zk_o2 ch40
              unfold f_X0_note at ch43
              unfold B_X0_note_0 at ch43
              have ch43 := zk_f (by decide) ch43
              obtain ⟨_, ch43⟩ := zk_gd ch43
              obtain ⟨cv44, ce45, ch43⟩ := zk_lt ch43
              subst ce45
              unfold B_X0_note_19 at ch43
              obtain ⟨cv46, ce47, ch43⟩ := zk_lt ch43
              subst ce47
              simp only [Option.some.injEq, Prod.mk.injEq] at ch43
              obtain ⟨rfl, rfl⟩ := ch43
              simp only [Option.some.injEq, Prod.mk.injEq] at ch40
              obtain ⟨rfl, rfl, rfl⟩ := ch40
              simp only [Option.some.injEq, Prod.mk.injEq] at ch33
              obtain ⟨rfl, rfl, rfl⟩ := ch33
              simp only [Option.some.injEq, Prod.mk.injEq] at ch19
              obtain ⟨rfl, rfl, rfl⟩ := ch19
              have hi : x1.toNatClampNeg < court_suitCount.toInt.toNat := by rw [tcn]; omega
              have ea : mod_askedMany x1.toNatClampNeg = S_askedCount x1.toNatClampNeg := (hA _ hi).symm
              unfold B_X12_act_0 at k
              replace k := zk_o2 k
              obtain ⟨mv13, mv14, mh15, k⟩ := k
              unfold f_X12_isSuit at mh15
              unfold B_X12_isSuit_0 at mh15
              obtain ⟨mv16, mv17, mh18, mh15⟩ := zk_o2 mh15
              unfold f_X12_in at mh18
              unfold B_X12_in_0 at mh18
              have mh18 := zk_f cc4 mh18
              have mh18 := zk_f (by (try simp only [i32_lt, i32_le, i32_e, z32_0, z32_1]); omega) mh18
              simp only [Option.some.injEq, Prod.mk.injEq] at mh18
              obtain ⟨rfl, _⟩ := mh18
              obtain ⟨_, mh15⟩ := zk_gd mh15
              simp only [Option.some.injEq, Prod.mk.injEq] at mh15
              obtain ⟨rfl, _⟩ := mh15
              replace k := zk_f (by decide) k
              replace k := zk_o2 k
              obtain ⟨mv19, mv20, mh21, k⟩ := k
              unfold f_X12_in at mh21
              unfold B_X12_in_0 at mh21
              have mh21 := zk_f (by (try simp only [i32_lt, i32_le, i32_e, z32_0, z32_1]); omega) mh21
              have mh21 := zk_f (by (try simp only [i32_lt, i32_le, i32_e, z32_0, z32_1, z32L_3]); omega) mh21
              simp only [Option.some.injEq, Prod.mk.injEq] at mh21
              obtain ⟨rfl, _⟩ := mh21
              replace k := zk_f (by decide) k
              replace k := zk_t cc15 k
              replace k := zk_o3 k
              obtain ⟨mv22, mv23, mv24, mh25, k⟩ := k
              unfold f_X12_closes at mh25
              unfold B_X12_closes_0 at mh25
              rw [ea] at mh25
              obtain ⟨mv26, mv27, mh28, mh25⟩ := zk_o2 mh25
              obtain mq29 := bk12_e (hB12 hi) mh28
              replace mq29 := mq29.symm
              subst mq29
              have mh25 := zk_f (by decide) mh25
              have mh25 := zk_f (by decide) mh25
              have mh25 := zk_f (by decide) mh25
              have mh25 := zk_t rfl mh25
              obtain ⟨mv30, mv31, mh32, mh25⟩ := zk_o2 mh25
              unfold f_X12_ran at mh32
              unfold B_X12_ran_0 at mh32
              have mh32 := zk_f (by decide) mh32
              obtain ⟨_, mh32⟩ := zk_gd mh32
              obtain ⟨mv33, me34, mh32⟩ := zk_lt mh32
              subst me34
              unfold B_X12_ran_19 at mh32
              obtain ⟨mv35, me36, mh32⟩ := zk_lt mh32
              subst me36
              simp only [Option.some.injEq, Prod.mk.injEq] at mh32
              obtain ⟨rfl, rfl⟩ := mh32
              obtain ⟨mv37, mv38, mv39, mh40, mh25⟩ := zk_o3 mh25
              unfold f_X12_plainCloses at mh40
              unfold B_X12_plainCloses_0 at mh40
              obtain ⟨mv41, mv42, mh43, mh40⟩ := zk_o2 mh40
              unfold f_X12_ran at mh43
              unfold B_X12_ran_0 at mh43
              have mh43 := zk_f (by decide) mh43
              obtain ⟨_, mh43⟩ := zk_gd mh43
              obtain ⟨mv44, me45, mh43⟩ := zk_lt mh43
              subst me45
              unfold B_X12_ran_19 at mh43
              obtain ⟨mv46, me47, mh43⟩ := zk_lt mh43
              subst me47
              simp only [Option.some.injEq, Prod.mk.injEq] at mh43
              obtain ⟨rfl, rfl⟩ := mh43
              simp only [Option.some.injEq, Prod.mk.injEq] at mh40
              obtain ⟨rfl, rfl, rfl⟩ := mh40
              obtain ⟨_, mh25⟩ := zk_gd mh25
              simp only [Option.some.injEq, Prod.mk.injEq] at mh25
              obtain ⟨rfl, rfl, rfl⟩ := mh25
              replace h := Option.some.inj h
              replace k := Option.some.inj k
              subst h
              subst k
              try dsimp only
              all_goals first
              | (exfalso; omega)
              | exact ⟨rfl, rfl, fun e => by first | exact e | rw [e]⟩
              | exact ⟨rfl, rfl, fun e => by rw [e]; rfl⟩
          · replace h := zk_f cc15 h
            have cc15n := cc15
            (try simp only [i32_lt, i32_le, i32_e, z32_0, z32_1] at cc15n)
            first
            | (exfalso; omega)
            | by_cases cc48 : x2 = (1 : Int32)
              · replace h := zk_t cc48 h
                have cc48n := cc48
                (try simp only [i32_lt, i32_le, i32_e, z32_0, z32_1] at cc48n)
                first
                | (exfalso; omega)
                | obtain ⟨cv49, cv50, cv51, ch52, h⟩ := zk_o3 h
                  have ch52 : f_X0_settles (grp_grp140 6) (6 : Int32) x3 (0 : Int32) (6 : Int32) x1 (S_askedCount x1.toNatClampNeg) acts_bodies = some (cv49, cv50, cv51) := ch52
                  unfold f_X0_settles at ch52
                  unfold B_X0_settles_0 at ch52
                  have ch52 := zk_f (by decide) ch52
                  have ch52 := zk_f (by decide) ch52
                  have ch52 := zk_f (by decide) ch52
                  have ch52 := zk_f (by decide) ch52
                  have ch52 := zk_f (by decide) ch52
                  have ch52 := zk_t rfl ch52
                  obtain ⟨cv53, cv54, ch55, ch52⟩ := zk_o2 ch52
                  unfold f_X0_note at ch55
                  unfold B_X0_note_0 at ch55
                  have ch55 := zk_f (by decide) ch55
                  obtain ⟨_, ch55⟩ := zk_gd ch55
                  obtain ⟨cv56, ce57, ch55⟩ := zk_lt ch55
                  subst ce57
                  unfold B_X0_note_19 at ch55
                  obtain ⟨cv58, ce59, ch55⟩ := zk_lt ch55
                  subst ce59
                  simp only [Option.some.injEq, Prod.mk.injEq] at ch55
                  obtain ⟨rfl, rfl⟩ := ch55
                  obtain ⟨cv60, cv61, ch62, ch52⟩ := zk_o2 ch52
                  unfold f_X0_above at ch62
                  unfold B_X0_above_0 at ch62
                  have ch62 := zk_f (by decide) ch62
                  have ch62 := zk_f (by decide) ch62
                  have ch62 := zk_t rfl ch62
                  simp only [Option.some.injEq, Prod.mk.injEq] at ch62
                  obtain ⟨rfl, _⟩ := ch62
                  obtain ⟨cv63, cv64, cv65, ch66, ch52⟩ := zk_o3 ch52
                  have ch66 : f_X0_settles (grp_grp140 5) (1 : Int32) x3 ((0 : Int32) + (1 : Int32)) (6 : Int32) x1 (S_askedCount x1.toNatClampNeg) (upd acts_bodies (0 : Int32).toNatClampNeg (71 : Int32)) = some (cv63, cv64, cv65) := ch66
                  unfold f_X0_settles at ch66
                  unfold B_X0_settles_0 at ch66
                  have ch66 := zk_t rfl ch66
                  obtain ⟨cv67, cv68, ch69, ch66⟩ := zk_o2 ch66
                  unfold f_X0_note at ch69
                  unfold B_X0_note_0 at ch69
                  have ch69 := zk_f (by decide) ch69
                  obtain ⟨_, ch69⟩ := zk_gd ch69
                  obtain ⟨cv70, ce71, ch69⟩ := zk_lt ch69
                  subst ce71
                  unfold B_X0_note_19 at ch69
                  obtain ⟨cv72, ce73, ch69⟩ := zk_lt ch69
                  subst ce73
                  simp only [Option.some.injEq, Prod.mk.injEq] at ch69
                  obtain ⟨rfl, rfl⟩ := ch69
                  obtain ⟨cv74, cv75, ch76, ch66⟩ := zk_o2 ch66
                  unfold f_X0_above at ch76
                  unfold B_X0_above_0 at ch76
                  have ch76 := zk_f (by decide) ch76
                  have ch76 := zk_f (by decide) ch76
                  have ch76 := zk_f (by decide) ch76
                  simp only [Option.some.injEq, Prod.mk.injEq] at ch76
                  obtain ⟨rfl, _⟩ := ch76
                  obtain ⟨cv77, cv78, cv79, ch80, ch66⟩ := zk_o3 ch66
                  have ch80 : f_X0_settles (grp_grp140 4) (0 : Int32) x3 (((0 : Int32) + (1 : Int32)) + (1 : Int32)) (6 : Int32) x1 (S_askedCount x1.toNatClampNeg) (upd (upd acts_bodies (0 : Int32).toNatClampNeg (71 : Int32)) ((0 : Int32) + (1 : Int32)).toNatClampNeg (20 : Int32)) = some (cv77, cv78, cv79) := ch80
                  unfold f_X0_settles at ch80
                  unfold B_X0_settles_0 at ch80
                  have ch80 := zk_f (by decide) ch80
                  have ch80 := zk_f (by decide) ch80
                  have ch80 := zk_f (by decide) ch80
                  have ch80 := zk_f (by decide) ch80
                  have ch80 := zk_f (by decide) ch80
                  have ch80 := zk_f (by decide) ch80
                  obtain ⟨cv81, cv82, ch83, ch80⟩ := zk_o2 ch80
                  unfold f_X0_note at ch83
                  unfold B_X0_note_0 at ch83
                  have ch83 := zk_f (by decide) ch83
                  obtain ⟨_, ch83⟩ := zk_gd ch83
                  obtain ⟨cv84, ce85, ch83⟩ := zk_lt ch83
                  subst ce85
                  unfold B_X0_note_19 at ch83
                  obtain ⟨cv86, ce87, ch83⟩ := zk_lt ch83
                  subst ce87
                  simp only [Option.some.injEq, Prod.mk.injEq] at ch83
                  obtain ⟨rfl, rfl⟩ := ch83
                  obtain ⟨cv88, cv89, cv90, ch91, ch80⟩ := zk_o3 ch80
                  have ch91 : f_X0_closes (grp_grp138 6) (6 : Int32) x3 ((((0 : Int32) + (1 : Int32)) + (1 : Int32)) + (1 : Int32)) (6 : Int32) x1 (S_askedCount x1.toNatClampNeg) (upd (upd (upd acts_bodies (0 : Int32).toNatClampNeg (71 : Int32)) ((0 : Int32) + (1 : Int32)).toNatClampNeg (20 : Int32)) (((0 : Int32) + (1 : Int32)) + (1 : Int32)).toNatClampNeg (10 : Int32)) = some (cv88, cv89, cv90) := ch91
                  unfold f_X0_closes at ch91
                  unfold B_X0_closes_0 at ch91
                  have ch91 := zk_f (by decide) ch91
                  have ch91 := zk_f (by decide) ch91
                  have ch91 := zk_f (by decide) ch91
                  have ch91 := zk_f (by decide) ch91
                  have ch91 := zk_f (by decide) ch91
                  have ch91 := zk_t rfl ch91
                  obtain ⟨cv92, cv93, ch94, ch91⟩ := zk_o2 ch91
                  unfold f_X0_note at ch94
                  unfold B_X0_note_0 at ch94
                  have ch94 := zk_f (by decide) ch94
                  obtain ⟨_, ch94⟩ := zk_gd ch94
                  obtain ⟨cv95, ce96, ch94⟩ := zk_lt ch94
                  subst ce96
                  unfold B_X0_note_19 at ch94
                  obtain ⟨cv97, ce98, ch94⟩ := zk_lt ch94
                  subst ce98
                  simp only [Option.some.injEq, Prod.mk.injEq] at ch94
                  obtain ⟨rfl, rfl⟩ := ch94
                  obtain ⟨cv99, cv100, ch101, ch91⟩ := zk_o2 ch91
                  unfold f_X0_above at ch101
                  unfold B_X0_above_0 at ch101
                  have ch101 := zk_f (by decide) ch101
                  have ch101 := zk_f (by decide) ch101
                  have ch101 := zk_t rfl ch101
                  simp only [Option.some.injEq, Prod.mk.injEq] at ch101
                  obtain ⟨rfl, _⟩ := ch101
                  obtain ⟨cv102, cv103, cv104, ch105, ch91⟩ := zk_o3 ch91
                  have ch105 : f_X0_closes (grp_grp138 5) (1 : Int32) x3 (((((0 : Int32) + (1 : Int32)) + (1 : Int32)) + (1 : Int32)) + (1 : Int32)) (6 : Int32) x1 (S_askedCount x1.toNatClampNeg) (upd (upd (upd (upd acts_bodies (0 : Int32).toNatClampNeg (71 : Int32)) ((0 : Int32) + (1 : Int32)).toNatClampNeg (20 : Int32)) (((0 : Int32) + (1 : Int32)) + (1 : Int32)).toNatClampNeg (10 : Int32)) ((((0 : Int32) + (1 : Int32)) + (1 : Int32)) + (1 : Int32)).toNatClampNeg (70 : Int32)) = some (cv102, cv103, cv104) := ch105
                  unfold f_X0_closes at ch105
                  unfold B_X0_closes_0 at ch105
                  have ch105 := zk_t rfl ch105
                  obtain ⟨cv106, cv107, ch108, ch105⟩ := zk_o2 ch105
                  unfold f_X0_above at ch108
                  unfold B_X0_above_0 at ch108
                  have ch108 := zk_f (by decide) ch108
                  have ch108 := zk_f (by decide) ch108
                  have ch108 := zk_f (by decide) ch108
                  simp only [Option.some.injEq, Prod.mk.injEq] at ch108
                  obtain ⟨rfl, _⟩ := ch108
                  obtain ⟨cv109, cv110, cv111, ch112, ch105⟩ := zk_o3 ch105
                  have ch112 : f_X0_closes (grp_grp138 4) (0 : Int32) x3 (((((0 : Int32) + (1 : Int32)) + (1 : Int32)) + (1 : Int32)) + (1 : Int32)) (6 : Int32) x1 (S_askedCount x1.toNatClampNeg) (upd (upd (upd (upd acts_bodies (0 : Int32).toNatClampNeg (71 : Int32)) ((0 : Int32) + (1 : Int32)).toNatClampNeg (20 : Int32)) (((0 : Int32) + (1 : Int32)) + (1 : Int32)).toNatClampNeg (10 : Int32)) ((((0 : Int32) + (1 : Int32)) + (1 : Int32)) + (1 : Int32)).toNatClampNeg (70 : Int32)) = some (cv109, cv110, cv111) := ch112
                  unfold f_X0_closes at ch112
                  unfold B_X0_closes_0 at ch112
                  have ch112 := zk_f (by decide) ch112
                  have ch112 := zk_f (by decide) ch112
                  have ch112 := zk_f (by decide) ch112
                  have ch112 := zk_f (by decide) ch112
                  have ch112 := zk_f (by decide) ch112
                  have ch112 := zk_f (by decide) ch112
                  obtain ⟨cv113, cv114, ch115, ch112⟩ := zk_o2 ch112
                  unfold f_X0_note at ch115
                  unfold B_X0_note_0 at ch115
                  have ch115 := zk_f (by decide) ch115
                  obtain ⟨_, ch115⟩ := zk_gd ch115
                  obtain ⟨cv116, ce117, ch115⟩ := zk_lt ch115
                  subst ce117
                  unfold B_X0_note_19 at ch115
                  obtain ⟨cv118, ce119, ch115⟩ := zk_lt ch115
                  subst ce119
                  simp only [Option.some.injEq, Prod.mk.injEq] at ch115
                  obtain ⟨rfl, rfl⟩ := ch115
                  simp only [Option.some.injEq, Prod.mk.injEq] at ch112
                  obtain ⟨rfl, rfl, rfl⟩ := ch112
                  simp only [Option.some.injEq, Prod.mk.injEq] at ch105
                  obtain ⟨rfl, rfl, rfl⟩ := ch105
                  simp only [Option.some.injEq, Prod.mk.injEq] at ch91
                  obtain ⟨rfl, rfl, rfl⟩ := ch91
                  simp only [Option.some.injEq, Prod.mk.injEq] at ch80
                  obtain ⟨rfl, rfl, rfl⟩ := ch80
                  simp only [Option.some.injEq, Prod.mk.injEq] at ch66
                  obtain ⟨rfl, rfl, rfl⟩ := ch66
                  obtain ⟨cv120, cv121, cv122, ch123, ch52⟩ := zk_o3 ch52
                  have ch123 : f_X0_binds (grp_grp139 6) (6 : Int32) (2 : Int32) ((((((0 : Int32) + (1 : Int32)) + (1 : Int32)) + (1 : Int32)) + (1 : Int32)) + (1 : Int32)) (6 : Int32) x1 (S_askedCount x1.toNatClampNeg) (upd (upd (upd (upd (upd acts_bodies (0 : Int32).toNatClampNeg (71 : Int32)) ((0 : Int32) + (1 : Int32)).toNatClampNeg (20 : Int32)) (((0 : Int32) + (1 : Int32)) + (1 : Int32)).toNatClampNeg (10 : Int32)) ((((0 : Int32) + (1 : Int32)) + (1 : Int32)) + (1 : Int32)).toNatClampNeg (70 : Int32)) (((((0 : Int32) + (1 : Int32)) + (1 : Int32)) + (1 : Int32)) + (1 : Int32)).toNatClampNeg (1 : Int32)) = some (cv120, cv121, cv122) := ch123
                  unfold f_X0_binds at ch123
                  unfold B_X0_binds_0 at ch123
                  have ch123 := zk_f (by decide) ch123
                  have ch123 := zk_f (by decide) ch123
                  obtain ⟨cv124, cv125, ch126, ch123⟩ := zk_o2 ch123
                  unfold f_X0_above at ch126
                  unfold B_X0_above_0 at ch126
                  have ch126 := zk_f (by decide) ch126
                  have ch126 := zk_f (by decide) ch126
                  have ch126 := zk_t rfl ch126
                  simp only [Option.some.injEq, Prod.mk.injEq] at ch126
                  obtain ⟨rfl, _⟩ := ch126
                  obtain ⟨cv127, cv128, cv129, ch130, ch123⟩ := zk_o3 ch123
                  have ch130 : f_X0_binds (grp_grp139 5) (1 : Int32) (2 : Int32) ((((((0 : Int32) + (1 : Int32)) + (1 : Int32)) + (1 : Int32)) + (1 : Int32)) + (1 : Int32)) (6 : Int32) x1 (S_askedCount x1.toNatClampNeg) (upd (upd (upd (upd (upd acts_bodies (0 : Int32).toNatClampNeg (71 : Int32)) ((0 : Int32) + (1 : Int32)).toNatClampNeg (20 : Int32)) (((0 : Int32) + (1 : Int32)) + (1 : Int32)).toNatClampNeg (10 : Int32)) ((((0 : Int32) + (1 : Int32)) + (1 : Int32)) + (1 : Int32)).toNatClampNeg (70 : Int32)) (((((0 : Int32) + (1 : Int32)) + (1 : Int32)) + (1 : Int32)) + (1 : Int32)).toNatClampNeg (1 : Int32)) = some (cv127, cv128, cv129) := ch130
                  unfold f_X0_binds at ch130
                  unfold B_X0_binds_0 at ch130
                  have ch130 := zk_f (by decide) ch130
                  have ch130 := zk_f (by decide) ch130
                  obtain ⟨cv131, cv132, ch133, ch130⟩ := zk_o2 ch130
                  unfold f_X0_above at ch133
                  unfold B_X0_above_0 at ch133
                  have ch133 := zk_f (by decide) ch133
                  have ch133 := zk_f (by decide) ch133
                  have ch133 := zk_f (by decide) ch133
                  simp only [Option.some.injEq, Prod.mk.injEq] at ch133
                  obtain ⟨rfl, _⟩ := ch133
                  obtain ⟨cv134, cv135, cv136, ch137, ch130⟩ := zk_o3 ch130
                  have ch137 : f_X0_binds (grp_grp139 4) (0 : Int32) (2 : Int32) ((((((0 : Int32) + (1 : Int32)) + (1 : Int32)) + (1 : Int32)) + (1 : Int32)) + (1 : Int32)) (6 : Int32) x1 (S_askedCount x1.toNatClampNeg) (upd (upd (upd (upd (upd acts_bodies (0 : Int32).toNatClampNeg (71 : Int32)) ((0 : Int32) + (1 : Int32)).toNatClampNeg (20 : Int32)) (((0 : Int32) + (1 : Int32)) + (1 : Int32)).toNatClampNeg (10 : Int32)) ((((0 : Int32) + (1 : Int32)) + (1 : Int32)) + (1 : Int32)).toNatClampNeg (70 : Int32)) (((((0 : Int32) + (1 : Int32)) + (1 : Int32)) + (1 : Int32)) + (1 : Int32)).toNatClampNeg (1 : Int32)) = some (cv134, cv135, cv136) := ch137
                  unfold f_X0_binds at ch137
                  unfold B_X0_binds_0 at ch137
                  have ch137 := zk_f (by decide) ch137
                  have ch137 := zk_t (Int32.le_refl _) ch137
                  obtain ⟨cv138, cv139, ch140, ch137⟩ := zk_o2 ch137
                  unfold f_X0_note at ch140
                  unfold B_X0_note_0 at ch140
                  have ch140 := zk_f (by decide) ch140
                  obtain ⟨_, ch140⟩ := zk_gd ch140
                  obtain ⟨cv141, ce142, ch140⟩ := zk_lt ch140
                  subst ce142
                  unfold B_X0_note_19 at ch140
                  obtain ⟨cv143, ce144, ch140⟩ := zk_lt ch140
                  subst ce144
                  simp only [Option.some.injEq, Prod.mk.injEq] at ch140
                  obtain ⟨rfl, rfl⟩ := ch140
                  simp only [Option.some.injEq, Prod.mk.injEq] at ch137
                  obtain ⟨rfl, rfl, rfl⟩ := ch137
                  simp only [Option.some.injEq, Prod.mk.injEq] at ch130
                  obtain ⟨rfl, rfl, rfl⟩ := ch130
                  simp only [Option.some.injEq, Prod.mk.injEq] at ch123
                  obtain ⟨rfl, rfl, rfl⟩ := ch123
                  simp only [Option.some.injEq, Prod.mk.injEq] at ch52
                  obtain ⟨rfl, rfl, rfl⟩ := ch52
                  have hi : x1.toNatClampNeg < court_suitCount.toInt.toNat := by rw [tcn]; omega
                  have ea : mod_askedMany x1.toNatClampNeg = S_askedCount x1.toNatClampNeg := (hA _ hi).symm
                  unfold B_X12_act_0 at k
                  replace k := zk_o2 k
                  obtain ⟨mv48, mv49, mh50, k⟩ := k
                  unfold f_X12_isSuit at mh50
                  unfold B_X12_isSuit_0 at mh50
                  obtain ⟨mv51, mv52, mh53, mh50⟩ := zk_o2 mh50
                  unfold f_X12_in at mh53
                  unfold B_X12_in_0 at mh53
                  have mh53 := zk_f cc4 mh53
                  have mh53 := zk_f (by (try simp only [i32_lt, i32_le, i32_e, z32_0, z32_1]); omega) mh53
                  simp only [Option.some.injEq, Prod.mk.injEq] at mh53
                  obtain ⟨rfl, _⟩ := mh53
                  obtain ⟨_, mh50⟩ := zk_gd mh50
                  simp only [Option.some.injEq, Prod.mk.injEq] at mh50
                  obtain ⟨rfl, _⟩ := mh50
                  replace k := zk_f (by decide) k
                  replace k := zk_o2 k
                  obtain ⟨mv54, mv55, mh56, k⟩ := k
                  unfold f_X12_in at mh56
                  unfold B_X12_in_0 at mh56
                  have mh56 := zk_f (by (try simp only [i32_lt, i32_le, i32_e, z32_0, z32_1]); omega) mh56
                  have mh56 := zk_f (by (try simp only [i32_lt, i32_le, i32_e, z32_0, z32_1, z32L_3]); omega) mh56
                  simp only [Option.some.injEq, Prod.mk.injEq] at mh56
                  obtain ⟨rfl, _⟩ := mh56
                  replace k := zk_f (by decide) k
                  replace k := zk_f cc15 k
                  replace k := zk_t cc48 k
                  replace k := zk_o3 k
                  obtain ⟨mv57, mv58, mv59, mh60, k⟩ := k
                  unfold f_X12_settles at mh60
                  unfold B_X12_settles_0 at mh60
                  obtain ⟨mv61, mv62, mh63, mh60⟩ := zk_o2 mh60
                  obtain mq64 := bk12_e (hB12 hi) mh63
                  replace mq64 := mq64.symm
                  subst mq64
                  have mh60 := zk_f (by decide) mh60
                  have mh60 := zk_t rfl mh60
                  obtain ⟨mv65, mv66, mh67, mh60⟩ := zk_o2 mh60
                  unfold f_X12_ran at mh67
                  unfold B_X12_ran_0 at mh67
                  have mh67 := zk_f (by decide) mh67
                  obtain ⟨_, mh67⟩ := zk_gd mh67
                  obtain ⟨mv68, me69, mh67⟩ := zk_lt mh67
                  subst me69
                  unfold B_X12_ran_19 at mh67
                  obtain ⟨mv70, me71, mh67⟩ := zk_lt mh67
                  subst me71
                  simp only [Option.some.injEq, Prod.mk.injEq] at mh67
                  obtain ⟨rfl, rfl⟩ := mh67
                  obtain ⟨mv72, mv73, mv74, mh75, mh60⟩ := zk_o3 mh60
                  unfold f_X12_meritsSettles at mh75
                  unfold B_X12_meritsSettles_0 at mh75
                  rw [ea] at mh75
                  obtain ⟨mv76, mv77, mh78, mh75⟩ := zk_o2 mh75
                  unfold f_X12_ran at mh78
                  unfold B_X12_ran_0 at mh78
                  have mh78 := zk_f (by decide) mh78
                  obtain ⟨_, mh78⟩ := zk_gd mh78
                  obtain ⟨mv79, me80, mh78⟩ := zk_lt mh78
                  subst me80
                  unfold B_X12_ran_19 at mh78
                  obtain ⟨mv81, me82, mh78⟩ := zk_lt mh78
                  subst me82
                  simp only [Option.some.injEq, Prod.mk.injEq] at mh78
                  obtain ⟨rfl, rfl⟩ := mh78
                  obtain ⟨mv83, mv84, mv85, mh86, mh75⟩ := zk_o3 mh75
                  unfold f_X12_plainSettles at mh86
                  unfold B_X12_plainSettles_0 at mh86
                  obtain ⟨mv87, mv88, mh89, mh86⟩ := zk_o2 mh86
                  unfold f_X12_ran at mh89
                  unfold B_X12_ran_0 at mh89
                  have mh89 := zk_f (by decide) mh89
                  obtain ⟨_, mh89⟩ := zk_gd mh89
                  obtain ⟨mv90, me91, mh89⟩ := zk_lt mh89
                  subst me91
                  unfold B_X12_ran_19 at mh89
                  obtain ⟨mv92, me93, mh89⟩ := zk_lt mh89
                  subst me93
                  simp only [Option.some.injEq, Prod.mk.injEq] at mh89
                  obtain ⟨rfl, rfl⟩ := mh89
                  obtain ⟨mv94, mv95, mv96, mh97, mh86⟩ := zk_o3 mh86
                  unfold f_X12_closes at mh97
                  unfold B_X12_closes_0 at mh97
                  rw [ea] at mh97
                  obtain ⟨mv98, mv99, mh100, mh97⟩ := zk_o2 mh97
                  obtain mq101 := bk12_e (hB12 hi) mh100
                  replace mq101 := mq101.symm
                  subst mq101
                  have mh97 := zk_f (by decide) mh97
                  have mh97 := zk_f (by decide) mh97
                  have mh97 := zk_f (by decide) mh97
                  have mh97 := zk_t rfl mh97
                  obtain ⟨mv102, mv103, mh104, mh97⟩ := zk_o2 mh97
                  unfold f_X12_ran at mh104
                  unfold B_X12_ran_0 at mh104
                  have mh104 := zk_f (by decide) mh104
                  obtain ⟨_, mh104⟩ := zk_gd mh104
                  obtain ⟨mv105, me106, mh104⟩ := zk_lt mh104
                  subst me106
                  unfold B_X12_ran_19 at mh104
                  obtain ⟨mv107, me108, mh104⟩ := zk_lt mh104
                  subst me108
                  simp only [Option.some.injEq, Prod.mk.injEq] at mh104
                  obtain ⟨rfl, rfl⟩ := mh104
                  obtain ⟨mv109, mv110, mv111, mh112, mh97⟩ := zk_o3 mh97
                  unfold f_X12_plainCloses at mh112
                  unfold B_X12_plainCloses_0 at mh112
                  obtain ⟨mv113, mv114, mh115, mh112⟩ := zk_o2 mh112
                  unfold f_X12_ran at mh115
                  unfold B_X12_ran_0 at mh115
                  have mh115 := zk_f (by decide) mh115
                  obtain ⟨_, mh115⟩ := zk_gd mh115
                  obtain ⟨mv116, me117, mh115⟩ := zk_lt mh115
                  subst me117
                  unfold B_X12_ran_19 at mh115
                  obtain ⟨mv118, me119, mh115⟩ := zk_lt mh115
                  subst me119
                  simp only [Option.some.injEq, Prod.mk.injEq] at mh115
                  obtain ⟨rfl, rfl⟩ := mh115
                  simp only [Option.some.injEq, Prod.mk.injEq] at mh112
                  obtain ⟨rfl, rfl, rfl⟩ := mh112
                  obtain ⟨_, mh97⟩ := zk_gd mh97
                  simp only [Option.some.injEq, Prod.mk.injEq] at mh97
                  obtain ⟨rfl, rfl, rfl⟩ := mh97
                  simp only [Option.some.injEq, Prod.mk.injEq] at mh86
                  obtain ⟨rfl, rfl, rfl⟩ := mh86
                  obtain ⟨_, mh75⟩ := zk_gd mh75
                  simp only [Option.some.injEq, Prod.mk.injEq] at mh75
                  obtain ⟨rfl, rfl, rfl⟩ := mh75
                  obtain ⟨mv120, mv121, mv122, mh123, mh60⟩ := zk_o3 mh60
                  unfold f_X12_binds at mh123
                  unfold B_X12_binds_0 at mh123
                  obtain ⟨mv124, mv125, mh126, mh123⟩ := zk_o2 mh123
                  obtain mq127 := bk12_e (hB12 hi) mh126
                  replace mq127 := mq127.symm
                  subst mq127
                  obtain ⟨mv128, mv129, mh130, mh123⟩ := zk_o2 mh123
                  unfold f_X12_isUnder at mh130
                  unfold B_X12_isUnder_0 at mh130
                  have mh130 := zk_f (by decide) mh130
                  have mh130 := zk_f (by decide) mh130
                  have mh130 := zk_f (by decide) mh130
                  unfold B_X12_isUnder_19 at mh130
                  have mh130 := zk_t rfl mh130
                  have mh130 := zk_f (by decide) mh130
                  unfold B_X12_isUnder_29 at mh130
                  have mh130 := zk_f (by decide) mh130
                  simp only [Option.some.injEq, Prod.mk.injEq] at mh130
                  obtain ⟨rfl, _⟩ := mh130
                  have mh123 := zk_t rfl mh123
                  obtain ⟨mv131, mv132, mv133, mh134, mh123⟩ := zk_o3 mh123
                  unfold f_X12_plainBinds at mh134
                  unfold B_X12_plainBinds_0 at mh134
                  obtain ⟨mv135, mv136, mh137, mh134⟩ := zk_o2 mh134
                  unfold f_X12_ran at mh137
                  unfold B_X12_ran_0 at mh137
                  have mh137 := zk_f (by decide) mh137
                  obtain ⟨_, mh137⟩ := zk_gd mh137
                  obtain ⟨mv138, me139, mh137⟩ := zk_lt mh137
                  subst me139
                  unfold B_X12_ran_19 at mh137
                  obtain ⟨mv140, me141, mh137⟩ := zk_lt mh137
                  subst me141
                  simp only [Option.some.injEq, Prod.mk.injEq] at mh137
                  obtain ⟨rfl, rfl⟩ := mh137
                  simp only [Option.some.injEq, Prod.mk.injEq] at mh134
                  obtain ⟨rfl, rfl, rfl⟩ := mh134
                  simp only [Option.some.injEq, Prod.mk.injEq] at mh123
                  obtain ⟨rfl, rfl, rfl⟩ := mh123
                  simp only [Option.some.injEq, Prod.mk.injEq] at mh60
                  obtain ⟨rfl, rfl, rfl⟩ := mh60
                  replace h := Option.some.inj h
                  replace k := Option.some.inj k
                  subst h
                  subst k
                  try dsimp only
                  all_goals first
                  | (exfalso; omega)
                  | exact ⟨rfl, rfl, fun e => by first | exact e | rw [e]⟩
                  | exact ⟨rfl, rfl, fun e => by rw [e]; rfl⟩
              · replace h := zk_f cc48 h
                have cc48n := cc48
                (try simp only [i32_lt, i32_le, i32_e, z32_0, z32_1] at cc48n)
                first
                | (exfalso; omega)
                | by_cases cc145 : x2 = (2 : Int32)
                  · replace h := zk_t cc145 h
                    have cc145n := cc145
                    (try simp only [i32_lt, i32_le, i32_e, z32_0, z32_1, z32L_2] at cc145n)
                    first
                    | (exfalso; omega)
                    | obtain ⟨cv146, cv147, cv148, ch149, h⟩ := zk_o3 h
                      have ch149 : f_X0_binds (grp_grp139 6) (6 : Int32) x3 (0 : Int32) (6 : Int32) x1 (S_askedCount x1.toNatClampNeg) acts_bodies = some (cv146, cv147, cv148) := ch149
                      unfold f_X0_binds at ch149
                      unfold B_X0_binds_0 at ch149
                      have ch149 := zk_f (by decide) ch149
                      have ch149 := zk_f (by decide) ch149
                      obtain ⟨cv150, cv151, ch152, ch149⟩ := zk_o2 ch149
                      unfold f_X0_above at ch152
                      unfold B_X0_above_0 at ch152
                      have ch152 := zk_f (by decide) ch152
                      have ch152 := zk_f (by decide) ch152
                      have ch152 := zk_t rfl ch152
                      simp only [Option.some.injEq, Prod.mk.injEq] at ch152
                      obtain ⟨rfl, _⟩ := ch152
                      obtain ⟨cv153, cv154, cv155, ch156, ch149⟩ := zk_o3 ch149
                      have ch156 : f_X0_binds (grp_grp139 5) (1 : Int32) x3 (0 : Int32) (6 : Int32) x1 (S_askedCount x1.toNatClampNeg) acts_bodies = some (cv153, cv154, cv155) := ch156
                      unfold f_X0_binds at ch156
                      unfold B_X0_binds_0 at ch156
                      have ch156 := zk_f (by decide) ch156
                      have ch156 := zk_f (by decide) ch156
                      obtain ⟨cv157, cv158, ch159, ch156⟩ := zk_o2 ch156
                      unfold f_X0_above at ch159
                      unfold B_X0_above_0 at ch159
                      have ch159 := zk_f (by decide) ch159
                      have ch159 := zk_f (by decide) ch159
                      have ch159 := zk_f (by decide) ch159
                      simp only [Option.some.injEq, Prod.mk.injEq] at ch159
                      obtain ⟨rfl, _⟩ := ch159
                      obtain ⟨cv160, cv161, cv162, ch163, ch156⟩ := zk_o3 ch156
                      have ch163 : f_X0_binds (grp_grp139 4) (0 : Int32) x3 (0 : Int32) (6 : Int32) x1 (S_askedCount x1.toNatClampNeg) acts_bodies = some (cv160, cv161, cv162) := ch163
                      unfold f_X0_binds at ch163
                      unfold B_X0_binds_0 at ch163
                      have ch163 := zk_f (by decide) ch163
                      have ch163 := zk_t (Int32.le_refl _) ch163
                      obtain ⟨cv164, cv165, ch166, ch163⟩ := zk_o2 ch163
                      unfold f_X0_note at ch166
                      unfold B_X0_note_0 at ch166
                      have ch166 := zk_f (by decide) ch166
                      obtain ⟨_, ch166⟩ := zk_gd ch166
                      obtain ⟨cv167, ce168, ch166⟩ := zk_lt ch166
                      subst ce168
                      unfold B_X0_note_19 at ch166
                      obtain ⟨cv169, ce170, ch166⟩ := zk_lt ch166
                      subst ce170
                      simp only [Option.some.injEq, Prod.mk.injEq] at ch166
                      obtain ⟨rfl, rfl⟩ := ch166
                      simp only [Option.some.injEq, Prod.mk.injEq] at ch163
                      obtain ⟨rfl, rfl, rfl⟩ := ch163
                      simp only [Option.some.injEq, Prod.mk.injEq] at ch156
                      obtain ⟨rfl, rfl, rfl⟩ := ch156
                      simp only [Option.some.injEq, Prod.mk.injEq] at ch149
                      obtain ⟨rfl, rfl, rfl⟩ := ch149
                      have hi : x1.toNatClampNeg < court_suitCount.toInt.toNat := by rw [tcn]; omega
                      have ea : mod_askedMany x1.toNatClampNeg = S_askedCount x1.toNatClampNeg := (hA _ hi).symm
                      unfold B_X12_act_0 at k
                      replace k := zk_o2 k
                      obtain ⟨mv142, mv143, mh144, k⟩ := k
                      unfold f_X12_isSuit at mh144
                      unfold B_X12_isSuit_0 at mh144
                      obtain ⟨mv145, mv146, mh147, mh144⟩ := zk_o2 mh144
                      unfold f_X12_in at mh147
                      unfold B_X12_in_0 at mh147
                      have mh147 := zk_f cc4 mh147
                      have mh147 := zk_f (by (try simp only [i32_lt, i32_le, i32_e, z32_0, z32_1]); omega) mh147
                      simp only [Option.some.injEq, Prod.mk.injEq] at mh147
                      obtain ⟨rfl, _⟩ := mh147
                      obtain ⟨_, mh144⟩ := zk_gd mh144
                      simp only [Option.some.injEq, Prod.mk.injEq] at mh144
                      obtain ⟨rfl, _⟩ := mh144
                      replace k := zk_f (by decide) k
                      replace k := zk_o2 k
                      obtain ⟨mv148, mv149, mh150, k⟩ := k
                      unfold f_X12_in at mh150
                      unfold B_X12_in_0 at mh150
                      have mh150 := zk_f (by (try simp only [i32_lt, i32_le, i32_e, z32_0, z32_1]); omega) mh150
                      have mh150 := zk_f (by (try simp only [i32_lt, i32_le, i32_e, z32_0, z32_1, z32L_3]); omega) mh150
                      simp only [Option.some.injEq, Prod.mk.injEq] at mh150
                      obtain ⟨rfl, _⟩ := mh150
                      replace k := zk_f (by decide) k
                      replace k := zk_f cc15 k
                      replace k := zk_f cc48 k
                      replace k := zk_t cc145 k
                      replace k := zk_o3 k
                      obtain ⟨mv151, mv152, mv153, mh154, k⟩ := k
                      unfold f_X12_binds at mh154
                      unfold B_X12_binds_0 at mh154
                      obtain ⟨mv155, mv156, mh157, mh154⟩ := zk_o2 mh154
                      obtain mq158 := bk12_e (hB12 hi) mh157
                      replace mq158 := mq158.symm
                      subst mq158
                      obtain ⟨mv159, mv160, mh161, mh154⟩ := zk_o2 mh154
                      unfold f_X12_isUnder at mh161
                      unfold B_X12_isUnder_0 at mh161
                      have mh161 := zk_f (by decide) mh161
                      have mh161 := zk_f (by decide) mh161
                      have mh161 := zk_f (by decide) mh161
                      unfold B_X12_isUnder_19 at mh161
                      have mh161 := zk_t rfl mh161
                      have mh161 := zk_f (by decide) mh161
                      unfold B_X12_isUnder_29 at mh161
                      have mh161 := zk_f (by decide) mh161
                      simp only [Option.some.injEq, Prod.mk.injEq] at mh161
                      obtain ⟨rfl, _⟩ := mh161
                      have mh154 := zk_t rfl mh154
                      obtain ⟨mv162, mv163, mv164, mh165, mh154⟩ := zk_o3 mh154
                      unfold f_X12_plainBinds at mh165
                      unfold B_X12_plainBinds_0 at mh165
                      obtain ⟨mv166, mv167, mh168, mh165⟩ := zk_o2 mh165
                      unfold f_X12_ran at mh168
                      unfold B_X12_ran_0 at mh168
                      have mh168 := zk_f (by decide) mh168
                      obtain ⟨_, mh168⟩ := zk_gd mh168
                      obtain ⟨mv169, me170, mh168⟩ := zk_lt mh168
                      subst me170
                      unfold B_X12_ran_19 at mh168
                      obtain ⟨mv171, me172, mh168⟩ := zk_lt mh168
                      subst me172
                      simp only [Option.some.injEq, Prod.mk.injEq] at mh168
                      obtain ⟨rfl, rfl⟩ := mh168
                      simp only [Option.some.injEq, Prod.mk.injEq] at mh165
                      obtain ⟨rfl, rfl, rfl⟩ := mh165
                      simp only [Option.some.injEq, Prod.mk.injEq] at mh154
                      obtain ⟨rfl, rfl, rfl⟩ := mh154
                      replace h := Option.some.inj h
                      replace k := Option.some.inj k
                      subst h
                      subst k
                      try dsimp only
                      all_goals first
                      | (exfalso; omega)
                      | exact ⟨rfl, rfl, fun e => by first | exact e | rw [e]⟩
                      | exact ⟨rfl, rfl, fun e => by rw [e]; rfl⟩
                  · replace h := zk_f cc145 h
                    have cc145n := cc145
                    (try simp only [i32_lt, i32_le, i32_e, z32_0, z32_1, z32L_2] at cc145n)
                    first
                    | (exfalso; omega)
                    | by_cases cc171 : x2 = (3 : Int32)
                      · replace h := zk_t cc171 h
                        have cc171n := cc171
                        (try simp only [i32_lt, i32_le, i32_e, z32_0, z32_1, z32L_3] at cc171n)
                        first
                        | (exfalso; omega)
                        | obtain ⟨cv172, cv173, cv174, ch175, h⟩ := zk_o3 h
                          have ch175 : f_X0_tells (grp_grp141 6) (6 : Int32) x3 (0 : Int32) (6 : Int32) x1 (S_askedCount x1.toNatClampNeg) acts_bodies = some (cv172, cv173, cv174) := ch175
                          unfold f_X0_tells at ch175
                          unfold B_X0_tells_0 at ch175
                          have ch175 := zk_f (by decide) ch175
                          have ch175 := zk_f (by decide) ch175
                          obtain ⟨cv176, cv177, ch178, ch175⟩ := zk_o2 ch175
                          unfold f_X0_above at ch178
                          unfold B_X0_above_0 at ch178
                          have ch178 := zk_f (by decide) ch178
                          have ch178 := zk_f (by decide) ch178
                          have ch178 := zk_t rfl ch178
                          simp only [Option.some.injEq, Prod.mk.injEq] at ch178
                          obtain ⟨rfl, _⟩ := ch178
                          obtain ⟨cv179, cv180, cv181, ch182, ch175⟩ := zk_o3 ch175
                          have ch182 : f_X0_tells (grp_grp141 5) (1 : Int32) x3 (0 : Int32) (6 : Int32) x1 (S_askedCount x1.toNatClampNeg) acts_bodies = some (cv179, cv180, cv181) := ch182
                          unfold f_X0_tells at ch182
                          unfold B_X0_tells_0 at ch182
                          have ch182 := zk_f (by decide) ch182
                          have ch182 := zk_f (by decide) ch182
                          obtain ⟨cv183, cv184, ch185, ch182⟩ := zk_o2 ch182
                          unfold f_X0_above at ch185
                          unfold B_X0_above_0 at ch185
                          have ch185 := zk_f (by decide) ch185
                          have ch185 := zk_f (by decide) ch185
                          have ch185 := zk_f (by decide) ch185
                          simp only [Option.some.injEq, Prod.mk.injEq] at ch185
                          obtain ⟨rfl, _⟩ := ch185
                          obtain ⟨cv186, cv187, cv188, ch189, ch182⟩ := zk_o3 ch182
                          have ch189 : f_X0_tells (grp_grp141 4) (0 : Int32) x3 (0 : Int32) (6 : Int32) x1 (S_askedCount x1.toNatClampNeg) acts_bodies = some (cv186, cv187, cv188) := ch189
                          unfold f_X0_tells at ch189
                          unfold B_X0_tells_0 at ch189
                          have ch189 := zk_f (by decide) ch189
                          have ch189 := zk_t (Int32.le_refl _) ch189
                          obtain ⟨cv190, cv191, ch192, ch189⟩ := zk_o2 ch189
                          unfold f_X0_note at ch192
                          unfold B_X0_note_0 at ch192
                          have ch192 := zk_f (by decide) ch192
                          obtain ⟨_, ch192⟩ := zk_gd ch192
                          obtain ⟨cv193, ce194, ch192⟩ := zk_lt ch192
                          subst ce194
                          unfold B_X0_note_19 at ch192
                          obtain ⟨cv195, ce196, ch192⟩ := zk_lt ch192
                          subst ce196
                          simp only [Option.some.injEq, Prod.mk.injEq] at ch192
                          obtain ⟨rfl, rfl⟩ := ch192
                          obtain ⟨cv197, cv198, cv199, ch200, ch189⟩ := zk_o3 ch189
                          have ch200 : f_X0_settles (grp_grp140 6) (6 : Int32) x3 ((0 : Int32) + (1 : Int32)) (6 : Int32) x1 (S_askedCount x1.toNatClampNeg) (upd acts_bodies (0 : Int32).toNatClampNeg (2 : Int32)) = some (cv197, cv198, cv199) := ch200
                          unfold f_X0_settles at ch200
                          unfold B_X0_settles_0 at ch200
                          have ch200 := zk_f (by decide) ch200
                          have ch200 := zk_f (by decide) ch200
                          have ch200 := zk_f (by decide) ch200
                          have ch200 := zk_f (by decide) ch200
                          have ch200 := zk_f (by decide) ch200
                          have ch200 := zk_t rfl ch200
                          obtain ⟨cv201, cv202, ch203, ch200⟩ := zk_o2 ch200
                          unfold f_X0_note at ch203
                          unfold B_X0_note_0 at ch203
                          have ch203 := zk_f (by decide) ch203
                          obtain ⟨_, ch203⟩ := zk_gd ch203
                          obtain ⟨cv204, ce205, ch203⟩ := zk_lt ch203
                          subst ce205
                          unfold B_X0_note_19 at ch203
                          obtain ⟨cv206, ce207, ch203⟩ := zk_lt ch203
                          subst ce207
                          simp only [Option.some.injEq, Prod.mk.injEq] at ch203
                          obtain ⟨rfl, rfl⟩ := ch203
                          obtain ⟨cv208, cv209, ch210, ch200⟩ := zk_o2 ch200
                          unfold f_X0_above at ch210
                          unfold B_X0_above_0 at ch210
                          have ch210 := zk_f (by decide) ch210
                          have ch210 := zk_f (by decide) ch210
                          have ch210 := zk_t rfl ch210
                          simp only [Option.some.injEq, Prod.mk.injEq] at ch210
                          obtain ⟨rfl, _⟩ := ch210
                          obtain ⟨cv211, cv212, cv213, ch214, ch200⟩ := zk_o3 ch200
                          have ch214 : f_X0_settles (grp_grp140 5) (1 : Int32) x3 (((0 : Int32) + (1 : Int32)) + (1 : Int32)) (6 : Int32) x1 (S_askedCount x1.toNatClampNeg) (upd (upd acts_bodies (0 : Int32).toNatClampNeg (2 : Int32)) ((0 : Int32) + (1 : Int32)).toNatClampNeg (71 : Int32)) = some (cv211, cv212, cv213) := ch214
                          unfold f_X0_settles at ch214
                          unfold B_X0_settles_0 at ch214
                          have ch214 := zk_t rfl ch214
                          obtain ⟨cv215, cv216, ch217, ch214⟩ := zk_o2 ch214
                          unfold f_X0_note at ch217
                          unfold B_X0_note_0 at ch217
                          have ch217 := zk_f (by decide) ch217
                          obtain ⟨_, ch217⟩ := zk_gd ch217
                          obtain ⟨cv218, ce219, ch217⟩ := zk_lt ch217
                          subst ce219
                          unfold B_X0_note_19 at ch217
                          obtain ⟨cv220, ce221, ch217⟩ := zk_lt ch217
                          subst ce221
                          simp only [Option.some.injEq, Prod.mk.injEq] at ch217
                          obtain ⟨rfl, rfl⟩ := ch217
                          obtain ⟨cv222, cv223, ch224, ch214⟩ := zk_o2 ch214
                          unfold f_X0_above at ch224
                          unfold B_X0_above_0 at ch224
                          have ch224 := zk_f (by decide) ch224
                          have ch224 := zk_f (by decide) ch224
                          have ch224 := zk_f (by decide) ch224
                          simp only [Option.some.injEq, Prod.mk.injEq] at ch224
                          obtain ⟨rfl, _⟩ := ch224
                          obtain ⟨cv225, cv226, cv227, ch228, ch214⟩ := zk_o3 ch214
                          have ch228 : f_X0_settles (grp_grp140 4) (0 : Int32) x3 ((((0 : Int32) + (1 : Int32)) + (1 : Int32)) + (1 : Int32)) (6 : Int32) x1 (S_askedCount x1.toNatClampNeg) (upd (upd (upd acts_bodies (0 : Int32).toNatClampNeg (2 : Int32)) ((0 : Int32) + (1 : Int32)).toNatClampNeg (71 : Int32)) (((0 : Int32) + (1 : Int32)) + (1 : Int32)).toNatClampNeg (20 : Int32)) = some (cv225, cv226, cv227) := ch228
                          unfold f_X0_settles at ch228
                          unfold B_X0_settles_0 at ch228
                          have ch228 := zk_f (by decide) ch228
                          have ch228 := zk_f (by decide) ch228
                          have ch228 := zk_f (by decide) ch228
                          have ch228 := zk_f (by decide) ch228
                          have ch228 := zk_f (by decide) ch228
                          have ch228 := zk_f (by decide) ch228
                          obtain ⟨cv229, cv230, ch231, ch228⟩ := zk_o2 ch228
                          unfold f_X0_note at ch231
                          unfold B_X0_note_0 at ch231
                          have ch231 := zk_f (by decide) ch231
                          obtain ⟨_, ch231⟩ := zk_gd ch231
                          obtain ⟨cv232, ce233, ch231⟩ := zk_lt ch231
                          subst ce233
                          unfold B_X0_note_19 at ch231
                          obtain ⟨cv234, ce235, ch231⟩ := zk_lt ch231
                          subst ce235
                          simp only [Option.some.injEq, Prod.mk.injEq] at ch231
                          obtain ⟨rfl, rfl⟩ := ch231
                          obtain ⟨cv236, cv237, cv238, ch239, ch228⟩ := zk_o3 ch228
                          have ch239 : f_X0_closes (grp_grp138 6) (6 : Int32) x3 (((((0 : Int32) + (1 : Int32)) + (1 : Int32)) + (1 : Int32)) + (1 : Int32)) (6 : Int32) x1 (S_askedCount x1.toNatClampNeg) (upd (upd (upd (upd acts_bodies (0 : Int32).toNatClampNeg (2 : Int32)) ((0 : Int32) + (1 : Int32)).toNatClampNeg (71 : Int32)) (((0 : Int32) + (1 : Int32)) + (1 : Int32)).toNatClampNeg (20 : Int32)) ((((0 : Int32) + (1 : Int32)) + (1 : Int32)) + (1 : Int32)).toNatClampNeg (10 : Int32)) = some (cv236, cv237, cv238) := ch239
                          unfold f_X0_closes at ch239
                          unfold B_X0_closes_0 at ch239
                          have ch239 := zk_f (by decide) ch239
                          have ch239 := zk_f (by decide) ch239
                          have ch239 := zk_f (by decide) ch239
                          have ch239 := zk_f (by decide) ch239
                          have ch239 := zk_f (by decide) ch239
                          have ch239 := zk_t rfl ch239
                          obtain ⟨cv240, cv241, ch242, ch239⟩ := zk_o2 ch239
                          unfold f_X0_note at ch242
                          unfold B_X0_note_0 at ch242
                          have ch242 := zk_f (by decide) ch242
                          obtain ⟨_, ch242⟩ := zk_gd ch242
                          obtain ⟨cv243, ce244, ch242⟩ := zk_lt ch242
                          subst ce244
                          unfold B_X0_note_19 at ch242
                          obtain ⟨cv245, ce246, ch242⟩ := zk_lt ch242
                          subst ce246
                          simp only [Option.some.injEq, Prod.mk.injEq] at ch242
                          obtain ⟨rfl, rfl⟩ := ch242
                          obtain ⟨cv247, cv248, ch249, ch239⟩ := zk_o2 ch239
                          unfold f_X0_above at ch249
                          unfold B_X0_above_0 at ch249
                          have ch249 := zk_f (by decide) ch249
                          have ch249 := zk_f (by decide) ch249
                          have ch249 := zk_t rfl ch249
                          simp only [Option.some.injEq, Prod.mk.injEq] at ch249
                          obtain ⟨rfl, _⟩ := ch249
                          obtain ⟨cv250, cv251, cv252, ch253, ch239⟩ := zk_o3 ch239
                          have ch253 : f_X0_closes (grp_grp138 5) (1 : Int32) x3 ((((((0 : Int32) + (1 : Int32)) + (1 : Int32)) + (1 : Int32)) + (1 : Int32)) + (1 : Int32)) (6 : Int32) x1 (S_askedCount x1.toNatClampNeg) (upd (upd (upd (upd (upd acts_bodies (0 : Int32).toNatClampNeg (2 : Int32)) ((0 : Int32) + (1 : Int32)).toNatClampNeg (71 : Int32)) (((0 : Int32) + (1 : Int32)) + (1 : Int32)).toNatClampNeg (20 : Int32)) ((((0 : Int32) + (1 : Int32)) + (1 : Int32)) + (1 : Int32)).toNatClampNeg (10 : Int32)) (((((0 : Int32) + (1 : Int32)) + (1 : Int32)) + (1 : Int32)) + (1 : Int32)).toNatClampNeg (70 : Int32)) = some (cv250, cv251, cv252) := ch253
                          unfold f_X0_closes at ch253
                          unfold B_X0_closes_0 at ch253
                          have ch253 := zk_t rfl ch253
                          obtain ⟨cv254, cv255, ch256, ch253⟩ := zk_o2 ch253
                          unfold f_X0_above at ch256
                          unfold B_X0_above_0 at ch256
                          have ch256 := zk_f (by decide) ch256
                          have ch256 := zk_f (by decide) ch256
                          have ch256 := zk_f (by decide) ch256
                          simp only [Option.some.injEq, Prod.mk.injEq] at ch256
                          obtain ⟨rfl, _⟩ := ch256
                          obtain ⟨cv257, cv258, cv259, ch260, ch253⟩ := zk_o3 ch253
                          have ch260 : f_X0_closes (grp_grp138 4) (0 : Int32) x3 ((((((0 : Int32) + (1 : Int32)) + (1 : Int32)) + (1 : Int32)) + (1 : Int32)) + (1 : Int32)) (6 : Int32) x1 (S_askedCount x1.toNatClampNeg) (upd (upd (upd (upd (upd acts_bodies (0 : Int32).toNatClampNeg (2 : Int32)) ((0 : Int32) + (1 : Int32)).toNatClampNeg (71 : Int32)) (((0 : Int32) + (1 : Int32)) + (1 : Int32)).toNatClampNeg (20 : Int32)) ((((0 : Int32) + (1 : Int32)) + (1 : Int32)) + (1 : Int32)).toNatClampNeg (10 : Int32)) (((((0 : Int32) + (1 : Int32)) + (1 : Int32)) + (1 : Int32)) + (1 : Int32)).toNatClampNeg (70 : Int32)) = some (cv257, cv258, cv259) := ch260
                          unfold f_X0_closes at ch260
                          unfold B_X0_closes_0 at ch260
                          have ch260 := zk_f (by decide) ch260
                          have ch260 := zk_f (by decide) ch260
                          have ch260 := zk_f (by decide) ch260
                          have ch260 := zk_f (by decide) ch260
                          have ch260 := zk_f (by decide) ch260
                          have ch260 := zk_f (by decide) ch260
                          obtain ⟨cv261, cv262, ch263, ch260⟩ := zk_o2 ch260
                          unfold f_X0_note at ch263
                          unfold B_X0_note_0 at ch263
                          have ch263 := zk_f (by decide) ch263
                          obtain ⟨_, ch263⟩ := zk_gd ch263
                          obtain ⟨cv264, ce265, ch263⟩ := zk_lt ch263
                          subst ce265
                          unfold B_X0_note_19 at ch263
                          obtain ⟨cv266, ce267, ch263⟩ := zk_lt ch263
                          subst ce267
                          simp only [Option.some.injEq, Prod.mk.injEq] at ch263
                          obtain ⟨rfl, rfl⟩ := ch263
                          simp only [Option.some.injEq, Prod.mk.injEq] at ch260
                          obtain ⟨rfl, rfl, rfl⟩ := ch260
                          simp only [Option.some.injEq, Prod.mk.injEq] at ch253
                          obtain ⟨rfl, rfl, rfl⟩ := ch253
                          simp only [Option.some.injEq, Prod.mk.injEq] at ch239
                          obtain ⟨rfl, rfl, rfl⟩ := ch239
                          simp only [Option.some.injEq, Prod.mk.injEq] at ch228
                          obtain ⟨rfl, rfl, rfl⟩ := ch228
                          simp only [Option.some.injEq, Prod.mk.injEq] at ch214
                          obtain ⟨rfl, rfl, rfl⟩ := ch214
                          obtain ⟨cv268, cv269, cv270, ch271, ch200⟩ := zk_o3 ch200
                          have ch271 : f_X0_binds (grp_grp139 6) (6 : Int32) (2 : Int32) (((((((0 : Int32) + (1 : Int32)) + (1 : Int32)) + (1 : Int32)) + (1 : Int32)) + (1 : Int32)) + (1 : Int32)) (6 : Int32) x1 (S_askedCount x1.toNatClampNeg) (upd (upd (upd (upd (upd (upd acts_bodies (0 : Int32).toNatClampNeg (2 : Int32)) ((0 : Int32) + (1 : Int32)).toNatClampNeg (71 : Int32)) (((0 : Int32) + (1 : Int32)) + (1 : Int32)).toNatClampNeg (20 : Int32)) ((((0 : Int32) + (1 : Int32)) + (1 : Int32)) + (1 : Int32)).toNatClampNeg (10 : Int32)) (((((0 : Int32) + (1 : Int32)) + (1 : Int32)) + (1 : Int32)) + (1 : Int32)).toNatClampNeg (70 : Int32)) ((((((0 : Int32) + (1 : Int32)) + (1 : Int32)) + (1 : Int32)) + (1 : Int32)) + (1 : Int32)).toNatClampNeg (1 : Int32)) = some (cv268, cv269, cv270) := ch271
                          unfold f_X0_binds at ch271
                          unfold B_X0_binds_0 at ch271
                          have ch271 := zk_f (by decide) ch271
                          have ch271 := zk_f (by decide) ch271
                          obtain ⟨cv272, cv273, ch274, ch271⟩ := zk_o2 ch271
                          unfold f_X0_above at ch274
                          unfold B_X0_above_0 at ch274
                          have ch274 := zk_f (by decide) ch274
                          have ch274 := zk_f (by decide) ch274
                          have ch274 := zk_t rfl ch274
                          simp only [Option.some.injEq, Prod.mk.injEq] at ch274
                          obtain ⟨rfl, _⟩ := ch274
                          obtain ⟨cv275, cv276, cv277, ch278, ch271⟩ := zk_o3 ch271
                          have ch278 : f_X0_binds (grp_grp139 5) (1 : Int32) (2 : Int32) (((((((0 : Int32) + (1 : Int32)) + (1 : Int32)) + (1 : Int32)) + (1 : Int32)) + (1 : Int32)) + (1 : Int32)) (6 : Int32) x1 (S_askedCount x1.toNatClampNeg) (upd (upd (upd (upd (upd (upd acts_bodies (0 : Int32).toNatClampNeg (2 : Int32)) ((0 : Int32) + (1 : Int32)).toNatClampNeg (71 : Int32)) (((0 : Int32) + (1 : Int32)) + (1 : Int32)).toNatClampNeg (20 : Int32)) ((((0 : Int32) + (1 : Int32)) + (1 : Int32)) + (1 : Int32)).toNatClampNeg (10 : Int32)) (((((0 : Int32) + (1 : Int32)) + (1 : Int32)) + (1 : Int32)) + (1 : Int32)).toNatClampNeg (70 : Int32)) ((((((0 : Int32) + (1 : Int32)) + (1 : Int32)) + (1 : Int32)) + (1 : Int32)) + (1 : Int32)).toNatClampNeg (1 : Int32)) = some (cv275, cv276, cv277) := ch278
                          unfold f_X0_binds at ch278
                          unfold B_X0_binds_0 at ch278
                          have ch278 := zk_f (by decide) ch278
                          have ch278 := zk_f (by decide) ch278
                          obtain ⟨cv279, cv280, ch281, ch278⟩ := zk_o2 ch278
                          unfold f_X0_above at ch281
                          unfold B_X0_above_0 at ch281
                          have ch281 := zk_f (by decide) ch281
                          have ch281 := zk_f (by decide) ch281
                          have ch281 := zk_f (by decide) ch281
                          simp only [Option.some.injEq, Prod.mk.injEq] at ch281
                          obtain ⟨rfl, _⟩ := ch281
                          obtain ⟨cv282, cv283, cv284, ch285, ch278⟩ := zk_o3 ch278
                          have ch285 : f_X0_binds (grp_grp139 4) (0 : Int32) (2 : Int32) (((((((0 : Int32) + (1 : Int32)) + (1 : Int32)) + (1 : Int32)) + (1 : Int32)) + (1 : Int32)) + (1 : Int32)) (6 : Int32) x1 (S_askedCount x1.toNatClampNeg) (upd (upd (upd (upd (upd (upd acts_bodies (0 : Int32).toNatClampNeg (2 : Int32)) ((0 : Int32) + (1 : Int32)).toNatClampNeg (71 : Int32)) (((0 : Int32) + (1 : Int32)) + (1 : Int32)).toNatClampNeg (20 : Int32)) ((((0 : Int32) + (1 : Int32)) + (1 : Int32)) + (1 : Int32)).toNatClampNeg (10 : Int32)) (((((0 : Int32) + (1 : Int32)) + (1 : Int32)) + (1 : Int32)) + (1 : Int32)).toNatClampNeg (70 : Int32)) ((((((0 : Int32) + (1 : Int32)) + (1 : Int32)) + (1 : Int32)) + (1 : Int32)) + (1 : Int32)).toNatClampNeg (1 : Int32)) = some (cv282, cv283, cv284) := ch285
                          unfold f_X0_binds at ch285
                          unfold B_X0_binds_0 at ch285
                          have ch285 := zk_f (by decide) ch285
                          have ch285 := zk_t (Int32.le_refl _) ch285
                          obtain ⟨cv286, cv287, ch288, ch285⟩ := zk_o2 ch285
                          unfold f_X0_note at ch288
                          unfold B_X0_note_0 at ch288
                          have ch288 := zk_f (by decide) ch288
                          obtain ⟨_, ch288⟩ := zk_gd ch288
                          obtain ⟨cv289, ce290, ch288⟩ := zk_lt ch288
                          subst ce290
                          unfold B_X0_note_19 at ch288
                          obtain ⟨cv291, ce292, ch288⟩ := zk_lt ch288
                          subst ce292
                          simp only [Option.some.injEq, Prod.mk.injEq] at ch288
                          obtain ⟨rfl, rfl⟩ := ch288
                          simp only [Option.some.injEq, Prod.mk.injEq] at ch285
                          obtain ⟨rfl, rfl, rfl⟩ := ch285
                          simp only [Option.some.injEq, Prod.mk.injEq] at ch278
                          obtain ⟨rfl, rfl, rfl⟩ := ch278
                          simp only [Option.some.injEq, Prod.mk.injEq] at ch271
                          obtain ⟨rfl, rfl, rfl⟩ := ch271
                          simp only [Option.some.injEq, Prod.mk.injEq] at ch200
                          obtain ⟨rfl, rfl, rfl⟩ := ch200
                          obtain ⟨cv293, cv294, cv295, ch296, ch189⟩ := zk_o3 ch189
                          have ch296 : f_X0_binds (grp_grp139 6) (6 : Int32) (1 : Int32) ((((((((0 : Int32) + (1 : Int32)) + (1 : Int32)) + (1 : Int32)) + (1 : Int32)) + (1 : Int32)) + (1 : Int32)) + (1 : Int32)) (6 : Int32) x1 (S_askedCount x1.toNatClampNeg) (upd (upd (upd (upd (upd (upd (upd acts_bodies (0 : Int32).toNatClampNeg (2 : Int32)) ((0 : Int32) + (1 : Int32)).toNatClampNeg (71 : Int32)) (((0 : Int32) + (1 : Int32)) + (1 : Int32)).toNatClampNeg (20 : Int32)) ((((0 : Int32) + (1 : Int32)) + (1 : Int32)) + (1 : Int32)).toNatClampNeg (10 : Int32)) (((((0 : Int32) + (1 : Int32)) + (1 : Int32)) + (1 : Int32)) + (1 : Int32)).toNatClampNeg (70 : Int32)) ((((((0 : Int32) + (1 : Int32)) + (1 : Int32)) + (1 : Int32)) + (1 : Int32)) + (1 : Int32)).toNatClampNeg (1 : Int32)) (((((((0 : Int32) + (1 : Int32)) + (1 : Int32)) + (1 : Int32)) + (1 : Int32)) + (1 : Int32)) + (1 : Int32)).toNatClampNeg (11 : Int32)) = some (cv293, cv294, cv295) := ch296
                          unfold f_X0_binds at ch296
                          unfold B_X0_binds_0 at ch296
                          have ch296 := zk_f (by decide) ch296
                          have ch296 := zk_f (by decide) ch296
                          obtain ⟨cv297, cv298, ch299, ch296⟩ := zk_o2 ch296
                          unfold f_X0_above at ch299
                          unfold B_X0_above_0 at ch299
                          have ch299 := zk_f (by decide) ch299
                          have ch299 := zk_f (by decide) ch299
                          have ch299 := zk_t rfl ch299
                          simp only [Option.some.injEq, Prod.mk.injEq] at ch299
                          obtain ⟨rfl, _⟩ := ch299
                          obtain ⟨cv300, cv301, cv302, ch303, ch296⟩ := zk_o3 ch296
                          have ch303 : f_X0_binds (grp_grp139 5) (1 : Int32) (1 : Int32) ((((((((0 : Int32) + (1 : Int32)) + (1 : Int32)) + (1 : Int32)) + (1 : Int32)) + (1 : Int32)) + (1 : Int32)) + (1 : Int32)) (6 : Int32) x1 (S_askedCount x1.toNatClampNeg) (upd (upd (upd (upd (upd (upd (upd acts_bodies (0 : Int32).toNatClampNeg (2 : Int32)) ((0 : Int32) + (1 : Int32)).toNatClampNeg (71 : Int32)) (((0 : Int32) + (1 : Int32)) + (1 : Int32)).toNatClampNeg (20 : Int32)) ((((0 : Int32) + (1 : Int32)) + (1 : Int32)) + (1 : Int32)).toNatClampNeg (10 : Int32)) (((((0 : Int32) + (1 : Int32)) + (1 : Int32)) + (1 : Int32)) + (1 : Int32)).toNatClampNeg (70 : Int32)) ((((((0 : Int32) + (1 : Int32)) + (1 : Int32)) + (1 : Int32)) + (1 : Int32)) + (1 : Int32)).toNatClampNeg (1 : Int32)) (((((((0 : Int32) + (1 : Int32)) + (1 : Int32)) + (1 : Int32)) + (1 : Int32)) + (1 : Int32)) + (1 : Int32)).toNatClampNeg (11 : Int32)) = some (cv300, cv301, cv302) := ch303
                          unfold f_X0_binds at ch303
                          unfold B_X0_binds_0 at ch303
                          have ch303 := zk_f (by decide) ch303
                          have ch303 := zk_f (by decide) ch303
                          obtain ⟨cv304, cv305, ch306, ch303⟩ := zk_o2 ch303
                          unfold f_X0_above at ch306
                          unfold B_X0_above_0 at ch306
                          have ch306 := zk_f (by decide) ch306
                          have ch306 := zk_f (by decide) ch306
                          have ch306 := zk_f (by decide) ch306
                          simp only [Option.some.injEq, Prod.mk.injEq] at ch306
                          obtain ⟨rfl, _⟩ := ch306
                          obtain ⟨cv307, cv308, cv309, ch310, ch303⟩ := zk_o3 ch303
                          have ch310 : f_X0_binds (grp_grp139 4) (0 : Int32) (1 : Int32) ((((((((0 : Int32) + (1 : Int32)) + (1 : Int32)) + (1 : Int32)) + (1 : Int32)) + (1 : Int32)) + (1 : Int32)) + (1 : Int32)) (6 : Int32) x1 (S_askedCount x1.toNatClampNeg) (upd (upd (upd (upd (upd (upd (upd acts_bodies (0 : Int32).toNatClampNeg (2 : Int32)) ((0 : Int32) + (1 : Int32)).toNatClampNeg (71 : Int32)) (((0 : Int32) + (1 : Int32)) + (1 : Int32)).toNatClampNeg (20 : Int32)) ((((0 : Int32) + (1 : Int32)) + (1 : Int32)) + (1 : Int32)).toNatClampNeg (10 : Int32)) (((((0 : Int32) + (1 : Int32)) + (1 : Int32)) + (1 : Int32)) + (1 : Int32)).toNatClampNeg (70 : Int32)) ((((((0 : Int32) + (1 : Int32)) + (1 : Int32)) + (1 : Int32)) + (1 : Int32)) + (1 : Int32)).toNatClampNeg (1 : Int32)) (((((((0 : Int32) + (1 : Int32)) + (1 : Int32)) + (1 : Int32)) + (1 : Int32)) + (1 : Int32)) + (1 : Int32)).toNatClampNeg (11 : Int32)) = some (cv307, cv308, cv309) := ch310
                          unfold f_X0_binds at ch310
                          unfold B_X0_binds_0 at ch310
                          have ch310 := zk_f (by decide) ch310
                          have ch310 := zk_t (Int32.le_refl _) ch310
                          obtain ⟨cv311, cv312, ch313, ch310⟩ := zk_o2 ch310
                          unfold f_X0_note at ch313
                          unfold B_X0_note_0 at ch313
                          have ch313 := zk_f (by decide) ch313
                          obtain ⟨_, ch313⟩ := zk_gd ch313
                          obtain ⟨cv314, ce315, ch313⟩ := zk_lt ch313
                          subst ce315
                          unfold B_X0_note_19 at ch313
                          obtain ⟨cv316, ce317, ch313⟩ := zk_lt ch313
                          subst ce317
                          simp only [Option.some.injEq, Prod.mk.injEq] at ch313
                          obtain ⟨rfl, rfl⟩ := ch313
                          simp only [Option.some.injEq, Prod.mk.injEq] at ch310
                          obtain ⟨rfl, rfl, rfl⟩ := ch310
                          simp only [Option.some.injEq, Prod.mk.injEq] at ch303
                          obtain ⟨rfl, rfl, rfl⟩ := ch303
                          simp only [Option.some.injEq, Prod.mk.injEq] at ch296
                          obtain ⟨rfl, rfl, rfl⟩ := ch296
                          simp only [Option.some.injEq, Prod.mk.injEq] at ch189
                          obtain ⟨rfl, rfl, rfl⟩ := ch189
                          simp only [Option.some.injEq, Prod.mk.injEq] at ch182
                          obtain ⟨rfl, rfl, rfl⟩ := ch182
                          simp only [Option.some.injEq, Prod.mk.injEq] at ch175
                          obtain ⟨rfl, rfl, rfl⟩ := ch175
                          have hi : x1.toNatClampNeg < court_suitCount.toInt.toNat := by rw [tcn]; omega
                          have ea : mod_askedMany x1.toNatClampNeg = S_askedCount x1.toNatClampNeg := (hA _ hi).symm
                          unfold B_X12_act_0 at k
                          replace k := zk_o2 k
                          obtain ⟨mv173, mv174, mh175, k⟩ := k
                          unfold f_X12_isSuit at mh175
                          unfold B_X12_isSuit_0 at mh175
                          obtain ⟨mv176, mv177, mh178, mh175⟩ := zk_o2 mh175
                          unfold f_X12_in at mh178
                          unfold B_X12_in_0 at mh178
                          have mh178 := zk_f cc4 mh178
                          have mh178 := zk_f (by (try simp only [i32_lt, i32_le, i32_e, z32_0, z32_1]); omega) mh178
                          simp only [Option.some.injEq, Prod.mk.injEq] at mh178
                          obtain ⟨rfl, _⟩ := mh178
                          obtain ⟨_, mh175⟩ := zk_gd mh175
                          simp only [Option.some.injEq, Prod.mk.injEq] at mh175
                          obtain ⟨rfl, _⟩ := mh175
                          replace k := zk_f (by decide) k
                          replace k := zk_o2 k
                          obtain ⟨mv179, mv180, mh181, k⟩ := k
                          unfold f_X12_in at mh181
                          unfold B_X12_in_0 at mh181
                          have mh181 := zk_f (by (try simp only [i32_lt, i32_le, i32_e, z32_0, z32_1]); omega) mh181
                          have mh181 := zk_f (by (try simp only [i32_lt, i32_le, i32_e, z32_0, z32_1, z32L_3]); omega) mh181
                          simp only [Option.some.injEq, Prod.mk.injEq] at mh181
                          obtain ⟨rfl, _⟩ := mh181
                          replace k := zk_f (by decide) k
                          replace k := zk_f cc15 k
                          replace k := zk_f cc48 k
                          replace k := zk_f cc145 k
                          replace k := zk_o3 k
                          obtain ⟨mv182, mv183, mv184, mh185, k⟩ := k
                          unfold f_X12_tells at mh185
                          unfold B_X12_tells_0 at mh185
                          obtain ⟨mv186, mv187, mh188, mh185⟩ := zk_o2 mh185
                          obtain mq189 := bk12_e (hB12 hi) mh188
                          replace mq189 := mq189.symm
                          subst mq189
                          have mh185 := zk_f (by decide) mh185
                          obtain ⟨mv190, mv191, mv192, mh193, mh185⟩ := zk_o3 mh185
                          unfold f_X12_plainTells at mh193
                          unfold B_X12_plainTells_0 at mh193
                          obtain ⟨mv194, mv195, mh196, mh193⟩ := zk_o2 mh193
                          unfold f_X12_ran at mh196
                          unfold B_X12_ran_0 at mh196
                          have mh196 := zk_f (by decide) mh196
                          obtain ⟨_, mh196⟩ := zk_gd mh196
                          obtain ⟨mv197, me198, mh196⟩ := zk_lt mh196
                          subst me198
                          unfold B_X12_ran_19 at mh196
                          obtain ⟨mv199, me200, mh196⟩ := zk_lt mh196
                          subst me200
                          simp only [Option.some.injEq, Prod.mk.injEq] at mh196
                          obtain ⟨rfl, rfl⟩ := mh196
                          obtain ⟨mv201, mv202, mv203, mh204, mh193⟩ := zk_o3 mh193
                          unfold f_X12_settles at mh204
                          unfold B_X12_settles_0 at mh204
                          obtain ⟨mv205, mv206, mh207, mh204⟩ := zk_o2 mh204
                          obtain mq208 := bk12_e (hB12 hi) mh207
                          replace mq208 := mq208.symm
                          subst mq208
                          have mh204 := zk_f (by decide) mh204
                          have mh204 := zk_t rfl mh204
                          obtain ⟨mv209, mv210, mh211, mh204⟩ := zk_o2 mh204
                          unfold f_X12_ran at mh211
                          unfold B_X12_ran_0 at mh211
                          have mh211 := zk_f (by decide) mh211
                          obtain ⟨_, mh211⟩ := zk_gd mh211
                          obtain ⟨mv212, me213, mh211⟩ := zk_lt mh211
                          subst me213
                          unfold B_X12_ran_19 at mh211
                          obtain ⟨mv214, me215, mh211⟩ := zk_lt mh211
                          subst me215
                          simp only [Option.some.injEq, Prod.mk.injEq] at mh211
                          obtain ⟨rfl, rfl⟩ := mh211
                          obtain ⟨mv216, mv217, mv218, mh219, mh204⟩ := zk_o3 mh204
                          unfold f_X12_meritsSettles at mh219
                          unfold B_X12_meritsSettles_0 at mh219
                          rw [ea] at mh219
                          obtain ⟨mv220, mv221, mh222, mh219⟩ := zk_o2 mh219
                          unfold f_X12_ran at mh222
                          unfold B_X12_ran_0 at mh222
                          have mh222 := zk_f (by decide) mh222
                          obtain ⟨_, mh222⟩ := zk_gd mh222
                          obtain ⟨mv223, me224, mh222⟩ := zk_lt mh222
                          subst me224
                          unfold B_X12_ran_19 at mh222
                          obtain ⟨mv225, me226, mh222⟩ := zk_lt mh222
                          subst me226
                          simp only [Option.some.injEq, Prod.mk.injEq] at mh222
                          obtain ⟨rfl, rfl⟩ := mh222
                          obtain ⟨mv227, mv228, mv229, mh230, mh219⟩ := zk_o3 mh219
                          unfold f_X12_plainSettles at mh230
                          unfold B_X12_plainSettles_0 at mh230
                          obtain ⟨mv231, mv232, mh233, mh230⟩ := zk_o2 mh230
                          unfold f_X12_ran at mh233
                          unfold B_X12_ran_0 at mh233
                          have mh233 := zk_f (by decide) mh233
                          obtain ⟨_, mh233⟩ := zk_gd mh233
                          obtain ⟨mv234, me235, mh233⟩ := zk_lt mh233
                          subst me235
                          unfold B_X12_ran_19 at mh233
                          obtain ⟨mv236, me237, mh233⟩ := zk_lt mh233
                          subst me237
                          simp only [Option.some.injEq, Prod.mk.injEq] at mh233
                          obtain ⟨rfl, rfl⟩ := mh233
                          obtain ⟨mv238, mv239, mv240, mh241, mh230⟩ := zk_o3 mh230
                          unfold f_X12_closes at mh241
                          unfold B_X12_closes_0 at mh241
                          rw [ea] at mh241
                          obtain ⟨mv242, mv243, mh244, mh241⟩ := zk_o2 mh241
                          obtain mq245 := bk12_e (hB12 hi) mh244
                          replace mq245 := mq245.symm
                          subst mq245
                          have mh241 := zk_f (by decide) mh241
                          have mh241 := zk_f (by decide) mh241
                          have mh241 := zk_f (by decide) mh241
                          have mh241 := zk_t rfl mh241
                          obtain ⟨mv246, mv247, mh248, mh241⟩ := zk_o2 mh241
                          unfold f_X12_ran at mh248
                          unfold B_X12_ran_0 at mh248
                          have mh248 := zk_f (by decide) mh248
                          obtain ⟨_, mh248⟩ := zk_gd mh248
                          obtain ⟨mv249, me250, mh248⟩ := zk_lt mh248
                          subst me250
                          unfold B_X12_ran_19 at mh248
                          obtain ⟨mv251, me252, mh248⟩ := zk_lt mh248
                          subst me252
                          simp only [Option.some.injEq, Prod.mk.injEq] at mh248
                          obtain ⟨rfl, rfl⟩ := mh248
                          obtain ⟨mv253, mv254, mv255, mh256, mh241⟩ := zk_o3 mh241
                          unfold f_X12_plainCloses at mh256
                          unfold B_X12_plainCloses_0 at mh256
                          obtain ⟨mv257, mv258, mh259, mh256⟩ := zk_o2 mh256
                          unfold f_X12_ran at mh259
                          unfold B_X12_ran_0 at mh259
                          have mh259 := zk_f (by decide) mh259
                          obtain ⟨_, mh259⟩ := zk_gd mh259
                          obtain ⟨mv260, me261, mh259⟩ := zk_lt mh259
                          subst me261
                          unfold B_X12_ran_19 at mh259
                          obtain ⟨mv262, me263, mh259⟩ := zk_lt mh259
                          subst me263
                          simp only [Option.some.injEq, Prod.mk.injEq] at mh259
                          obtain ⟨rfl, rfl⟩ := mh259
                          simp only [Option.some.injEq, Prod.mk.injEq] at mh256
                          obtain ⟨rfl, rfl, rfl⟩ := mh256
                          obtain ⟨_, mh241⟩ := zk_gd mh241
                          simp only [Option.some.injEq, Prod.mk.injEq] at mh241
                          obtain ⟨rfl, rfl, rfl⟩ := mh241
                          simp only [Option.some.injEq, Prod.mk.injEq] at mh230
                          obtain ⟨rfl, rfl, rfl⟩ := mh230
                          obtain ⟨_, mh219⟩ := zk_gd mh219
                          simp only [Option.some.injEq, Prod.mk.injEq] at mh219
                          obtain ⟨rfl, rfl, rfl⟩ := mh219
                          obtain ⟨mv264, mv265, mv266, mh267, mh204⟩ := zk_o3 mh204
                          unfold f_X12_binds at mh267
                          unfold B_X12_binds_0 at mh267
                          obtain ⟨mv268, mv269, mh270, mh267⟩ := zk_o2 mh267
                          obtain mq271 := bk12_e (hB12 hi) mh270
                          replace mq271 := mq271.symm
                          subst mq271
                          obtain ⟨mv272, mv273, mh274, mh267⟩ := zk_o2 mh267
                          unfold f_X12_isUnder at mh274
                          unfold B_X12_isUnder_0 at mh274
                          have mh274 := zk_f (by decide) mh274
                          have mh274 := zk_f (by decide) mh274
                          have mh274 := zk_f (by decide) mh274
                          unfold B_X12_isUnder_19 at mh274
                          have mh274 := zk_t rfl mh274
                          have mh274 := zk_f (by decide) mh274
                          unfold B_X12_isUnder_29 at mh274
                          have mh274 := zk_f (by decide) mh274
                          simp only [Option.some.injEq, Prod.mk.injEq] at mh274
                          obtain ⟨rfl, _⟩ := mh274
                          have mh267 := zk_t rfl mh267
                          obtain ⟨mv275, mv276, mv277, mh278, mh267⟩ := zk_o3 mh267
                          unfold f_X12_plainBinds at mh278
                          unfold B_X12_plainBinds_0 at mh278
                          obtain ⟨mv279, mv280, mh281, mh278⟩ := zk_o2 mh278
                          unfold f_X12_ran at mh281
                          unfold B_X12_ran_0 at mh281
                          have mh281 := zk_f (by decide) mh281
                          obtain ⟨_, mh281⟩ := zk_gd mh281
                          obtain ⟨mv282, me283, mh281⟩ := zk_lt mh281
                          subst me283
                          unfold B_X12_ran_19 at mh281
                          obtain ⟨mv284, me285, mh281⟩ := zk_lt mh281
                          subst me285
                          simp only [Option.some.injEq, Prod.mk.injEq] at mh281
                          obtain ⟨rfl, rfl⟩ := mh281
                          simp only [Option.some.injEq, Prod.mk.injEq] at mh278
                          obtain ⟨rfl, rfl, rfl⟩ := mh278
                          simp only [Option.some.injEq, Prod.mk.injEq] at mh267
                          obtain ⟨rfl, rfl, rfl⟩ := mh267
                          simp only [Option.some.injEq, Prod.mk.injEq] at mh204
                          obtain ⟨rfl, rfl, rfl⟩ := mh204
                          obtain ⟨mv286, mv287, mv288, mh289, mh193⟩ := zk_o3 mh193
                          unfold f_X12_binds at mh289
                          unfold B_X12_binds_0 at mh289
                          obtain ⟨mv290, mv291, mh292, mh289⟩ := zk_o2 mh289
                          obtain mq293 := bk12_e (hB12 hi) mh292
                          replace mq293 := mq293.symm
                          subst mq293
                          obtain ⟨mv294, mv295, mh296, mh289⟩ := zk_o2 mh289
                          unfold f_X12_isUnder at mh296
                          unfold B_X12_isUnder_0 at mh296
                          have mh296 := zk_f (by decide) mh296
                          have mh296 := zk_f (by decide) mh296
                          have mh296 := zk_f (by decide) mh296
                          unfold B_X12_isUnder_19 at mh296
                          have mh296 := zk_t rfl mh296
                          have mh296 := zk_f (by decide) mh296
                          unfold B_X12_isUnder_29 at mh296
                          have mh296 := zk_f (by decide) mh296
                          simp only [Option.some.injEq, Prod.mk.injEq] at mh296
                          obtain ⟨rfl, _⟩ := mh296
                          have mh289 := zk_t rfl mh289
                          obtain ⟨mv297, mv298, mv299, mh300, mh289⟩ := zk_o3 mh289
                          unfold f_X12_plainBinds at mh300
                          unfold B_X12_plainBinds_0 at mh300
                          obtain ⟨mv301, mv302, mh303, mh300⟩ := zk_o2 mh300
                          unfold f_X12_ran at mh303
                          unfold B_X12_ran_0 at mh303
                          have mh303 := zk_f (by decide) mh303
                          obtain ⟨_, mh303⟩ := zk_gd mh303
                          obtain ⟨mv304, me305, mh303⟩ := zk_lt mh303
                          subst me305
                          unfold B_X12_ran_19 at mh303
                          obtain ⟨mv306, me307, mh303⟩ := zk_lt mh303
                          subst me307
                          simp only [Option.some.injEq, Prod.mk.injEq] at mh303
                          obtain ⟨rfl, rfl⟩ := mh303
                          simp only [Option.some.injEq, Prod.mk.injEq] at mh300
                          obtain ⟨rfl, rfl, rfl⟩ := mh300
                          simp only [Option.some.injEq, Prod.mk.injEq] at mh289
                          obtain ⟨rfl, rfl, rfl⟩ := mh289
                          simp only [Option.some.injEq, Prod.mk.injEq] at mh193
                          obtain ⟨rfl, rfl, rfl⟩ := mh193
                          simp only [Option.some.injEq, Prod.mk.injEq] at mh185
                          obtain ⟨rfl, rfl, rfl⟩ := mh185
                          replace h := Option.some.inj h
                          replace k := Option.some.inj k
                          subst h
                          subst k
                          try dsimp only
                          all_goals first
                          | (exfalso; omega)
                          | exact ⟨rfl, rfl, fun e => by first | exact e | rw [e]⟩
                          | exact ⟨rfl, rfl, fun e => by rw [e]; rfl⟩
                      · replace h := zk_f cc171 h
                        have cc171n := cc171
                        (try simp only [i32_lt, i32_le, i32_e, z32_0, z32_1, z32L_3] at cc171n)
                        first
                        | (exfalso; omega)
                        | have hi : x1.toNatClampNeg < court_suitCount.toInt.toNat := by rw [tcn]; omega
                          have ea : mod_askedMany x1.toNatClampNeg = S_askedCount x1.toNatClampNeg := (hA _ hi).symm
                          unfold B_X12_act_0 at k
                          replace k := zk_o2 k
                          obtain ⟨mv308, mv309, mh310, k⟩ := k
                          unfold f_X12_isSuit at mh310
                          unfold B_X12_isSuit_0 at mh310
                          obtain ⟨mv311, mv312, mh313, mh310⟩ := zk_o2 mh310
                          unfold f_X12_in at mh313
                          unfold B_X12_in_0 at mh313
                          have mh313 := zk_f cc4 mh313
                          have mh313 := zk_f (by (try simp only [i32_lt, i32_le, i32_e, z32_0, z32_1]); omega) mh313
                          simp only [Option.some.injEq, Prod.mk.injEq] at mh313
                          obtain ⟨rfl, _⟩ := mh313
                          obtain ⟨_, mh310⟩ := zk_gd mh310
                          simp only [Option.some.injEq, Prod.mk.injEq] at mh310
                          obtain ⟨rfl, _⟩ := mh310
                          replace k := zk_f (by decide) k
                          replace k := zk_o2 k
                          obtain ⟨mv314, mv315, mh316, k⟩ := k
                          unfold f_X12_in at mh316
                          unfold B_X12_in_0 at mh316
                          by_cases mc317 : x2 < (0 : Int32)
                          · have mh316 := zk_t mc317 mh316
                            have mc317n := mc317
                            (try simp only [i32_lt, i32_le, i32_e, z32_0, z32_1] at mc317n)
                            first
                            | (exfalso; omega)
                            | simp only [Option.some.injEq, Prod.mk.injEq] at mh316
                              obtain ⟨rfl, _⟩ := mh316
                              replace k := zk_t rfl k
                              replace h := Option.some.inj h
                              replace k := Option.some.inj k
                              subst h
                              subst k
                              try dsimp only
                              all_goals first
                              | (exfalso; omega)
                              | exact ⟨rfl, rfl, fun e => by first | exact e | rw [e]⟩
                              | exact ⟨rfl, rfl, fun e => by rw [e]; rfl⟩
                          · have mh316 := zk_f mc317 mh316
                            have mc317n := mc317
                            (try simp only [i32_lt, i32_le, i32_e, z32_0, z32_1] at mc317n)
                            first
                            | (exfalso; omega)
                            | by_cases mc318 : (3 : Int32) < x2
                              · have mh316 := zk_t mc318 mh316
                                have mc318n := mc318
                                (try simp only [i32_lt, i32_le, i32_e, z32_0, z32_1, z32L_3] at mc318n)
                                first
                                | (exfalso; omega)
                                | simp only [Option.some.injEq, Prod.mk.injEq] at mh316
                                  obtain ⟨rfl, _⟩ := mh316
                                  replace k := zk_t rfl k
                                  replace h := Option.some.inj h
                                  replace k := Option.some.inj k
                                  subst h
                                  subst k
                                  try dsimp only
                                  all_goals first
                                  | (exfalso; omega)
                                  | exact ⟨rfl, rfl, fun e => by first | exact e | rw [e]⟩
                                  | exact ⟨rfl, rfl, fun e => by rw [e]; rfl⟩
                              · have mh316 := zk_f mc318 mh316
                                have mc318n := mc318
                                (try simp only [i32_lt, i32_le, i32_e, z32_0, z32_1, z32L_3] at mc318n)
                                first
                                | (exfalso; omega)
                                | simp only [Option.some.injEq, Prod.mk.injEq] at mh316
                                  obtain ⟨rfl, _⟩ := mh316
                                  replace k := zk_f (by decide) k
                                  replace k := zk_f cc15 k
                                  replace k := zk_f cc48 k
                                  replace k := zk_f cc145 k
                                  replace k := zk_o3 k
                                  obtain ⟨mv319, mv320, mv321, mh322, k⟩ := k
                                  unfold f_X12_tells at mh322
                                  unfold B_X12_tells_0 at mh322
                                  obtain ⟨mv323, mv324, mh325, mh322⟩ := zk_o2 mh322
                                  obtain mq326 := bk12_e (hB12 hi) mh325
                                  replace mq326 := mq326.symm
                                  subst mq326
                                  have mh322 := zk_f (by decide) mh322
                                  obtain ⟨mv327, mv328, mv329, mh330, mh322⟩ := zk_o3 mh322
                                  unfold f_X12_plainTells at mh330
                                  unfold B_X12_plainTells_0 at mh330
                                  obtain ⟨mv331, mv332, mh333, mh330⟩ := zk_o2 mh330
                                  unfold f_X12_ran at mh333
                                  unfold B_X12_ran_0 at mh333
                                  have mh333 := zk_f (by decide) mh333
                                  obtain ⟨_, mh333⟩ := zk_gd mh333
                                  obtain ⟨mv334, me335, mh333⟩ := zk_lt mh333
                                  subst me335
                                  unfold B_X12_ran_19 at mh333
                                  obtain ⟨mv336, me337, mh333⟩ := zk_lt mh333
                                  subst me337
                                  simp only [Option.some.injEq, Prod.mk.injEq] at mh333
                                  obtain ⟨rfl, rfl⟩ := mh333
                                  obtain ⟨mv338, mv339, mv340, mh341, mh330⟩ := zk_o3 mh330
                                  unfold f_X12_settles at mh341
                                  unfold B_X12_settles_0 at mh341
                                  obtain ⟨mv342, mv343, mh344, mh341⟩ := zk_o2 mh341
                                  obtain mq345 := bk12_e (hB12 hi) mh344
                                  replace mq345 := mq345.symm
                                  subst mq345
                                  have mh341 := zk_f (by decide) mh341
                                  have mh341 := zk_t rfl mh341
                                  obtain ⟨mv346, mv347, mh348, mh341⟩ := zk_o2 mh341
                                  unfold f_X12_ran at mh348
                                  unfold B_X12_ran_0 at mh348
                                  have mh348 := zk_f (by decide) mh348
                                  obtain ⟨_, mh348⟩ := zk_gd mh348
                                  obtain ⟨mv349, me350, mh348⟩ := zk_lt mh348
                                  subst me350
                                  unfold B_X12_ran_19 at mh348
                                  obtain ⟨mv351, me352, mh348⟩ := zk_lt mh348
                                  subst me352
                                  simp only [Option.some.injEq, Prod.mk.injEq] at mh348
                                  obtain ⟨rfl, rfl⟩ := mh348
                                  obtain ⟨mv353, mv354, mv355, mh356, mh341⟩ := zk_o3 mh341
                                  unfold f_X12_meritsSettles at mh356
                                  unfold B_X12_meritsSettles_0 at mh356
                                  rw [ea] at mh356
                                  obtain ⟨mv357, mv358, mh359, mh356⟩ := zk_o2 mh356
                                  unfold f_X12_ran at mh359
                                  unfold B_X12_ran_0 at mh359
                                  have mh359 := zk_f (by decide) mh359
                                  obtain ⟨_, mh359⟩ := zk_gd mh359
                                  obtain ⟨mv360, me361, mh359⟩ := zk_lt mh359
                                  subst me361
                                  unfold B_X12_ran_19 at mh359
                                  obtain ⟨mv362, me363, mh359⟩ := zk_lt mh359
                                  subst me363
                                  simp only [Option.some.injEq, Prod.mk.injEq] at mh359
                                  obtain ⟨rfl, rfl⟩ := mh359
                                  obtain ⟨mv364, mv365, mv366, mh367, mh356⟩ := zk_o3 mh356
                                  unfold f_X12_plainSettles at mh367
                                  unfold B_X12_plainSettles_0 at mh367
                                  obtain ⟨mv368, mv369, mh370, mh367⟩ := zk_o2 mh367
                                  unfold f_X12_ran at mh370
                                  unfold B_X12_ran_0 at mh370
                                  have mh370 := zk_f (by decide) mh370
                                  obtain ⟨_, mh370⟩ := zk_gd mh370
                                  obtain ⟨mv371, me372, mh370⟩ := zk_lt mh370
                                  subst me372
                                  unfold B_X12_ran_19 at mh370
                                  obtain ⟨mv373, me374, mh370⟩ := zk_lt mh370
                                  subst me374
                                  simp only [Option.some.injEq, Prod.mk.injEq] at mh370
                                  obtain ⟨rfl, rfl⟩ := mh370
                                  obtain ⟨mv375, mv376, mv377, mh378, mh367⟩ := zk_o3 mh367
                                  unfold f_X12_closes at mh378
                                  unfold B_X12_closes_0 at mh378
                                  rw [ea] at mh378
                                  obtain ⟨mv379, mv380, mh381, mh378⟩ := zk_o2 mh378
                                  obtain mq382 := bk12_e (hB12 hi) mh381
                                  replace mq382 := mq382.symm
                                  subst mq382
                                  have mh378 := zk_f (by decide) mh378
                                  have mh378 := zk_f (by decide) mh378
                                  have mh378 := zk_f (by decide) mh378
                                  have mh378 := zk_t rfl mh378
                                  obtain ⟨mv383, mv384, mh385, mh378⟩ := zk_o2 mh378
                                  unfold f_X12_ran at mh385
                                  unfold B_X12_ran_0 at mh385
                                  have mh385 := zk_f (by decide) mh385
                                  obtain ⟨_, mh385⟩ := zk_gd mh385
                                  obtain ⟨mv386, me387, mh385⟩ := zk_lt mh385
                                  subst me387
                                  unfold B_X12_ran_19 at mh385
                                  obtain ⟨mv388, me389, mh385⟩ := zk_lt mh385
                                  subst me389
                                  simp only [Option.some.injEq, Prod.mk.injEq] at mh385
                                  obtain ⟨rfl, rfl⟩ := mh385
                                  obtain ⟨mv390, mv391, mv392, mh393, mh378⟩ := zk_o3 mh378
                                  unfold f_X12_plainCloses at mh393
                                  unfold B_X12_plainCloses_0 at mh393
                                  obtain ⟨mv394, mv395, mh396, mh393⟩ := zk_o2 mh393
                                  unfold f_X12_ran at mh396
                                  unfold B_X12_ran_0 at mh396
                                  have mh396 := zk_f (by decide) mh396
                                  obtain ⟨_, mh396⟩ := zk_gd mh396
                                  obtain ⟨mv397, me398, mh396⟩ := zk_lt mh396
                                  subst me398
                                  unfold B_X12_ran_19 at mh396
                                  obtain ⟨mv399, me400, mh396⟩ := zk_lt mh396
                                  subst me400
                                  simp only [Option.some.injEq, Prod.mk.injEq] at mh396
                                  obtain ⟨rfl, rfl⟩ := mh396
                                  simp only [Option.some.injEq, Prod.mk.injEq] at mh393
                                  obtain ⟨rfl, rfl, rfl⟩ := mh393
                                  obtain ⟨_, mh378⟩ := zk_gd mh378
                                  simp only [Option.some.injEq, Prod.mk.injEq] at mh378
                                  obtain ⟨rfl, rfl, rfl⟩ := mh378
                                  simp only [Option.some.injEq, Prod.mk.injEq] at mh367
                                  obtain ⟨rfl, rfl, rfl⟩ := mh367
                                  obtain ⟨_, mh356⟩ := zk_gd mh356
                                  simp only [Option.some.injEq, Prod.mk.injEq] at mh356
                                  obtain ⟨rfl, rfl, rfl⟩ := mh356
                                  obtain ⟨mv401, mv402, mv403, mh404, mh341⟩ := zk_o3 mh341
                                  unfold f_X12_binds at mh404
                                  unfold B_X12_binds_0 at mh404
                                  obtain ⟨mv405, mv406, mh407, mh404⟩ := zk_o2 mh404
                                  obtain mq408 := bk12_e (hB12 hi) mh407
                                  replace mq408 := mq408.symm
                                  subst mq408
                                  obtain ⟨mv409, mv410, mh411, mh404⟩ := zk_o2 mh404
                                  unfold f_X12_isUnder at mh411
                                  unfold B_X12_isUnder_0 at mh411
                                  have mh411 := zk_f (by decide) mh411
                                  have mh411 := zk_f (by decide) mh411
                                  have mh411 := zk_f (by decide) mh411
                                  unfold B_X12_isUnder_19 at mh411
                                  have mh411 := zk_t rfl mh411
                                  have mh411 := zk_f (by decide) mh411
                                  unfold B_X12_isUnder_29 at mh411
                                  have mh411 := zk_f (by decide) mh411
                                  simp only [Option.some.injEq, Prod.mk.injEq] at mh411
                                  obtain ⟨rfl, _⟩ := mh411
                                  have mh404 := zk_t rfl mh404
                                  obtain ⟨mv412, mv413, mv414, mh415, mh404⟩ := zk_o3 mh404
                                  unfold f_X12_plainBinds at mh415
                                  unfold B_X12_plainBinds_0 at mh415
                                  obtain ⟨mv416, mv417, mh418, mh415⟩ := zk_o2 mh415
                                  unfold f_X12_ran at mh418
                                  unfold B_X12_ran_0 at mh418
                                  have mh418 := zk_f (by decide) mh418
                                  obtain ⟨_, mh418⟩ := zk_gd mh418
                                  obtain ⟨mv419, me420, mh418⟩ := zk_lt mh418
                                  subst me420
                                  unfold B_X12_ran_19 at mh418
                                  obtain ⟨mv421, me422, mh418⟩ := zk_lt mh418
                                  subst me422
                                  simp only [Option.some.injEq, Prod.mk.injEq] at mh418
                                  obtain ⟨rfl, rfl⟩ := mh418
                                  simp only [Option.some.injEq, Prod.mk.injEq] at mh415
                                  obtain ⟨rfl, rfl, rfl⟩ := mh415
                                  simp only [Option.some.injEq, Prod.mk.injEq] at mh404
                                  obtain ⟨rfl, rfl, rfl⟩ := mh404
                                  simp only [Option.some.injEq, Prod.mk.injEq] at mh341
                                  obtain ⟨rfl, rfl, rfl⟩ := mh341
                                  obtain ⟨mv423, mv424, mv425, mh426, mh330⟩ := zk_o3 mh330
                                  unfold f_X12_binds at mh426
                                  unfold B_X12_binds_0 at mh426
                                  obtain ⟨mv427, mv428, mh429, mh426⟩ := zk_o2 mh426
                                  obtain mq430 := bk12_e (hB12 hi) mh429
                                  replace mq430 := mq430.symm
                                  subst mq430
                                  obtain ⟨mv431, mv432, mh433, mh426⟩ := zk_o2 mh426
                                  unfold f_X12_isUnder at mh433
                                  unfold B_X12_isUnder_0 at mh433
                                  have mh433 := zk_f (by decide) mh433
                                  have mh433 := zk_f (by decide) mh433
                                  have mh433 := zk_f (by decide) mh433
                                  unfold B_X12_isUnder_19 at mh433
                                  have mh433 := zk_t rfl mh433
                                  have mh433 := zk_f (by decide) mh433
                                  unfold B_X12_isUnder_29 at mh433
                                  have mh433 := zk_f (by decide) mh433
                                  simp only [Option.some.injEq, Prod.mk.injEq] at mh433
                                  obtain ⟨rfl, _⟩ := mh433
                                  have mh426 := zk_t rfl mh426
                                  obtain ⟨mv434, mv435, mv436, mh437, mh426⟩ := zk_o3 mh426
                                  unfold f_X12_plainBinds at mh437
                                  unfold B_X12_plainBinds_0 at mh437
                                  obtain ⟨mv438, mv439, mh440, mh437⟩ := zk_o2 mh437
                                  unfold f_X12_ran at mh440
                                  unfold B_X12_ran_0 at mh440
                                  have mh440 := zk_f (by decide) mh440
                                  obtain ⟨_, mh440⟩ := zk_gd mh440
                                  obtain ⟨mv441, me442, mh440⟩ := zk_lt mh440
                                  subst me442
                                  unfold B_X12_ran_19 at mh440
                                  obtain ⟨mv443, me444, mh440⟩ := zk_lt mh440
                                  subst me444
                                  simp only [Option.some.injEq, Prod.mk.injEq] at mh440
                                  obtain ⟨rfl, rfl⟩ := mh440
                                  simp only [Option.some.injEq, Prod.mk.injEq] at mh437
                                  obtain ⟨rfl, rfl, rfl⟩ := mh437
                                  simp only [Option.some.injEq, Prod.mk.injEq] at mh426
                                  obtain ⟨rfl, rfl, rfl⟩ := mh426
                                  simp only [Option.some.injEq, Prod.mk.injEq] at mh330
                                  obtain ⟨rfl, rfl, rfl⟩ := mh330
                                  simp only [Option.some.injEq, Prod.mk.injEq] at mh322
                                  obtain ⟨rfl, rfl, rfl⟩ := mh322
                                  replace h := Option.some.inj h
                                  replace k := Option.some.inj k
                                  subst h
                                  subst k
                                  try dsimp only
                                  all_goals first
                                  | (exfalso; omega)
                                  | exact ⟨rfl, rfl, fun e => by first | exact e | rw [e]⟩
                                  | exact ⟨rfl, rfl, fun e => by rw [e]; rfl⟩
