
set_option maxHeartbeats 4000000 in
set_option maxRecDepth 20000 in
theorem bk8_e {su_who : Int32} {su_against : Int32} {su_kind : Int32} {su_won : Int32} {su_day : Int32} {su_land : Int32} {su_undoneFrom : Int32} {su_askedCount : Int32} {su_askedBits : Int32} {su_first : Int32} {su_foundSo : Int32} {su_foundNot : Int32} {su_fought : Int32} {su_needed : Int32} {r K : Int32} {u : Unit} (hB : (su_undoneFrom.toInt < 0 ∧ su_kind = K) ∨ (0 ≤ su_undoneFrom.toInt ∧ K = 5)) (h : f_X7_bodyKind su_who su_against su_kind su_won su_day su_land su_undoneFrom su_askedCount su_askedBits su_first su_foundSo su_foundNot su_fought su_needed = some (r, u)) : r = K := by
  unfold f_X7_bodyKind B_X7_bodyKind_0 at h
  by_cases c : su_undoneFrom < 0
  · replace h := (congrArg Prod.fst (Option.some.inj (zk_t c h))).symm
    rw [i32_lt, z32_0] at c
    rcases hB with ⟨_, b⟩ | ⟨b, _⟩
    · exact h.trans b
    · omega
  · replace h := (congrArg Prod.fst (Option.some.inj (zk_f c h))).symm
    rw [i32_lt, z32_0] at c
    rcases hB with ⟨b, _⟩ | ⟨_, b⟩
    · omega
    · exact h.trans b.symm
set_option maxHeartbeats 4000000 in
set_option maxRecDepth 20000 in
theorem bk12_e {mod_code : Int32} {court_shoeCount : Int32} {mod_claims : Int32} {ts : Int32} {at_ : Int32} {f : Int32} {court_suitCount : Int32} {mod_doneMany : Int32} {mod_undoneMany : Int32} {mod_open : Int32} {mod_laid : Int32} {mod_isBoth : Int32} {mod_wished : Int32} {mod_bestMany : Int32} {mod_bestRow : Int32} {mod_ringDigits : Int32} {mod_traces : Int32} {mod_endKind : Nat → Int32} {mod_undoneFrom : Nat → Int32} {x1 r K : Int32} {u : Unit} (hB : ((mod_undoneFrom x1.toNatClampNeg).toInt < 0 ∧ mod_endKind x1.toNatClampNeg = K) ∨ (0 ≤ (mod_undoneFrom x1.toNatClampNeg).toInt ∧ K = 5)) (h : f_X12_bodyKind x1 mod_code court_shoeCount mod_claims ts at_ f court_suitCount mod_doneMany mod_undoneMany mod_open mod_laid mod_isBoth mod_wished mod_bestMany mod_bestRow mod_ringDigits mod_traces mod_endKind mod_undoneFrom = some (r, u)) : r = K := by
  unfold f_X12_bodyKind B_X12_bodyKind_0 at h
  replace h := zk_gd h
  obtain ⟨_, h⟩ := h
  by_cases c : mod_undoneFrom x1.toNatClampNeg < 0
  · replace h := zk_t c h
    replace h := zk_gd h
    obtain ⟨_, h⟩ := h
    replace h := (congrArg Prod.fst (Option.some.inj h)).symm
    rw [i32_lt, z32_0] at c
    rcases hB with ⟨_, b⟩ | ⟨b, _⟩
    · exact h.trans b
    · omega
  · replace h := (congrArg Prod.fst (Option.some.inj (zk_f c h))).symm
    rw [i32_lt, z32_0] at c
    rcases hB with ⟨b, _⟩ | ⟨_, b⟩
    · omega
    · exact h.trans b.symm
set_option maxHeartbeats 4000000 in
set_option maxRecDepth 20000 in
theorem pw_act0 {mod_code : Int32} {court_shoeCount : Int32} {mod_claims : Int32} {ts : Int32} {at_ : Int32} {f : Int32} {court_suitCount : Int32} {mod_doneMany : Int32} {mod_undoneMany : Int32} {mod_open : Int32} {mod_laid : Int32} {mod_isBoth : Int32} {mod_wished : Int32} {mod_bestMany : Int32} {mod_bestRow : Int32} {mod_ringDigits : Int32} {mod_traces : Int32} {mod_askedMany : Nat → Int32} {mod_endKind : Nat → Int32} {mod_undoneFrom : Nat → Int32} {mod_traced : Nat → Int32} {court_claimCount : Int32} {court_suits : Nat → Option Nat} {S_who : Nat → Int32} {S_against : Nat → Int32} {S_kind : Nat → Int32} {S_won : Nat → Int32} {S_day : Nat → Int32} {S_land : Nat → Int32} {S_undoneFrom : Nat → Int32} {S_asked : Nat → Nat → Int32} {S_askedCount : Nat → Int32} {S_askedBits : Nat → Int32} {S_first : Nat → Int32} {S_foundSo : Nat → Int32} {S_foundNot : Nat → Int32} {S_fought : Nat → Int32} {S_needed : Nat → Int32} {acts_ran : Int32} {acts_kind : Int32} {acts_number : Int32} {acts_claims : Int32} {acts_bodies : Nat → Int32} {x1 x2 x3 : Int32} {R : Int32 × Int32 × Int32 × Int32 × Int32 × (Nat → Int32)} {Q : Int32 × Int32 × (Nat → Int32)} (hn : 0 ≤ court_suitCount.toInt ∧ court_suitCount.toInt ≤ 40) (hA : WU court_suitCount S_askedCount mod_askedMany) (hB8 : ((S_undoneFrom x1.toNatClampNeg).toInt < 0 ∧ S_kind x1.toNatClampNeg = (0 : Int32)) ∨ (0 ≤ (S_undoneFrom x1.toNatClampNeg).toInt ∧ (0 : Int32) = 5)) (hB12 : x1.toNatClampNeg < court_suitCount.toInt.toNat → ((mod_undoneFrom x1.toNatClampNeg).toInt < 0 ∧ mod_endKind x1.toNatClampNeg = (0 : Int32)) ∨ (0 ≤ (mod_undoneFrom x1.toNatClampNeg).toInt ∧ (0 : Int32) = 5)) (h : f_X11_act x1 x2 x3 court_shoeCount court_claimCount court_suitCount court_suits acts_ran acts_kind acts_number acts_claims acts_bodies S_who S_against S_kind S_won S_day S_land S_undoneFrom S_asked S_askedCount S_askedBits S_first S_foundSo S_foundNot S_fought S_needed = some R) (k : f_X12_act x1 x2 x3 mod_code court_shoeCount mod_claims ts at_ f court_suitCount mod_doneMany mod_undoneMany mod_open mod_laid mod_isBoth mod_wished mod_bestMany mod_bestRow mod_ringDigits mod_traces mod_endKind mod_undoneFrom mod_askedMany mod_traced = some Q) : R.1 = Q.1 ∧ R.2.1 = Q.2.1 ∧ (acts_bodies = mod_traced → R.2.2.2.2.2 = Q.2.2) := by
  have hn1 := i32_m1 (a := court_suitCount) (by omega)
  unfold f_X11_act at h
  unfold f_X12_act at k
  unfold B_X11_act_0 at h
  replace h := zk_o2 h
  obtain ⟨cv1, cv2, ch3, h⟩ := h
  unfold f_X2_suitAt at ch3
  unfold B_X2_suitAt_0 at ch3
  by_cases cc4 : x1 < 0
  · have ch3 := zk_t cc4 ch3
    have cc4n := cc4
    (try simp only [i32_lt, i32_le, i32_e, z32_0, z32_1] at cc4n)
    first
    | (exfalso; omega)
    | simp only [Option.some.injEq, Prod.mk.injEq] at ch3
      obtain ⟨rfl, _⟩ := ch3
      replace h := zk_t (by decide) h
      unfold B_X12_act_0 at k
      replace k := zk_o2 k
      obtain ⟨mv1, mv2, mh3, k⟩ := k
      unfold f_X12_isSuit at mh3
      unfold B_X12_isSuit_0 at mh3
      obtain ⟨mv4, mv5, mh6, mh3⟩ := zk_o2 mh3
      unfold f_X12_in at mh6
      unfold B_X12_in_0 at mh6
      have mh6 := zk_t cc4 mh6
      simp only [Option.some.injEq, Prod.mk.injEq] at mh6
      obtain ⟨rfl, _⟩ := mh6
      obtain ⟨_, mh3⟩ := zk_gd mh3
      simp only [Option.some.injEq, Prod.mk.injEq] at mh3
      obtain ⟨rfl, _⟩ := mh3
      replace k := zk_t rfl k
      replace h := Option.some.inj h
      replace k := Option.some.inj k
      subst h
      subst k
      try dsimp only
      all_goals first
      | (exfalso; omega)
      | exact ⟨rfl, rfl, fun e => by first | exact e | rw [e]⟩
      | exact ⟨rfl, rfl, fun e => by rw [e]; rfl⟩
  · have ch3 := zk_f cc4 ch3
    have cc4n := cc4
    (try simp only [i32_lt, i32_le, i32_e, z32_0, z32_1] at cc4n)
    first
    | (exfalso; omega)
    | by_cases cc5 : court_suitCount ≤ x1
      · have ch3 := zk_t cc5 ch3
        have cc5n := cc5
        (try simp only [i32_lt, i32_le, i32_e, z32_0, z32_1] at cc5n)
        first
        | (exfalso; omega)
        | simp only [Option.some.injEq, Prod.mk.injEq] at ch3
          obtain ⟨rfl, _⟩ := ch3
          replace h := zk_t (by decide) h
          unfold B_X12_act_0 at k
          replace k := zk_o2 k
          obtain ⟨mv7, mv8, mh9, k⟩ := k
          unfold f_X12_isSuit at mh9
          unfold B_X12_isSuit_0 at mh9
          obtain ⟨mv10, mv11, mh12, mh9⟩ := zk_o2 mh9
          unfold f_X12_in at mh12
          unfold B_X12_in_0 at mh12
          have mh12 := zk_f cc4 mh12
          have mh12 := zk_t (by (try simp only [i32_lt, i32_le, i32_e, z32_0, z32_1]); omega) mh12
          simp only [Option.some.injEq, Prod.mk.injEq] at mh12
          obtain ⟨rfl, _⟩ := mh12
          obtain ⟨_, mh9⟩ := zk_gd mh9
          simp only [Option.some.injEq, Prod.mk.injEq] at mh9
          obtain ⟨rfl, _⟩ := mh9
          replace k := zk_t rfl k
          replace h := Option.some.inj h
          replace k := Option.some.inj k
          subst h
          subst k
          try dsimp only
          all_goals first
          | (exfalso; omega)
          | exact ⟨rfl, rfl, fun e => by first | exact e | rw [e]⟩
          | exact ⟨rfl, rfl, fun e => by rw [e]; rfl⟩
      · have ch3 := zk_f cc5 ch3
        have cc5n := cc5
        (try simp only [i32_lt, i32_le, i32_e, z32_0, z32_1] at cc5n)
        first
        | (exfalso; omega)
        | obtain ⟨_, ch3⟩ := zk_gd ch3
          obtain ⟨_, ch3⟩ := zk_gd ch3
          obtain ⟨_, ch3⟩ := zk_gd ch3
          simp only [Option.some.injEq, Prod.mk.injEq] at ch3
          obtain ⟨rfl, _⟩ := ch3
          replace h := zk_f cc4 h
          replace h := zk_gd h
          obtain ⟨_, h⟩ := h
          replace h := zk_o2 h
          obtain ⟨cv6, cv7, ch8, h⟩ := h
          obtain cq9 := bk8_e hB8 ch8
          replace cq9 := cq9.symm
          subst cq9
          replace h := zk_gd h
          obtain ⟨_, h⟩ := h
          replace h := zk_o4 h
          obtain ⟨cv10, cv11, cv12, cv13, ch14, h⟩ := h
          unfold f_X0_begin at ch14
          unfold B_X0_begin_0 at ch14
          simp only [Option.some.injEq, Prod.mk.injEq] at ch14
          obtain ⟨rfl, rfl, rfl, rfl⟩ := ch14
          by_cases cc15 : x2 = (0 : Int32)
          · replace h := zk_t cc15 h
            have cc15n := cc15
            (try simp only [i32_lt, i32_le, i32_e, z32_0, z32_1] at cc15n)
            first
            | (exfalso; omega)
            | obtain ⟨cv16, cv17, cv18, ch19, h⟩ := zk_o3 h
              have ch19 : f_X0_closes (grp_grp138 6) (0 : Int32) x3 (0 : Int32) (0 : Int32) x1 (S_askedCount x1.toNatClampNeg) acts_bodies = some (cv16, cv17, cv18) := ch19
              unfold f_X0_closes at ch19
              unfold B_X0_closes_0 at ch19
              have ch19 := zk_f (by decide) ch19
              have ch19 := zk_f (by decide) ch19
              have ch19 := zk_f (by decide) ch19
              have ch19 := zk_f (by decide) ch19
              have ch19 := zk_f (by decide) ch19
              have ch19 := zk_f (by decide) ch19
              obtain ⟨cv20, cv21, ch22, ch19⟩ := zk_o2 ch19
              unfold f_X0_note at ch22
              unfold B_X0_note_0 at ch22
              have ch22 := zk_f (by decide) ch22
              obtain ⟨_, ch22⟩ := zk_gd ch22
              obtain ⟨cv23, ce24, ch22⟩ := zk_lt ch22
              subst ce24
              unfold B_X0_note_19 at ch22
              obtain ⟨cv25, ce26, ch22⟩ := zk_lt ch22
              subst ce26
              simp only [Option.some.injEq, Prod.mk.injEq] at ch22
              obtain ⟨rfl, rfl⟩ := ch22
              simp only [Option.some.injEq, Prod.mk.injEq] at ch19
              obtain ⟨rfl, rfl, rfl⟩ := ch19
              have hi : x1.toNatClampNeg < court_suitCount.toInt.toNat := by rw [tcn]; omega
              have ea : mod_askedMany x1.toNatClampNeg = S_askedCount x1.toNatClampNeg := (hA _ hi).symm
              unfold B_X12_act_0 at k
              replace k := zk_o2 k
              obtain ⟨mv13, mv14, mh15, k⟩ := k
              unfold f_X12_isSuit at mh15
              unfold B_X12_isSuit_0 at mh15
              obtain ⟨mv16, mv17, mh18, mh15⟩ := zk_o2 mh15
              unfold f_X12_in at mh18
              unfold B_X12_in_0 at mh18
              have mh18 := zk_f cc4 mh18
              have mh18 := zk_f (by (try simp only [i32_lt, i32_le, i32_e, z32_0, z32_1]); omega) mh18
              simp only [Option.some.injEq, Prod.mk.injEq] at mh18
              obtain ⟨rfl, _⟩ := mh18
              obtain ⟨_, mh15⟩ := zk_gd mh15
              simp only [Option.some.injEq, Prod.mk.injEq] at mh15
              obtain ⟨rfl, _⟩ := mh15
              replace k := zk_f (by decide) k
              replace k := zk_o2 k
              obtain ⟨mv19, mv20, mh21, k⟩ := k
              unfold f_X12_in at mh21
              unfold B_X12_in_0 at mh21
              have mh21 := zk_f (by (try simp only [i32_lt, i32_le, i32_e, z32_0, z32_1]); omega) mh21
              have mh21 := zk_f (by (try simp only [i32_lt, i32_le, i32_e, z32_0, z32_1, z32L_3]); omega) mh21
              simp only [Option.some.injEq, Prod.mk.injEq] at mh21
              obtain ⟨rfl, _⟩ := mh21
              replace k := zk_f (by decide) k
              replace k := zk_t cc15 k
              replace k := zk_o3 k
              obtain ⟨mv22, mv23, mv24, mh25, k⟩ := k
              unfold f_X12_closes at mh25
              unfold B_X12_closes_0 at mh25
              rw [ea] at mh25
              obtain ⟨mv26, mv27, mh28, mh25⟩ := zk_o2 mh25
              obtain mq29 := bk12_e (hB12 hi) mh28
              replace mq29 := mq29.symm
              subst mq29
              have mh25 := zk_f (by decide) mh25
              have mh25 := zk_f (by decide) mh25
              have mh25 := zk_f (by decide) mh25
              have mh25 := zk_f (by decide) mh25
              obtain ⟨mv30, mv31, mv32, mh33, mh25⟩ := zk_o3 mh25
              unfold f_X12_plainCloses at mh33
              unfold B_X12_plainCloses_0 at mh33
              obtain ⟨mv34, mv35, mh36, mh33⟩ := zk_o2 mh33
              unfold f_X12_ran at mh36
              unfold B_X12_ran_0 at mh36
              have mh36 := zk_f (by decide) mh36
              obtain ⟨_, mh36⟩ := zk_gd mh36
              obtain ⟨mv37, me38, mh36⟩ := zk_lt mh36
              subst me38
              unfold B_X12_ran_19 at mh36
              obtain ⟨mv39, me40, mh36⟩ := zk_lt mh36
              subst me40
              simp only [Option.some.injEq, Prod.mk.injEq] at mh36
              obtain ⟨rfl, rfl⟩ := mh36
              simp only [Option.some.injEq, Prod.mk.injEq] at mh33
              obtain ⟨rfl, rfl, rfl⟩ := mh33
              simp only [Option.some.injEq, Prod.mk.injEq] at mh25
              obtain ⟨rfl, rfl, rfl⟩ := mh25
              replace h := Option.some.inj h
              replace k := Option.some.inj k
              subst h
              subst k
              try dsimp only
              all_goals first
              | (exfalso; omega)
              | exact ⟨rfl, rfl, fun e => by first | exact e | rw [e]⟩
              | exact ⟨rfl, rfl, fun e => by rw [e]; rfl⟩
          · replace h := zk_f cc15 h
            have cc15n := cc15
            (try simp only [i32_lt, i32_le, i32_e, z32_0, z32_1] at cc15n)
            first
            | (exfalso; omega)
            | by_cases cc27 : x2 = (1 : Int32)
              · replace h := zk_t cc27 h
                have cc27n := cc27
                (try simp only [i32_lt, i32_le, i32_e, z32_0, z32_1] at cc27n)
                first
                | (exfalso; omega)
                | obtain ⟨cv28, cv29, cv30, ch31, h⟩ := zk_o3 h
                  have ch31 : f_X0_settles (grp_grp140 6) (0 : Int32) x3 (0 : Int32) (0 : Int32) x1 (S_askedCount x1.toNatClampNeg) acts_bodies = some (cv28, cv29, cv30) := ch31
                  unfold f_X0_settles at ch31
                  unfold B_X0_settles_0 at ch31
                  have ch31 := zk_f (by decide) ch31
                  have ch31 := zk_f (by decide) ch31
                  have ch31 := zk_f (by decide) ch31
                  have ch31 := zk_f (by decide) ch31
                  have ch31 := zk_f (by decide) ch31
                  have ch31 := zk_f (by decide) ch31
                  obtain ⟨cv32, cv33, ch34, ch31⟩ := zk_o2 ch31
                  unfold f_X0_note at ch34
                  unfold B_X0_note_0 at ch34
                  have ch34 := zk_f (by decide) ch34
                  obtain ⟨_, ch34⟩ := zk_gd ch34
                  obtain ⟨cv35, ce36, ch34⟩ := zk_lt ch34
                  subst ce36
                  unfold B_X0_note_19 at ch34
                  obtain ⟨cv37, ce38, ch34⟩ := zk_lt ch34
                  subst ce38
                  simp only [Option.some.injEq, Prod.mk.injEq] at ch34
                  obtain ⟨rfl, rfl⟩ := ch34
                  obtain ⟨cv39, cv40, cv41, ch42, ch31⟩ := zk_o3 ch31
                  have ch42 : f_X0_closes (grp_grp138 6) (0 : Int32) x3 ((0 : Int32) + (1 : Int32)) (0 : Int32) x1 (S_askedCount x1.toNatClampNeg) (upd acts_bodies (0 : Int32).toNatClampNeg (10 : Int32)) = some (cv39, cv40, cv41) := ch42
                  unfold f_X0_closes at ch42
                  unfold B_X0_closes_0 at ch42
                  have ch42 := zk_f (by decide) ch42
                  have ch42 := zk_f (by decide) ch42
                  have ch42 := zk_f (by decide) ch42
                  have ch42 := zk_f (by decide) ch42
                  have ch42 := zk_f (by decide) ch42
                  have ch42 := zk_f (by decide) ch42
                  obtain ⟨cv43, cv44, ch45, ch42⟩ := zk_o2 ch42
                  unfold f_X0_note at ch45
                  unfold B_X0_note_0 at ch45
                  have ch45 := zk_f (by decide) ch45
                  obtain ⟨_, ch45⟩ := zk_gd ch45
                  obtain ⟨cv46, ce47, ch45⟩ := zk_lt ch45
                  subst ce47
                  unfold B_X0_note_19 at ch45
                  obtain ⟨cv48, ce49, ch45⟩ := zk_lt ch45
                  subst ce49
                  simp only [Option.some.injEq, Prod.mk.injEq] at ch45
                  obtain ⟨rfl, rfl⟩ := ch45
                  simp only [Option.some.injEq, Prod.mk.injEq] at ch42
                  obtain ⟨rfl, rfl, rfl⟩ := ch42
                  simp only [Option.some.injEq, Prod.mk.injEq] at ch31
                  obtain ⟨rfl, rfl, rfl⟩ := ch31
                  have hi : x1.toNatClampNeg < court_suitCount.toInt.toNat := by rw [tcn]; omega
                  have ea : mod_askedMany x1.toNatClampNeg = S_askedCount x1.toNatClampNeg := (hA _ hi).symm
                  unfold B_X12_act_0 at k
                  replace k := zk_o2 k
                  obtain ⟨mv41, mv42, mh43, k⟩ := k
                  unfold f_X12_isSuit at mh43
                  unfold B_X12_isSuit_0 at mh43
                  obtain ⟨mv44, mv45, mh46, mh43⟩ := zk_o2 mh43
                  unfold f_X12_in at mh46
                  unfold B_X12_in_0 at mh46
                  have mh46 := zk_f cc4 mh46
                  have mh46 := zk_f (by (try simp only [i32_lt, i32_le, i32_e, z32_0, z32_1]); omega) mh46
                  simp only [Option.some.injEq, Prod.mk.injEq] at mh46
                  obtain ⟨rfl, _⟩ := mh46
                  obtain ⟨_, mh43⟩ := zk_gd mh43
                  simp only [Option.some.injEq, Prod.mk.injEq] at mh43
                  obtain ⟨rfl, _⟩ := mh43
                  replace k := zk_f (by decide) k
                  replace k := zk_o2 k
                  obtain ⟨mv47, mv48, mh49, k⟩ := k
                  unfold f_X12_in at mh49
                  unfold B_X12_in_0 at mh49
                  have mh49 := zk_f (by (try simp only [i32_lt, i32_le, i32_e, z32_0, z32_1]); omega) mh49
                  have mh49 := zk_f (by (try simp only [i32_lt, i32_le, i32_e, z32_0, z32_1, z32L_3]); omega) mh49
                  simp only [Option.some.injEq, Prod.mk.injEq] at mh49
                  obtain ⟨rfl, _⟩ := mh49
                  replace k := zk_f (by decide) k
                  replace k := zk_f cc15 k
                  replace k := zk_t cc27 k
                  replace k := zk_o3 k
                  obtain ⟨mv50, mv51, mv52, mh53, k⟩ := k
                  unfold f_X12_settles at mh53
                  unfold B_X12_settles_0 at mh53
                  obtain ⟨mv54, mv55, mh56, mh53⟩ := zk_o2 mh53
                  obtain mq57 := bk12_e (hB12 hi) mh56
                  replace mq57 := mq57.symm
                  subst mq57
                  have mh53 := zk_f (by decide) mh53
                  have mh53 := zk_f (by decide) mh53
                  have mh53 := zk_f (by decide) mh53
                  obtain ⟨mv58, mv59, mv60, mh61, mh53⟩ := zk_o3 mh53
                  unfold f_X12_plainSettles at mh61
                  unfold B_X12_plainSettles_0 at mh61
                  obtain ⟨mv62, mv63, mh64, mh61⟩ := zk_o2 mh61
                  unfold f_X12_ran at mh64
                  unfold B_X12_ran_0 at mh64
                  have mh64 := zk_f (by decide) mh64
                  obtain ⟨_, mh64⟩ := zk_gd mh64
                  obtain ⟨mv65, me66, mh64⟩ := zk_lt mh64
                  subst me66
                  unfold B_X12_ran_19 at mh64
                  obtain ⟨mv67, me68, mh64⟩ := zk_lt mh64
                  subst me68
                  simp only [Option.some.injEq, Prod.mk.injEq] at mh64
                  obtain ⟨rfl, rfl⟩ := mh64
                  obtain ⟨mv69, mv70, mv71, mh72, mh61⟩ := zk_o3 mh61
                  unfold f_X12_closes at mh72
                  unfold B_X12_closes_0 at mh72
                  rw [ea] at mh72
                  obtain ⟨mv73, mv74, mh75, mh72⟩ := zk_o2 mh72
                  obtain mq76 := bk12_e (hB12 hi) mh75
                  replace mq76 := mq76.symm
                  subst mq76
                  have mh72 := zk_f (by decide) mh72
                  have mh72 := zk_f (by decide) mh72
                  have mh72 := zk_f (by decide) mh72
                  have mh72 := zk_f (by decide) mh72
                  obtain ⟨mv77, mv78, mv79, mh80, mh72⟩ := zk_o3 mh72
                  unfold f_X12_plainCloses at mh80
                  unfold B_X12_plainCloses_0 at mh80
                  obtain ⟨mv81, mv82, mh83, mh80⟩ := zk_o2 mh80
                  unfold f_X12_ran at mh83
                  unfold B_X12_ran_0 at mh83
                  have mh83 := zk_f (by decide) mh83
                  obtain ⟨_, mh83⟩ := zk_gd mh83
                  obtain ⟨mv84, me85, mh83⟩ := zk_lt mh83
                  subst me85
                  unfold B_X12_ran_19 at mh83
                  obtain ⟨mv86, me87, mh83⟩ := zk_lt mh83
                  subst me87
                  simp only [Option.some.injEq, Prod.mk.injEq] at mh83
                  obtain ⟨rfl, rfl⟩ := mh83
                  simp only [Option.some.injEq, Prod.mk.injEq] at mh80
                  obtain ⟨rfl, rfl, rfl⟩ := mh80
                  simp only [Option.some.injEq, Prod.mk.injEq] at mh72
                  obtain ⟨rfl, rfl, rfl⟩ := mh72
                  simp only [Option.some.injEq, Prod.mk.injEq] at mh61
                  obtain ⟨rfl, rfl, rfl⟩ := mh61
                  simp only [Option.some.injEq, Prod.mk.injEq] at mh53
                  obtain ⟨rfl, rfl, rfl⟩ := mh53
                  replace h := Option.some.inj h
                  replace k := Option.some.inj k
                  subst h
                  subst k
                  try dsimp only
                  all_goals first
                  | (exfalso; omega)
                  | exact ⟨rfl, rfl, fun e => by first | exact e | rw [e]⟩
                  | exact ⟨rfl, rfl, fun e => by rw [e]; rfl⟩
              · replace h := zk_f cc27 h
                have cc27n := cc27
                (try simp only [i32_lt, i32_le, i32_e, z32_0, z32_1] at cc27n)
                first
                | (exfalso; omega)
                | by_cases cc50 : x2 = (2 : Int32)
                  · replace h := zk_t cc50 h
                    have cc50n := cc50
                    (try simp only [i32_lt, i32_le, i32_e, z32_0, z32_1, z32L_2] at cc50n)
                    first
                    | (exfalso; omega)
                    | obtain ⟨cv51, cv52, cv53, ch54, h⟩ := zk_o3 h
                      have ch54 : f_X0_binds (grp_grp139 6) (0 : Int32) x3 (0 : Int32) (0 : Int32) x1 (S_askedCount x1.toNatClampNeg) acts_bodies = some (cv51, cv52, cv53) := ch54
                      unfold f_X0_binds at ch54
                      unfold B_X0_binds_0 at ch54
                      have ch54 := zk_f (by decide) ch54
                      have ch54 := zk_t (Int32.le_refl _) ch54
                      obtain ⟨cv55, cv56, ch57, ch54⟩ := zk_o2 ch54
                      unfold f_X0_note at ch57
                      unfold B_X0_note_0 at ch57
                      have ch57 := zk_f (by decide) ch57
                      obtain ⟨_, ch57⟩ := zk_gd ch57
                      obtain ⟨cv58, ce59, ch57⟩ := zk_lt ch57
                      subst ce59
                      unfold B_X0_note_19 at ch57
                      obtain ⟨cv60, ce61, ch57⟩ := zk_lt ch57
                      subst ce61
                      simp only [Option.some.injEq, Prod.mk.injEq] at ch57
                      obtain ⟨rfl, rfl⟩ := ch57
                      simp only [Option.some.injEq, Prod.mk.injEq] at ch54
                      obtain ⟨rfl, rfl, rfl⟩ := ch54
                      have hi : x1.toNatClampNeg < court_suitCount.toInt.toNat := by rw [tcn]; omega
                      have ea : mod_askedMany x1.toNatClampNeg = S_askedCount x1.toNatClampNeg := (hA _ hi).symm
                      unfold B_X12_act_0 at k
                      replace k := zk_o2 k
                      obtain ⟨mv88, mv89, mh90, k⟩ := k
                      unfold f_X12_isSuit at mh90
                      unfold B_X12_isSuit_0 at mh90
                      obtain ⟨mv91, mv92, mh93, mh90⟩ := zk_o2 mh90
                      unfold f_X12_in at mh93
                      unfold B_X12_in_0 at mh93
                      have mh93 := zk_f cc4 mh93
                      have mh93 := zk_f (by (try simp only [i32_lt, i32_le, i32_e, z32_0, z32_1]); omega) mh93
                      simp only [Option.some.injEq, Prod.mk.injEq] at mh93
                      obtain ⟨rfl, _⟩ := mh93
                      obtain ⟨_, mh90⟩ := zk_gd mh90
                      simp only [Option.some.injEq, Prod.mk.injEq] at mh90
                      obtain ⟨rfl, _⟩ := mh90
                      replace k := zk_f (by decide) k
                      replace k := zk_o2 k
                      obtain ⟨mv94, mv95, mh96, k⟩ := k
                      unfold f_X12_in at mh96
                      unfold B_X12_in_0 at mh96
                      have mh96 := zk_f (by (try simp only [i32_lt, i32_le, i32_e, z32_0, z32_1]); omega) mh96
                      have mh96 := zk_f (by (try simp only [i32_lt, i32_le, i32_e, z32_0, z32_1, z32L_3]); omega) mh96
                      simp only [Option.some.injEq, Prod.mk.injEq] at mh96
                      obtain ⟨rfl, _⟩ := mh96
                      replace k := zk_f (by decide) k
                      replace k := zk_f cc15 k
                      replace k := zk_f cc27 k
                      replace k := zk_t cc50 k
                      replace k := zk_o3 k
                      obtain ⟨mv97, mv98, mv99, mh100, k⟩ := k
                      unfold f_X12_binds at mh100
                      unfold B_X12_binds_0 at mh100
                      obtain ⟨mv101, mv102, mh103, mh100⟩ := zk_o2 mh100
                      obtain mq104 := bk12_e (hB12 hi) mh103
                      replace mq104 := mq104.symm
                      subst mq104
                      obtain ⟨mv105, mv106, mh107, mh100⟩ := zk_o2 mh100
                      unfold f_X12_isUnder at mh107
                      unfold B_X12_isUnder_0 at mh107
                      have mh107 := zk_f (by decide) mh107
                      have mh107 := zk_f (by decide) mh107
                      have mh107 := zk_f (by decide) mh107
                      unfold B_X12_isUnder_19 at mh107
                      have mh107 := zk_t rfl mh107
                      have mh107 := zk_f (by decide) mh107
                      unfold B_X12_isUnder_29 at mh107
                      have mh107 := zk_f (by decide) mh107
                      simp only [Option.some.injEq, Prod.mk.injEq] at mh107
                      obtain ⟨rfl, _⟩ := mh107
                      have mh100 := zk_t rfl mh100
                      obtain ⟨mv108, mv109, mv110, mh111, mh100⟩ := zk_o3 mh100
                      unfold f_X12_plainBinds at mh111
                      unfold B_X12_plainBinds_0 at mh111
                      obtain ⟨mv112, mv113, mh114, mh111⟩ := zk_o2 mh111
                      unfold f_X12_ran at mh114
                      unfold B_X12_ran_0 at mh114
                      have mh114 := zk_f (by decide) mh114
                      obtain ⟨_, mh114⟩ := zk_gd mh114
                      obtain ⟨mv115, me116, mh114⟩ := zk_lt mh114
                      subst me116
                      unfold B_X12_ran_19 at mh114
                      obtain ⟨mv117, me118, mh114⟩ := zk_lt mh114
                      subst me118
                      simp only [Option.some.injEq, Prod.mk.injEq] at mh114
                      obtain ⟨rfl, rfl⟩ := mh114
                      simp only [Option.some.injEq, Prod.mk.injEq] at mh111
                      obtain ⟨rfl, rfl, rfl⟩ := mh111
                      simp only [Option.some.injEq, Prod.mk.injEq] at mh100
                      obtain ⟨rfl, rfl, rfl⟩ := mh100
                      replace h := Option.some.inj h
                      replace k := Option.some.inj k
                      subst h
                      subst k
                      try dsimp only
                      all_goals first
                      | (exfalso; omega)
                      | exact ⟨rfl, rfl, fun e => by first | exact e | rw [e]⟩
                      | exact ⟨rfl, rfl, fun e => by rw [e]; rfl⟩
                  · replace h := zk_f cc50 h
                    have cc50n := cc50
                    (try simp only [i32_lt, i32_le, i32_e, z32_0, z32_1, z32L_2] at cc50n)
                    first
                    | (exfalso; omega)
                    | by_cases cc62 : x2 = (3 : Int32)
                      · replace h := zk_t cc62 h
                        have cc62n := cc62
                        (try simp only [i32_lt, i32_le, i32_e, z32_0, z32_1, z32L_3] at cc62n)
                        first
                        | (exfalso; omega)
                        | obtain ⟨cv63, cv64, cv65, ch66, h⟩ := zk_o3 h
                          have ch66 : f_X0_tells (grp_grp141 6) (0 : Int32) x3 (0 : Int32) (0 : Int32) x1 (S_askedCount x1.toNatClampNeg) acts_bodies = some (cv63, cv64, cv65) := ch66
                          unfold f_X0_tells at ch66
                          unfold B_X0_tells_0 at ch66
                          have ch66 := zk_f (by decide) ch66
                          have ch66 := zk_t (Int32.le_refl _) ch66
                          obtain ⟨cv67, cv68, ch69, ch66⟩ := zk_o2 ch66
                          unfold f_X0_note at ch69
                          unfold B_X0_note_0 at ch69
                          have ch69 := zk_f (by decide) ch69
                          obtain ⟨_, ch69⟩ := zk_gd ch69
                          obtain ⟨cv70, ce71, ch69⟩ := zk_lt ch69
                          subst ce71
                          unfold B_X0_note_19 at ch69
                          obtain ⟨cv72, ce73, ch69⟩ := zk_lt ch69
                          subst ce73
                          simp only [Option.some.injEq, Prod.mk.injEq] at ch69
                          obtain ⟨rfl, rfl⟩ := ch69
                          obtain ⟨cv74, cv75, cv76, ch77, ch66⟩ := zk_o3 ch66
                          have ch77 : f_X0_settles (grp_grp140 6) (0 : Int32) x3 ((0 : Int32) + (1 : Int32)) (0 : Int32) x1 (S_askedCount x1.toNatClampNeg) (upd acts_bodies (0 : Int32).toNatClampNeg (2 : Int32)) = some (cv74, cv75, cv76) := ch77
                          unfold f_X0_settles at ch77
                          unfold B_X0_settles_0 at ch77
                          have ch77 := zk_f (by decide) ch77
                          have ch77 := zk_f (by decide) ch77
                          have ch77 := zk_f (by decide) ch77
                          have ch77 := zk_f (by decide) ch77
                          have ch77 := zk_f (by decide) ch77
                          have ch77 := zk_f (by decide) ch77
                          obtain ⟨cv78, cv79, ch80, ch77⟩ := zk_o2 ch77
                          unfold f_X0_note at ch80
                          unfold B_X0_note_0 at ch80
                          have ch80 := zk_f (by decide) ch80
                          obtain ⟨_, ch80⟩ := zk_gd ch80
                          obtain ⟨cv81, ce82, ch80⟩ := zk_lt ch80
                          subst ce82
                          unfold B_X0_note_19 at ch80
                          obtain ⟨cv83, ce84, ch80⟩ := zk_lt ch80
                          subst ce84
                          simp only [Option.some.injEq, Prod.mk.injEq] at ch80
                          obtain ⟨rfl, rfl⟩ := ch80
                          obtain ⟨cv85, cv86, cv87, ch88, ch77⟩ := zk_o3 ch77
                          have ch88 : f_X0_closes (grp_grp138 6) (0 : Int32) x3 (((0 : Int32) + (1 : Int32)) + (1 : Int32)) (0 : Int32) x1 (S_askedCount x1.toNatClampNeg) (upd (upd acts_bodies (0 : Int32).toNatClampNeg (2 : Int32)) ((0 : Int32) + (1 : Int32)).toNatClampNeg (10 : Int32)) = some (cv85, cv86, cv87) := ch88
                          unfold f_X0_closes at ch88
                          unfold B_X0_closes_0 at ch88
                          have ch88 := zk_f (by decide) ch88
                          have ch88 := zk_f (by decide) ch88
                          have ch88 := zk_f (by decide) ch88
                          have ch88 := zk_f (by decide) ch88
                          have ch88 := zk_f (by decide) ch88
                          have ch88 := zk_f (by decide) ch88
                          obtain ⟨cv89, cv90, ch91, ch88⟩ := zk_o2 ch88
                          unfold f_X0_note at ch91
                          unfold B_X0_note_0 at ch91
                          have ch91 := zk_f (by decide) ch91
                          obtain ⟨_, ch91⟩ := zk_gd ch91
                          obtain ⟨cv92, ce93, ch91⟩ := zk_lt ch91
                          subst ce93
                          unfold B_X0_note_19 at ch91
                          obtain ⟨cv94, ce95, ch91⟩ := zk_lt ch91
                          subst ce95
                          simp only [Option.some.injEq, Prod.mk.injEq] at ch91
                          obtain ⟨rfl, rfl⟩ := ch91
                          simp only [Option.some.injEq, Prod.mk.injEq] at ch88
                          obtain ⟨rfl, rfl, rfl⟩ := ch88
                          simp only [Option.some.injEq, Prod.mk.injEq] at ch77
                          obtain ⟨rfl, rfl, rfl⟩ := ch77
                          obtain ⟨cv96, cv97, cv98, ch99, ch66⟩ := zk_o3 ch66
                          have ch99 : f_X0_binds (grp_grp139 6) (0 : Int32) (1 : Int32) ((((0 : Int32) + (1 : Int32)) + (1 : Int32)) + (1 : Int32)) (0 : Int32) x1 (S_askedCount x1.toNatClampNeg) (upd (upd (upd acts_bodies (0 : Int32).toNatClampNeg (2 : Int32)) ((0 : Int32) + (1 : Int32)).toNatClampNeg (10 : Int32)) (((0 : Int32) + (1 : Int32)) + (1 : Int32)).toNatClampNeg (1 : Int32)) = some (cv96, cv97, cv98) := ch99
                          unfold f_X0_binds at ch99
                          unfold B_X0_binds_0 at ch99
                          have ch99 := zk_f (by decide) ch99
                          have ch99 := zk_t (Int32.le_refl _) ch99
                          obtain ⟨cv100, cv101, ch102, ch99⟩ := zk_o2 ch99
                          unfold f_X0_note at ch102
                          unfold B_X0_note_0 at ch102
                          have ch102 := zk_f (by decide) ch102
                          obtain ⟨_, ch102⟩ := zk_gd ch102
                          obtain ⟨cv103, ce104, ch102⟩ := zk_lt ch102
                          subst ce104
                          unfold B_X0_note_19 at ch102
                          obtain ⟨cv105, ce106, ch102⟩ := zk_lt ch102
                          subst ce106
                          simp only [Option.some.injEq, Prod.mk.injEq] at ch102
                          obtain ⟨rfl, rfl⟩ := ch102
                          simp only [Option.some.injEq, Prod.mk.injEq] at ch99
                          obtain ⟨rfl, rfl, rfl⟩ := ch99
                          simp only [Option.some.injEq, Prod.mk.injEq] at ch66
                          obtain ⟨rfl, rfl, rfl⟩ := ch66
                          have hi : x1.toNatClampNeg < court_suitCount.toInt.toNat := by rw [tcn]; omega
                          have ea : mod_askedMany x1.toNatClampNeg = S_askedCount x1.toNatClampNeg := (hA _ hi).symm
                          unfold B_X12_act_0 at k
                          replace k := zk_o2 k
                          obtain ⟨mv119, mv120, mh121, k⟩ := k
                          unfold f_X12_isSuit at mh121
                          unfold B_X12_isSuit_0 at mh121
                          obtain ⟨mv122, mv123, mh124, mh121⟩ := zk_o2 mh121
                          unfold f_X12_in at mh124
                          unfold B_X12_in_0 at mh124
                          have mh124 := zk_f cc4 mh124
                          have mh124 := zk_f (by (try simp only [i32_lt, i32_le, i32_e, z32_0, z32_1]); omega) mh124
                          simp only [Option.some.injEq, Prod.mk.injEq] at mh124
                          obtain ⟨rfl, _⟩ := mh124
                          obtain ⟨_, mh121⟩ := zk_gd mh121
                          simp only [Option.some.injEq, Prod.mk.injEq] at mh121
                          obtain ⟨rfl, _⟩ := mh121
                          replace k := zk_f (by decide) k
                          replace k := zk_o2 k
                          obtain ⟨mv125, mv126, mh127, k⟩ := k
                          unfold f_X12_in at mh127
                          unfold B_X12_in_0 at mh127
                          have mh127 := zk_f (by (try simp only [i32_lt, i32_le, i32_e, z32_0, z32_1]); omega) mh127
                          have mh127 := zk_f (by (try simp only [i32_lt, i32_le, i32_e, z32_0, z32_1, z32L_3]); omega) mh127
                          simp only [Option.some.injEq, Prod.mk.injEq] at mh127
                          obtain ⟨rfl, _⟩ := mh127
                          replace k := zk_f (by decide) k
                          replace k := zk_f cc15 k
                          replace k := zk_f cc27 k
                          replace k := zk_f cc50 k
                          replace k := zk_o3 k
                          obtain ⟨mv128, mv129, mv130, mh131, k⟩ := k
                          unfold f_X12_tells at mh131
                          unfold B_X12_tells_0 at mh131
                          obtain ⟨mv132, mv133, mh134, mh131⟩ := zk_o2 mh131
                          obtain mq135 := bk12_e (hB12 hi) mh134
                          replace mq135 := mq135.symm
                          subst mq135
                          have mh131 := zk_f (by decide) mh131
                          obtain ⟨mv136, mv137, mv138, mh139, mh131⟩ := zk_o3 mh131
                          unfold f_X12_plainTells at mh139
                          unfold B_X12_plainTells_0 at mh139
                          obtain ⟨mv140, mv141, mh142, mh139⟩ := zk_o2 mh139
                          unfold f_X12_ran at mh142
                          unfold B_X12_ran_0 at mh142
                          have mh142 := zk_f (by decide) mh142
                          obtain ⟨_, mh142⟩ := zk_gd mh142
                          obtain ⟨mv143, me144, mh142⟩ := zk_lt mh142
                          subst me144
                          unfold B_X12_ran_19 at mh142
                          obtain ⟨mv145, me146, mh142⟩ := zk_lt mh142
                          subst me146
                          simp only [Option.some.injEq, Prod.mk.injEq] at mh142
                          obtain ⟨rfl, rfl⟩ := mh142
                          obtain ⟨mv147, mv148, mv149, mh150, mh139⟩ := zk_o3 mh139
                          unfold f_X12_settles at mh150
                          unfold B_X12_settles_0 at mh150
                          obtain ⟨mv151, mv152, mh153, mh150⟩ := zk_o2 mh150
                          obtain mq154 := bk12_e (hB12 hi) mh153
                          replace mq154 := mq154.symm
                          subst mq154
                          have mh150 := zk_f (by decide) mh150
                          have mh150 := zk_f (by decide) mh150
                          have mh150 := zk_f (by decide) mh150
                          obtain ⟨mv155, mv156, mv157, mh158, mh150⟩ := zk_o3 mh150
                          unfold f_X12_plainSettles at mh158
                          unfold B_X12_plainSettles_0 at mh158
                          obtain ⟨mv159, mv160, mh161, mh158⟩ := zk_o2 mh158
                          unfold f_X12_ran at mh161
                          unfold B_X12_ran_0 at mh161
                          have mh161 := zk_f (by decide) mh161
                          obtain ⟨_, mh161⟩ := zk_gd mh161
                          obtain ⟨mv162, me163, mh161⟩ := zk_lt mh161
                          subst me163
                          unfold B_X12_ran_19 at mh161
                          obtain ⟨mv164, me165, mh161⟩ := zk_lt mh161
                          subst me165
                          simp only [Option.some.injEq, Prod.mk.injEq] at mh161
                          obtain ⟨rfl, rfl⟩ := mh161
                          obtain ⟨mv166, mv167, mv168, mh169, mh158⟩ := zk_o3 mh158
                          unfold f_X12_closes at mh169
                          unfold B_X12_closes_0 at mh169
                          rw [ea] at mh169
                          obtain ⟨mv170, mv171, mh172, mh169⟩ := zk_o2 mh169
                          obtain mq173 := bk12_e (hB12 hi) mh172
                          replace mq173 := mq173.symm
                          subst mq173
                          have mh169 := zk_f (by decide) mh169
                          have mh169 := zk_f (by decide) mh169
                          have mh169 := zk_f (by decide) mh169
                          have mh169 := zk_f (by decide) mh169
                          obtain ⟨mv174, mv175, mv176, mh177, mh169⟩ := zk_o3 mh169
                          unfold f_X12_plainCloses at mh177
                          unfold B_X12_plainCloses_0 at mh177
                          obtain ⟨mv178, mv179, mh180, mh177⟩ := zk_o2 mh177
                          unfold f_X12_ran at mh180
                          unfold B_X12_ran_0 at mh180
                          have mh180 := zk_f (by decide) mh180
                          obtain ⟨_, mh180⟩ := zk_gd mh180
                          obtain ⟨mv181, me182, mh180⟩ := zk_lt mh180
                          subst me182
                          unfold B_X12_ran_19 at mh180
                          obtain ⟨mv183, me184, mh180⟩ := zk_lt mh180
                          subst me184
                          simp only [Option.some.injEq, Prod.mk.injEq] at mh180
                          obtain ⟨rfl, rfl⟩ := mh180
                          simp only [Option.some.injEq, Prod.mk.injEq] at mh177
                          obtain ⟨rfl, rfl, rfl⟩ := mh177
                          simp only [Option.some.injEq, Prod.mk.injEq] at mh169
                          obtain ⟨rfl, rfl, rfl⟩ := mh169
                          simp only [Option.some.injEq, Prod.mk.injEq] at mh158
                          obtain ⟨rfl, rfl, rfl⟩ := mh158
                          simp only [Option.some.injEq, Prod.mk.injEq] at mh150
                          obtain ⟨rfl, rfl, rfl⟩ := mh150
                          obtain ⟨mv185, mv186, mv187, mh188, mh139⟩ := zk_o3 mh139
                          unfold f_X12_binds at mh188
                          unfold B_X12_binds_0 at mh188
                          obtain ⟨mv189, mv190, mh191, mh188⟩ := zk_o2 mh188
                          obtain mq192 := bk12_e (hB12 hi) mh191
                          replace mq192 := mq192.symm
                          subst mq192
                          obtain ⟨mv193, mv194, mh195, mh188⟩ := zk_o2 mh188
                          unfold f_X12_isUnder at mh195
                          unfold B_X12_isUnder_0 at mh195
                          have mh195 := zk_f (by decide) mh195
                          have mh195 := zk_f (by decide) mh195
                          have mh195 := zk_f (by decide) mh195
                          unfold B_X12_isUnder_19 at mh195
                          have mh195 := zk_t rfl mh195
                          have mh195 := zk_f (by decide) mh195
                          unfold B_X12_isUnder_29 at mh195
                          have mh195 := zk_f (by decide) mh195
                          simp only [Option.some.injEq, Prod.mk.injEq] at mh195
                          obtain ⟨rfl, _⟩ := mh195
                          have mh188 := zk_t rfl mh188
                          obtain ⟨mv196, mv197, mv198, mh199, mh188⟩ := zk_o3 mh188
                          unfold f_X12_plainBinds at mh199
                          unfold B_X12_plainBinds_0 at mh199
                          obtain ⟨mv200, mv201, mh202, mh199⟩ := zk_o2 mh199
                          unfold f_X12_ran at mh202
                          unfold B_X12_ran_0 at mh202
                          have mh202 := zk_f (by decide) mh202
                          obtain ⟨_, mh202⟩ := zk_gd mh202
                          obtain ⟨mv203, me204, mh202⟩ := zk_lt mh202
                          subst me204
                          unfold B_X12_ran_19 at mh202
                          obtain ⟨mv205, me206, mh202⟩ := zk_lt mh202
                          subst me206
                          simp only [Option.some.injEq, Prod.mk.injEq] at mh202
                          obtain ⟨rfl, rfl⟩ := mh202
                          simp only [Option.some.injEq, Prod.mk.injEq] at mh199
                          obtain ⟨rfl, rfl, rfl⟩ := mh199
                          simp only [Option.some.injEq, Prod.mk.injEq] at mh188
                          obtain ⟨rfl, rfl, rfl⟩ := mh188
                          simp only [Option.some.injEq, Prod.mk.injEq] at mh139
                          obtain ⟨rfl, rfl, rfl⟩ := mh139
                          simp only [Option.some.injEq, Prod.mk.injEq] at mh131
                          obtain ⟨rfl, rfl, rfl⟩ := mh131
                          replace h := Option.some.inj h
                          replace k := Option.some.inj k
                          subst h
                          subst k
                          try dsimp only
                          all_goals first
                          | (exfalso; omega)
                          | exact ⟨rfl, rfl, fun e => by first | exact e | rw [e]⟩
                          | exact ⟨rfl, rfl, fun e => by rw [e]; rfl⟩
                      · replace h := zk_f cc62 h
                        have cc62n := cc62
                        (try simp only [i32_lt, i32_le, i32_e, z32_0, z32_1, z32L_3] at cc62n)
                        first
                        | (exfalso; omega)
                        | have hi : x1.toNatClampNeg < court_suitCount.toInt.toNat := by rw [tcn]; omega
                          have ea : mod_askedMany x1.toNatClampNeg = S_askedCount x1.toNatClampNeg := (hA _ hi).symm
                          unfold B_X12_act_0 at k
                          replace k := zk_o2 k
                          obtain ⟨mv207, mv208, mh209, k⟩ := k
                          unfold f_X12_isSuit at mh209
                          unfold B_X12_isSuit_0 at mh209
                          obtain ⟨mv210, mv211, mh212, mh209⟩ := zk_o2 mh209
                          unfold f_X12_in at mh212
                          unfold B_X12_in_0 at mh212
                          have mh212 := zk_f cc4 mh212
                          have mh212 := zk_f (by (try simp only [i32_lt, i32_le, i32_e, z32_0, z32_1]); omega) mh212
                          simp only [Option.some.injEq, Prod.mk.injEq] at mh212
                          obtain ⟨rfl, _⟩ := mh212
                          obtain ⟨_, mh209⟩ := zk_gd mh209
                          simp only [Option.some.injEq, Prod.mk.injEq] at mh209
                          obtain ⟨rfl, _⟩ := mh209
                          replace k := zk_f (by decide) k
                          replace k := zk_o2 k
                          obtain ⟨mv213, mv214, mh215, k⟩ := k
                          unfold f_X12_in at mh215
                          unfold B_X12_in_0 at mh215
                          by_cases mc216 : x2 < (0 : Int32)
                          · have mh215 := zk_t mc216 mh215
                            have mc216n := mc216
                            (try simp only [i32_lt, i32_le, i32_e, z32_0, z32_1] at mc216n)
                            first
                            | (exfalso; omega)
                            | simp only [Option.some.injEq, Prod.mk.injEq] at mh215
                              obtain ⟨rfl, _⟩ := mh215
                              replace k := zk_t rfl k
                              replace h := Option.some.inj h
                              replace k := Option.some.inj k
                              subst h
                              subst k
                              try dsimp only
                              all_goals first
                              | (exfalso; omega)
                              | exact ⟨rfl, rfl, fun e => by first | exact e | rw [e]⟩
                              | exact ⟨rfl, rfl, fun e => by rw [e]; rfl⟩
                          · have mh215 := zk_f mc216 mh215
                            have mc216n := mc216
                            (try simp only [i32_lt, i32_le, i32_e, z32_0, z32_1] at mc216n)
                            first
                            | (exfalso; omega)
                            | by_cases mc217 : (3 : Int32) < x2
                              · have mh215 := zk_t mc217 mh215
                                have mc217n := mc217
                                (try simp only [i32_lt, i32_le, i32_e, z32_0, z32_1, z32L_3] at mc217n)
                                first
                                | (exfalso; omega)
                                | simp only [Option.some.injEq, Prod.mk.injEq] at mh215
                                  obtain ⟨rfl, _⟩ := mh215
                                  replace k := zk_t rfl k
                                  replace h := Option.some.inj h
                                  replace k := Option.some.inj k
                                  subst h
                                  subst k
                                  try dsimp only
                                  all_goals first
                                  | (exfalso; omega)
                                  | exact ⟨rfl, rfl, fun e => by first | exact e | rw [e]⟩
                                  | exact ⟨rfl, rfl, fun e => by rw [e]; rfl⟩
                              · have mh215 := zk_f mc217 mh215
                                have mc217n := mc217
                                (try simp only [i32_lt, i32_le, i32_e, z32_0, z32_1, z32L_3] at mc217n)
                                first
                                | (exfalso; omega)
                                | simp only [Option.some.injEq, Prod.mk.injEq] at mh215
                                  obtain ⟨rfl, _⟩ := mh215
                                  replace k := zk_f (by decide) k
                                  replace k := zk_f cc15 k
                                  replace k := zk_f cc27 k
                                  replace k := zk_f cc50 k
                                  replace k := zk_o3 k
                                  obtain ⟨mv218, mv219, mv220, mh221, k⟩ := k
                                  unfold f_X12_tells at mh221
                                  unfold B_X12_tells_0 at mh221
                                  obtain ⟨mv222, mv223, mh224, mh221⟩ := zk_o2 mh221
                                  obtain mq225 := bk12_e (hB12 hi) mh224
                                  replace mq225 := mq225.symm
                                  subst mq225
                                  have mh221 := zk_f (by decide) mh221
                                  obtain ⟨mv226, mv227, mv228, mh229, mh221⟩ := zk_o3 mh221
                                  unfold f_X12_plainTells at mh229
                                  unfold B_X12_plainTells_0 at mh229
                                  obtain ⟨mv230, mv231, mh232, mh229⟩ := zk_o2 mh229
                                  unfold f_X12_ran at mh232
                                  unfold B_X12_ran_0 at mh232
                                  have mh232 := zk_f (by decide) mh232
                                  obtain ⟨_, mh232⟩ := zk_gd mh232
                                  obtain ⟨mv233, me234, mh232⟩ := zk_lt mh232
                                  subst me234
                                  unfold B_X12_ran_19 at mh232
                                  obtain ⟨mv235, me236, mh232⟩ := zk_lt mh232
                                  subst me236
                                  simp only [Option.some.injEq, Prod.mk.injEq] at mh232
                                  obtain ⟨rfl, rfl⟩ := mh232
                                  obtain ⟨mv237, mv238, mv239, mh240, mh229⟩ := zk_o3 mh229
                                  unfold f_X12_settles at mh240
                                  unfold B_X12_settles_0 at mh240
                                  obtain ⟨mv241, mv242, mh243, mh240⟩ := zk_o2 mh240
                                  obtain mq244 := bk12_e (hB12 hi) mh243
                                  replace mq244 := mq244.symm
                                  subst mq244
                                  have mh240 := zk_f (by decide) mh240
                                  have mh240 := zk_f (by decide) mh240
                                  have mh240 := zk_f (by decide) mh240
                                  obtain ⟨mv245, mv246, mv247, mh248, mh240⟩ := zk_o3 mh240
                                  unfold f_X12_plainSettles at mh248
                                  unfold B_X12_plainSettles_0 at mh248
                                  obtain ⟨mv249, mv250, mh251, mh248⟩ := zk_o2 mh248
                                  unfold f_X12_ran at mh251
                                  unfold B_X12_ran_0 at mh251
                                  have mh251 := zk_f (by decide) mh251
                                  obtain ⟨_, mh251⟩ := zk_gd mh251
                                  obtain ⟨mv252, me253, mh251⟩ := zk_lt mh251
                                  subst me253
                                  unfold B_X12_ran_19 at mh251
                                  obtain ⟨mv254, me255, mh251⟩ := zk_lt mh251
                                  subst me255
                                  simp only [Option.some.injEq, Prod.mk.injEq] at mh251
                                  obtain ⟨rfl, rfl⟩ := mh251
                                  obtain ⟨mv256, mv257, mv258, mh259, mh248⟩ := zk_o3 mh248
                                  unfold f_X12_closes at mh259
                                  unfold B_X12_closes_0 at mh259
                                  rw [ea] at mh259
                                  obtain ⟨mv260, mv261, mh262, mh259⟩ := zk_o2 mh259
                                  obtain mq263 := bk12_e (hB12 hi) mh262
                                  replace mq263 := mq263.symm
                                  subst mq263
                                  have mh259 := zk_f (by decide) mh259
                                  have mh259 := zk_f (by decide) mh259
                                  have mh259 := zk_f (by decide) mh259
                                  have mh259 := zk_f (by decide) mh259
                                  obtain ⟨mv264, mv265, mv266, mh267, mh259⟩ := zk_o3 mh259
                                  unfold f_X12_plainCloses at mh267
                                  unfold B_X12_plainCloses_0 at mh267
                                  obtain ⟨mv268, mv269, mh270, mh267⟩ := zk_o2 mh267
                                  unfold f_X12_ran at mh270
                                  unfold B_X12_ran_0 at mh270
                                  have mh270 := zk_f (by decide) mh270
                                  obtain ⟨_, mh270⟩ := zk_gd mh270
                                  obtain ⟨mv271, me272, mh270⟩ := zk_lt mh270
                                  subst me272
                                  unfold B_X12_ran_19 at mh270
                                  obtain ⟨mv273, me274, mh270⟩ := zk_lt mh270
                                  subst me274
                                  simp only [Option.some.injEq, Prod.mk.injEq] at mh270
                                  obtain ⟨rfl, rfl⟩ := mh270
                                  simp only [Option.some.injEq, Prod.mk.injEq] at mh267
                                  obtain ⟨rfl, rfl, rfl⟩ := mh267
                                  simp only [Option.some.injEq, Prod.mk.injEq] at mh259
                                  obtain ⟨rfl, rfl, rfl⟩ := mh259
                                  simp only [Option.some.injEq, Prod.mk.injEq] at mh248
                                  obtain ⟨rfl, rfl, rfl⟩ := mh248
                                  simp only [Option.some.injEq, Prod.mk.injEq] at mh240
                                  obtain ⟨rfl, rfl, rfl⟩ := mh240
                                  obtain ⟨mv275, mv276, mv277, mh278, mh229⟩ := zk_o3 mh229
                                  unfold f_X12_binds at mh278
                                  unfold B_X12_binds_0 at mh278
                                  obtain ⟨mv279, mv280, mh281, mh278⟩ := zk_o2 mh278
                                  obtain mq282 := bk12_e (hB12 hi) mh281
                                  replace mq282 := mq282.symm
                                  subst mq282
                                  obtain ⟨mv283, mv284, mh285, mh278⟩ := zk_o2 mh278
                                  unfold f_X12_isUnder at mh285
                                  unfold B_X12_isUnder_0 at mh285
                                  have mh285 := zk_f (by decide) mh285
                                  have mh285 := zk_f (by decide) mh285
                                  have mh285 := zk_f (by decide) mh285
                                  unfold B_X12_isUnder_19 at mh285
                                  have mh285 := zk_t rfl mh285
                                  have mh285 := zk_f (by decide) mh285
                                  unfold B_X12_isUnder_29 at mh285
                                  have mh285 := zk_f (by decide) mh285
                                  simp only [Option.some.injEq, Prod.mk.injEq] at mh285
                                  obtain ⟨rfl, _⟩ := mh285
                                  have mh278 := zk_t rfl mh278
                                  obtain ⟨mv286, mv287, mv288, mh289, mh278⟩ := zk_o3 mh278
                                  unfold f_X12_plainBinds at mh289
                                  unfold B_X12_plainBinds_0 at mh289
                                  obtain ⟨mv290, mv291, mh292, mh289⟩ := zk_o2 mh289
                                  unfold f_X12_ran at mh292
                                  unfold B_X12_ran_0 at mh292
                                  have mh292 := zk_f (by decide) mh292
                                  obtain ⟨_, mh292⟩ := zk_gd mh292
                                  obtain ⟨mv293, me294, mh292⟩ := zk_lt mh292
                                  subst me294
                                  unfold B_X12_ran_19 at mh292
                                  obtain ⟨mv295, me296, mh292⟩ := zk_lt mh292
                                  subst me296
                                  simp only [Option.some.injEq, Prod.mk.injEq] at mh292
                                  obtain ⟨rfl, rfl⟩ := mh292
                                  simp only [Option.some.injEq, Prod.mk.injEq] at mh289
                                  obtain ⟨rfl, rfl, rfl⟩ := mh289
                                  simp only [Option.some.injEq, Prod.mk.injEq] at mh278
                                  obtain ⟨rfl, rfl, rfl⟩ := mh278
                                  simp only [Option.some.injEq, Prod.mk.injEq] at mh229
                                  obtain ⟨rfl, rfl, rfl⟩ := mh229
                                  simp only [Option.some.injEq, Prod.mk.injEq] at mh221
                                  obtain ⟨rfl, rfl, rfl⟩ := mh221
                                  replace h := Option.some.inj h
                                  replace k := Option.some.inj k
                                  subst h
                                  subst k
                                  try dsimp only
                                  all_goals first
                                  | (exfalso; omega)
                                  | exact ⟨rfl, rfl, fun e => by first | exact e | rw [e]⟩
                                  | exact ⟨rfl, rfl, fun e => by rw [e]; rfl⟩
