
set_option maxHeartbeats 4000000 in
set_option maxRecDepth 20000 in
theorem pw_undo {mod_code : Int32} {court_shoeCount : Int32} {mod_claims : Int32} {ts : Int32} {at_ : Int32} {f : Int32} {court_suitCount : Int32} {mod_undoneMany : Int32} {mod_open : Int32} {mod_laid : Int32} {mod_isBoth : Int32} {mod_wished : Int32} {mod_bestMany : Int32} {mod_bestRow : Int32} {mod_ringDigits : Int32} {mod_traces : Int32} {mod_shoeDay : Nat → Int32} {mod_isWon : Nat → Int32} {mod_undoneFrom : Nat → Int32} {court_claimCount : Int32} {court_shoeDay : Nat → Int32} {court_suits : Nat → Option Nat} {S_who : Nat → Int32} {S_against : Nat → Int32} {S_kind : Nat → Int32} {S_won : Nat → Int32} {S_day : Nat → Int32} {S_land : Nat → Int32} {S_undoneFrom : Nat → Int32} {S_asked : Nat → Nat → Int32} {S_askedCount : Nat → Int32} {S_askedBits : Nat → Int32} {S_first : Nat → Int32} {S_foundSo : Nat → Int32} {S_foundNot : Nat → Int32} {S_fought : Nat → Int32} {S_needed : Nat → Int32} {chg_done : Int32} {chg_size : Int32} {chg_sorts : Nat → Int32} {chg_numbers : Nat → Int32} {chg_befores : Nat → Int32} (hd : 0 ≤ chg_done.toInt ∧ chg_done.toInt ≤ 40) (hsz : chg_size.toInt = chg_done.toInt + mod_undoneMany.toInt) (hu : 0 ≤ mod_undoneMany.toInt ∧ chg_size.toInt ≤ 40) (hV : CV chg_size court_shoeCount court_suitCount chg_sorts chg_numbers) {R : Int32 × (Nat → Int32) × Int32 × (Nat → Int32) × (Nat → Int32)} {Q : Int32 × Int32 × Int32 × (Nat → Int32) × (Nat → Int32) × (Nat → Int32)} (h : f_X11_undo court_shoeCount court_claimCount court_suitCount court_shoeDay court_suits chg_done chg_size chg_sorts chg_numbers chg_befores S_who S_against S_kind S_won S_day S_land S_undoneFrom S_asked S_askedCount S_askedBits S_first S_foundSo S_foundNot S_fought S_needed = some R) (k : f_X12_undo mod_code court_shoeCount mod_claims ts at_ f court_suitCount chg_done mod_undoneMany mod_open mod_laid mod_isBoth mod_wished mod_bestMany mod_bestRow mod_ringDigits mod_traces mod_shoeDay mod_isWon mod_undoneFrom chg_sorts chg_numbers chg_befores = some Q) : R.1 = Q.1 ∧ R.2.2.1 = Q.2.1 ∧ chg_size.toInt = Q.2.1.toInt + Q.2.2.1.toInt ∧ (court_shoeDay = mod_shoeDay → R.2.1 = Q.2.2.2.1) ∧ (WU court_suitCount S_won mod_isWon → WU court_suitCount R.2.2.2.1 Q.2.2.2.2.1) ∧ (WU court_suitCount S_undoneFrom mod_undoneFrom → WU court_suitCount R.2.2.2.2 Q.2.2.2.2.2) := by
  have hm1 := i32_m1 (a := chg_done) (by omega)
  have hm2 := i32_m1 (a := mod_undoneMany) (by omega)
  have hp1 := i32_s (a := chg_done) (by omega)
  have hp2 := i32_s (a := mod_undoneMany) (by omega)
  have hp3 : 0 ≤ (chg_done + 1).toInt → (chg_done + 1).toInt ≤ 100 → (chg_size - (chg_done + 1)).toInt = chg_size.toInt - (chg_done + 1).toInt := fun _ _ => i32_d (by omega) (by omega)
  unfold f_X11_undo at h
  unfold f_X12_undo at k
  unfold B_X11_undo_0 at h
  replace h := zk_o5 h
  obtain ⟨cv1, cv2, cv3, cv4, cv5, ch6, h⟩ := h
  unfold f_X1_back at ch6
  unfold B_X1_back_0 at ch6
  by_cases cc7 : 0 < chg_done
  · have ch6 := zk_t cc7 ch6
    have cc7n := cc7
    (try simp only [i32_lt, i32_le, i32_e, z32_0, z32_1] at cc7n)
    first
    | (exfalso; omega)
    | obtain ⟨cv8, ce9, ch6⟩ := zk_lt ch6
      subst ce9
      obtain ⟨_, ch6⟩ := zk_gd ch6
      obtain ⟨_, ch6⟩ := zk_gd ch6
      obtain ⟨_, ch6⟩ := zk_gd ch6
      obtain ⟨cv10, cv11, cv12, ch13, ch6⟩ := zk_o3 ch6
      skip
      simp only [Option.some.injEq, Prod.mk.injEq] at ch6
      obtain ⟨rfl, rfl, rfl, rfl, rfl⟩ := ch6
      unfold B_X12_undo_0 at k
      replace k := zk_f (by (try simp only [i32_lt, i32_le, i32_e, z32_0, z32_1]); omega) k
      replace k := zk_lt k
      obtain ⟨mv1, me2, k⟩ := k
      subst me2
      replace k := zk_lt k
      obtain ⟨mv3, me4, k⟩ := k
      subst me4
      replace k := zk_gd k
      obtain ⟨_, k⟩ := k
      replace k := zk_gd k
      obtain ⟨_, k⟩ := k
      replace k := zk_gd k
      obtain ⟨_, k⟩ := k
      replace k := zk_o3 k
      obtain ⟨mv5, mv6, mv7, mh8, k⟩ := k
      skip
      have hk := hV (chg_done - 1).toNatClampNeg (by rw [tcn]; omega)
      obtain ⟨t1, t2, t3⟩ := pw_set hk.1 hk.2.1 hk.2.2 ch13 mh8
      replace h := Option.some.inj h
      replace k := Option.some.inj k
      subst h
      subst k
      try dsimp only
      all_goals first
      | (exfalso; omega)
      | exact ⟨rfl, rfl, by (try dsimp only); omega, t1, t2, t3⟩
  · have ch6 := zk_f cc7 ch6
    have cc7n := cc7
    (try simp only [i32_lt, i32_le, i32_e, z32_0, z32_1] at cc7n)
    first
    | (exfalso; omega)
    | simp only [Option.some.injEq, Prod.mk.injEq] at ch6
      obtain ⟨rfl, rfl, rfl, rfl, rfl⟩ := ch6
      unfold B_X12_undo_0 at k
      by_cases mc9 : chg_done = 0
      · replace k := zk_t mc9 k
        have mc9n := mc9
        (try simp only [i32_lt, i32_le, i32_e, z32_0, z32_1] at mc9n)
        first
        | (exfalso; omega)
        | have h := Option.some.inj h
          replace k := Option.some.inj k
          subst h
          subst k
          try dsimp only
          all_goals first
          | (exfalso; omega)
          | exact ⟨rfl, rfl, hsz, fun e => e, fun w => w, fun w => w⟩
      · replace k := zk_f mc9 k
        have mc9n := mc9
        (try simp only [i32_lt, i32_le, i32_e, z32_0, z32_1] at mc9n)
        first
        | (exfalso; omega)
        | obtain ⟨mv10, me11, k⟩ := zk_lt k
          subst me11
          replace k := zk_lt k
          obtain ⟨mv12, me13, k⟩ := k
          subst me13
          replace k := zk_gd k
          obtain ⟨_, k⟩ := k
          replace k := zk_gd k
          obtain ⟨_, k⟩ := k
          replace k := zk_gd k
          obtain ⟨_, k⟩ := k
          replace k := zk_o3 k
          obtain ⟨mv14, mv15, mv16, mh17, k⟩ := k
          skip
          replace h := Option.some.inj h
          replace k := Option.some.inj k
          subst h
          subst k
          try dsimp only
          all_goals first
          | (exfalso; omega)
          | exact ⟨rfl, rfl, hsz, fun e => e, fun w => w, fun w => w⟩
set_option maxHeartbeats 4000000 in
set_option maxRecDepth 20000 in
theorem pw_redo {mod_code : Int32} {court_shoeCount : Int32} {mod_claims : Int32} {ts : Int32} {at_ : Int32} {f : Int32} {court_suitCount : Int32} {mod_undoneMany : Int32} {mod_open : Int32} {mod_laid : Int32} {mod_isBoth : Int32} {mod_wished : Int32} {mod_bestMany : Int32} {mod_bestRow : Int32} {mod_ringDigits : Int32} {mod_traces : Int32} {mod_shoeDay : Nat → Int32} {mod_isWon : Nat → Int32} {mod_undoneFrom : Nat → Int32} {court_claimCount : Int32} {court_shoeDay : Nat → Int32} {court_suits : Nat → Option Nat} {S_who : Nat → Int32} {S_against : Nat → Int32} {S_kind : Nat → Int32} {S_won : Nat → Int32} {S_day : Nat → Int32} {S_land : Nat → Int32} {S_undoneFrom : Nat → Int32} {S_asked : Nat → Nat → Int32} {S_askedCount : Nat → Int32} {S_askedBits : Nat → Int32} {S_first : Nat → Int32} {S_foundSo : Nat → Int32} {S_foundNot : Nat → Int32} {S_fought : Nat → Int32} {S_needed : Nat → Int32} {chg_done : Int32} {chg_size : Int32} {chg_sorts : Nat → Int32} {chg_numbers : Nat → Int32} {chg_afters : Nat → Int32} (hd : 0 ≤ chg_done.toInt ∧ chg_done.toInt ≤ 40) (hsz : chg_size.toInt = chg_done.toInt + mod_undoneMany.toInt) (hu : 0 ≤ mod_undoneMany.toInt ∧ chg_size.toInt ≤ 40) (hV : CV chg_size court_shoeCount court_suitCount chg_sorts chg_numbers) {R : Int32 × (Nat → Int32) × Int32 × (Nat → Int32) × (Nat → Int32)} {Q : Int32 × Int32 × Int32 × (Nat → Int32) × (Nat → Int32) × (Nat → Int32)} (h : f_X11_redo court_shoeCount court_claimCount court_suitCount court_shoeDay court_suits chg_done chg_size chg_sorts chg_numbers chg_afters S_who S_against S_kind S_won S_day S_land S_undoneFrom S_asked S_askedCount S_askedBits S_first S_foundSo S_foundNot S_fought S_needed = some R) (k : f_X12_redo mod_code court_shoeCount mod_claims ts at_ f court_suitCount chg_done mod_undoneMany mod_open mod_laid mod_isBoth mod_wished mod_bestMany mod_bestRow mod_ringDigits mod_traces mod_shoeDay mod_isWon mod_undoneFrom chg_sorts chg_numbers chg_afters = some Q) : R.1 = Q.1 ∧ R.2.2.1 = Q.2.1 ∧ chg_size.toInt = Q.2.1.toInt + Q.2.2.1.toInt ∧ (court_shoeDay = mod_shoeDay → R.2.1 = Q.2.2.2.1) ∧ (WU court_suitCount S_won mod_isWon → WU court_suitCount R.2.2.2.1 Q.2.2.2.2.1) ∧ (WU court_suitCount S_undoneFrom mod_undoneFrom → WU court_suitCount R.2.2.2.2 Q.2.2.2.2.2) := by
  have hm1 := i32_m1 (a := chg_done) (by omega)
  have hm2 := i32_m1 (a := mod_undoneMany) (by omega)
  have hp1 := i32_s (a := chg_done) (by omega)
  have hp2 := i32_s (a := mod_undoneMany) (by omega)
  have hp3 : 0 ≤ (chg_done + 1).toInt → (chg_done + 1).toInt ≤ 100 → (chg_size - (chg_done + 1)).toInt = chg_size.toInt - (chg_done + 1).toInt := fun _ _ => i32_d (by omega) (by omega)
  unfold f_X11_redo at h
  unfold f_X12_redo at k
  unfold B_X11_redo_0 at h
  replace h := zk_o5 h
  obtain ⟨cv1, cv2, cv3, cv4, cv5, ch6, h⟩ := h
  unfold f_X1_again at ch6
  unfold B_X1_again_0 at ch6
  by_cases cc7 : chg_done < chg_size
  · have ch6 := zk_t cc7 ch6
    have cc7n := cc7
    (try simp only [i32_lt, i32_le, i32_e, z32_0, z32_1] at cc7n)
    first
    | (exfalso; omega)
    | obtain ⟨_, ch6⟩ := zk_gd ch6
      obtain ⟨_, ch6⟩ := zk_gd ch6
      obtain ⟨_, ch6⟩ := zk_gd ch6
      obtain ⟨cv8, cv9, cv10, ch11, ch6⟩ := zk_o3 ch6
      skip
      obtain ⟨cv12, ce13, ch6⟩ := zk_lt ch6
      subst ce13
      simp only [Option.some.injEq, Prod.mk.injEq] at ch6
      obtain ⟨rfl, rfl, rfl, rfl, rfl⟩ := ch6
      unfold B_X12_redo_0 at k
      by_cases mc1 : mod_undoneMany = 0
      · replace k := zk_t mc1 k
        have mc1n := mc1
        (try simp only [i32_lt, i32_le, i32_e, z32_0, z32_1] at mc1n)
        first
        | (exfalso; omega)
        | have h := Option.some.inj h
          replace k := Option.some.inj k
          subst h
          subst k
          try dsimp only
          all_goals first
          | (exfalso; omega)
          | exact ⟨rfl, rfl, hsz, fun e => e, fun w => w, fun w => w⟩
      · replace k := zk_f mc1 k
        have mc1n := mc1
        (try simp only [i32_lt, i32_le, i32_e, z32_0, z32_1] at mc1n)
        first
        | (exfalso; omega)
        | obtain ⟨_, k⟩ := zk_gd k
          replace k := zk_gd k
          obtain ⟨_, k⟩ := k
          replace k := zk_gd k
          obtain ⟨_, k⟩ := k
          replace k := zk_o3 k
          obtain ⟨mv2, mv3, mv4, mh5, k⟩ := k
          skip
          replace k := zk_lt k
          obtain ⟨mv6, me7, k⟩ := k
          subst me7
          replace k := zk_lt k
          obtain ⟨mv8, me9, k⟩ := k
          subst me9
          have hk := hV chg_done.toNatClampNeg (by rw [tcn]; omega)
          obtain ⟨t1, t2, t3⟩ := pw_set hk.1 hk.2.1 hk.2.2 ch11 mh5
          replace h := Option.some.inj h
          replace k := Option.some.inj k
          subst h
          subst k
          try dsimp only
          all_goals first
          | (exfalso; omega)
          | exact ⟨(by rw [i32_e]; (try dsimp only); omega), rfl, by (try dsimp only); omega, t1, t2, t3⟩
  · have ch6 := zk_f cc7 ch6
    have cc7n := cc7
    (try simp only [i32_lt, i32_le, i32_e, z32_0, z32_1] at cc7n)
    first
    | (exfalso; omega)
    | simp only [Option.some.injEq, Prod.mk.injEq] at ch6
      obtain ⟨rfl, rfl, rfl, rfl, rfl⟩ := ch6
      unfold B_X12_redo_0 at k
      by_cases mc10 : mod_undoneMany = 0
      · replace k := zk_t mc10 k
        have mc10n := mc10
        (try simp only [i32_lt, i32_le, i32_e, z32_0, z32_1] at mc10n)
        first
        | (exfalso; omega)
        | have h := Option.some.inj h
          replace k := Option.some.inj k
          subst h
          subst k
          try dsimp only
          all_goals first
          | (exfalso; omega)
          | exact ⟨rfl, rfl, hsz, fun e => e, fun w => w, fun w => w⟩
      · replace k := zk_f mc10 k
        have mc10n := mc10
        (try simp only [i32_lt, i32_le, i32_e, z32_0, z32_1] at mc10n)
        first
        | (exfalso; omega)
        | obtain ⟨_, k⟩ := zk_gd k
          replace k := zk_gd k
          obtain ⟨_, k⟩ := k
          replace k := zk_gd k
          obtain ⟨_, k⟩ := k
          replace k := zk_o3 k
          obtain ⟨mv11, mv12, mv13, mh14, k⟩ := k
          skip
          replace k := zk_lt k
          obtain ⟨mv15, me16, k⟩ := k
          subst me16
          replace k := zk_lt k
          obtain ⟨mv17, me18, k⟩ := k
          subst me18
          replace h := Option.some.inj h
          replace k := Option.some.inj k
          subst h
          subst k
          try dsimp only
          all_goals first
          | (exfalso; omega)
          | exact ⟨rfl, rfl, hsz, fun e => e, fun w => w, fun w => w⟩
set_option maxHeartbeats 4000000 in
set_option maxRecDepth 20000 in
theorem pw_moveShoe {mod_code : Int32} {court_shoeCount : Int32} {mod_claims : Int32} {ts : Int32} {at_ : Int32} {f : Int32} {court_suitCount : Int32} {mod_undoneMany : Int32} {mod_open : Int32} {mod_laid : Int32} {mod_isBoth : Int32} {mod_wished : Int32} {mod_bestMany : Int32} {mod_bestRow : Int32} {mod_ringDigits : Int32} {mod_traces : Int32} {mod_shoeDay : Nat → Int32} {mod_isWon : Nat → Int32} {mod_undoneFrom : Nat → Int32} {court_claimCount : Int32} {court_shoeDay : Nat → Int32} {court_suits : Nat → Option Nat} {S_who : Nat → Int32} {S_against : Nat → Int32} {S_kind : Nat → Int32} {S_won : Nat → Int32} {S_day : Nat → Int32} {S_land : Nat → Int32} {S_undoneFrom : Nat → Int32} {S_asked : Nat → Nat → Int32} {S_askedCount : Nat → Int32} {S_askedBits : Nat → Int32} {S_first : Nat → Int32} {S_foundSo : Nat → Int32} {S_foundNot : Nat → Int32} {S_fought : Nat → Int32} {S_needed : Nat → Int32} {chg_done : Int32} {chg_size : Int32} {chg_sorts : Nat → Int32} {chg_numbers : Nat → Int32} {chg_befores : Nat → Int32} {chg_afters : Nat → Int32} {x1 x2 : Int32} (hde : court_shoeDay = mod_shoeDay) (hn : 0 ≤ court_suitCount.toInt ∧ court_suitCount.toInt ≤ 40) (hc : 0 ≤ court_shoeCount.toInt ∧ court_shoeCount.toInt ≤ 40) (hd : 0 ≤ chg_done.toInt ∧ chg_done.toInt ≤ 40) (hsz : chg_size.toInt = chg_done.toInt + mod_undoneMany.toInt) (hu : 0 ≤ mod_undoneMany.toInt ∧ chg_size.toInt ≤ 40) (hV : CV chg_size court_shoeCount court_suitCount chg_sorts chg_numbers) {R : Int32 × (Nat → Int32) × Int32 × Int32 × (Nat → Int32) × (Nat → Int32) × (Nat → Int32) × (Nat → Int32) × (Nat → Int32) × (Nat → Int32)} {Q : Int32 × Int32 × Int32 × (Nat → Int32) × (Nat → Int32) × (Nat → Int32) × (Nat → Int32) × (Nat → Int32) × (Nat → Int32) × (Nat → Int32)} (h : f_X11_moveShoe x1 x2 court_shoeCount court_claimCount court_suitCount court_shoeDay court_suits chg_done chg_size chg_sorts chg_numbers chg_befores chg_afters S_who S_against S_kind S_won S_day S_land S_undoneFrom S_asked S_askedCount S_askedBits S_first S_foundSo S_foundNot S_fought S_needed = some R) (k : f_X12_moveShoe x1 x2 mod_code court_shoeCount mod_claims ts at_ f court_suitCount chg_done mod_undoneMany mod_open mod_laid mod_isBoth mod_wished mod_bestMany mod_bestRow mod_ringDigits mod_traces mod_shoeDay mod_isWon mod_undoneFrom chg_sorts chg_numbers chg_befores chg_afters = some Q) : R.1 = Q.1 ∧ R.2.2.1 = Q.2.1 ∧ R.2.2.2.1.toInt = Q.2.1.toInt + Q.2.2.1.toInt ∧ R.2.2.2.2.1 = Q.2.2.2.2.2.2.1 ∧ R.2.2.2.2.2.1 = Q.2.2.2.2.2.2.2.1 ∧ R.2.2.2.2.2.2.1 = Q.2.2.2.2.2.2.2.2.1 ∧ R.2.2.2.2.2.2.2.1 = Q.2.2.2.2.2.2.2.2.2 ∧ CV R.2.2.2.1 court_shoeCount court_suitCount R.2.2.2.2.1 R.2.2.2.2.2.1 ∧ (court_shoeDay = mod_shoeDay → R.2.1 = Q.2.2.2.1) ∧ (WU court_suitCount S_won mod_isWon → WU court_suitCount R.2.2.2.2.2.2.2.2.1 Q.2.2.2.2.1) ∧ (WU court_suitCount S_undoneFrom mod_undoneFrom → WU court_suitCount R.2.2.2.2.2.2.2.2.2 Q.2.2.2.2.2.1) := by
  have hn1 := i32_m1 (a := court_suitCount) (by omega)
  have hc1 := i32_m1 (a := court_shoeCount) (by omega)
  unfold f_X11_moveShoe at h
  unfold f_X12_moveShoe at k
  unfold B_X11_moveShoe_0 at h
  replace h := zk_o2 h
  obtain ⟨cv1, cv2, ch3, h⟩ := h
  unfold f_X11_isShoeNumber at ch3
  unfold B_X11_isShoeNumber_0 at ch3
  by_cases cc4 : x1 < 0
  · have ch3 := zk_t cc4 ch3
    have cc4n := cc4
    (try simp only [i32_lt, i32_le, i32_e, z32_0, z32_1] at cc4n)
    first
    | (exfalso; omega)
    | simp only [Option.some.injEq, Prod.mk.injEq] at ch3
      obtain ⟨rfl, _⟩ := ch3
      replace h := zk_t rfl h
      unfold B_X12_moveShoe_0 at k
      replace k := zk_o2 k
      obtain ⟨mv1, mv2, mh3, k⟩ := k
      unfold f_X12_isShoe at mh3
      unfold B_X12_isShoe_0 at mh3
      obtain ⟨mv4, mv5, mh6, mh3⟩ := zk_o2 mh3
      unfold f_X12_in at mh6
      unfold B_X12_in_0 at mh6
      have mh6 := zk_t cc4 mh6
      simp only [Option.some.injEq, Prod.mk.injEq] at mh6
      obtain ⟨rfl, _⟩ := mh6
      obtain ⟨_, mh3⟩ := zk_gd mh3
      simp only [Option.some.injEq, Prod.mk.injEq] at mh3
      obtain ⟨rfl, _⟩ := mh3
      replace k := zk_t rfl k
      replace h := Option.some.inj h
      replace k := Option.some.inj k
      subst h
      subst k
      try dsimp only
      all_goals first
      | (exfalso; omega)
      | exact ⟨rfl, rfl, hsz, rfl, rfl, rfl, rfl, hV, fun e => e, fun w => w, fun w => w⟩
  · have ch3 := zk_f cc4 ch3
    have cc4n := cc4
    (try simp only [i32_lt, i32_le, i32_e, z32_0, z32_1] at cc4n)
    first
    | (exfalso; omega)
    | by_cases cc5 : court_shoeCount ≤ x1
      · have ch3 := zk_t cc5 ch3
        have cc5n := cc5
        (try simp only [i32_lt, i32_le, i32_e, z32_0, z32_1] at cc5n)
        first
        | (exfalso; omega)
        | simp only [Option.some.injEq, Prod.mk.injEq] at ch3
          obtain ⟨rfl, _⟩ := ch3
          replace h := zk_t rfl h
          unfold B_X12_moveShoe_0 at k
          replace k := zk_o2 k
          obtain ⟨mv7, mv8, mh9, k⟩ := k
          unfold f_X12_isShoe at mh9
          unfold B_X12_isShoe_0 at mh9
          obtain ⟨mv10, mv11, mh12, mh9⟩ := zk_o2 mh9
          unfold f_X12_in at mh12
          unfold B_X12_in_0 at mh12
          have mh12 := zk_f cc4 mh12
          have mh12 := zk_t (by (try simp only [i32_lt, i32_le, i32_e, z32_0, z32_1]); omega) mh12
          simp only [Option.some.injEq, Prod.mk.injEq] at mh12
          obtain ⟨rfl, _⟩ := mh12
          obtain ⟨_, mh9⟩ := zk_gd mh9
          simp only [Option.some.injEq, Prod.mk.injEq] at mh9
          obtain ⟨rfl, _⟩ := mh9
          replace k := zk_t rfl k
          replace h := Option.some.inj h
          replace k := Option.some.inj k
          subst h
          subst k
          try dsimp only
          all_goals first
          | (exfalso; omega)
          | exact ⟨rfl, rfl, hsz, rfl, rfl, rfl, rfl, hV, fun e => e, fun w => w, fun w => w⟩
      · have ch3 := zk_f cc5 ch3
        have cc5n := cc5
        (try simp only [i32_lt, i32_le, i32_e, z32_0, z32_1] at cc5n)
        first
        | (exfalso; omega)
        | simp only [Option.some.injEq, Prod.mk.injEq] at ch3
          obtain ⟨rfl, _⟩ := ch3
          replace h := zk_f (by decide) h
          replace h := zk_o2 h
          obtain ⟨cv6, cv7, ch8, h⟩ := h
          unfold f_X11_isDay at ch8
          unfold B_X11_isDay_0 at ch8
          by_cases cc9 : x2 < 0
          · have ch8 := zk_t cc9 ch8
            have cc9n := cc9
            (try simp only [i32_lt, i32_le, i32_e, z32_0, z32_1] at cc9n)
            first
            | (exfalso; omega)
            | simp only [Option.some.injEq, Prod.mk.injEq] at ch8
              obtain ⟨rfl, _⟩ := ch8
              replace h := zk_t rfl h
              unfold B_X12_moveShoe_0 at k
              replace k := zk_o2 k
              obtain ⟨mv13, mv14, mh15, k⟩ := k
              unfold f_X12_isShoe at mh15
              unfold B_X12_isShoe_0 at mh15
              obtain ⟨mv16, mv17, mh18, mh15⟩ := zk_o2 mh15
              unfold f_X12_in at mh18
              unfold B_X12_in_0 at mh18
              have mh18 := zk_f cc4 mh18
              have mh18 := zk_f (by (try simp only [i32_lt, i32_le, i32_e, z32_0, z32_1]); omega) mh18
              simp only [Option.some.injEq, Prod.mk.injEq] at mh18
              obtain ⟨rfl, _⟩ := mh18
              obtain ⟨_, mh15⟩ := zk_gd mh15
              simp only [Option.some.injEq, Prod.mk.injEq] at mh15
              obtain ⟨rfl, _⟩ := mh15
              replace k := zk_f (by decide) k
              replace k := zk_o2 k
              obtain ⟨mv19, mv20, mh21, k⟩ := k
              unfold f_X12_isDay at mh21
              unfold B_X12_isDay_0 at mh21
              obtain ⟨mv22, mv23, mh24, mh21⟩ := zk_o2 mh21
              unfold f_X12_in at mh24
              unfold B_X12_in_0 at mh24
              have mh24 := zk_t cc9 mh24
              simp only [Option.some.injEq, Prod.mk.injEq] at mh24
              obtain ⟨rfl, _⟩ := mh24
              obtain ⟨_, mh21⟩ := zk_gd mh21
              simp only [Option.some.injEq, Prod.mk.injEq] at mh21
              obtain ⟨rfl, _⟩ := mh21
              replace k := zk_t rfl k
              replace h := Option.some.inj h
              replace k := Option.some.inj k
              subst h
              subst k
              try dsimp only
              all_goals first
              | (exfalso; omega)
              | exact ⟨rfl, rfl, hsz, rfl, rfl, rfl, rfl, hV, fun e => e, fun w => w, fun w => w⟩
          · have ch8 := zk_f cc9 ch8
            have cc9n := cc9
            (try simp only [i32_lt, i32_le, i32_e, z32_0, z32_1] at cc9n)
            first
            | (exfalso; omega)
            | by_cases cc10 : (10000 : Int32) ≤ x2
              · have ch8 := zk_t cc10 ch8
                have cc10n := cc10
                (try simp only [i32_lt, i32_le, i32_e, z32_0, z32_1, z32L_10000] at cc10n)
                first
                | (exfalso; omega)
                | simp only [Option.some.injEq, Prod.mk.injEq] at ch8
                  obtain ⟨rfl, _⟩ := ch8
                  replace h := zk_t rfl h
                  unfold B_X12_moveShoe_0 at k
                  replace k := zk_o2 k
                  obtain ⟨mv25, mv26, mh27, k⟩ := k
                  unfold f_X12_isShoe at mh27
                  unfold B_X12_isShoe_0 at mh27
                  obtain ⟨mv28, mv29, mh30, mh27⟩ := zk_o2 mh27
                  unfold f_X12_in at mh30
                  unfold B_X12_in_0 at mh30
                  have mh30 := zk_f cc4 mh30
                  have mh30 := zk_f (by (try simp only [i32_lt, i32_le, i32_e, z32_0, z32_1]); omega) mh30
                  simp only [Option.some.injEq, Prod.mk.injEq] at mh30
                  obtain ⟨rfl, _⟩ := mh30
                  obtain ⟨_, mh27⟩ := zk_gd mh27
                  simp only [Option.some.injEq, Prod.mk.injEq] at mh27
                  obtain ⟨rfl, _⟩ := mh27
                  replace k := zk_f (by decide) k
                  replace k := zk_o2 k
                  obtain ⟨mv31, mv32, mh33, k⟩ := k
                  unfold f_X12_isDay at mh33
                  unfold B_X12_isDay_0 at mh33
                  obtain ⟨mv34, mv35, mh36, mh33⟩ := zk_o2 mh33
                  unfold f_X12_in at mh36
                  unfold B_X12_in_0 at mh36
                  have mh36 := zk_f cc9 mh36
                  have mh36 := zk_t (by (try simp only [i32_lt, i32_le, i32_e, z32_0, z32_1, z32L_9999]); omega) mh36
                  simp only [Option.some.injEq, Prod.mk.injEq] at mh36
                  obtain ⟨rfl, _⟩ := mh36
                  obtain ⟨_, mh33⟩ := zk_gd mh33
                  simp only [Option.some.injEq, Prod.mk.injEq] at mh33
                  obtain ⟨rfl, _⟩ := mh33
                  replace k := zk_t rfl k
                  replace h := Option.some.inj h
                  replace k := Option.some.inj k
                  subst h
                  subst k
                  try dsimp only
                  all_goals first
                  | (exfalso; omega)
                  | exact ⟨rfl, rfl, hsz, rfl, rfl, rfl, rfl, hV, fun e => e, fun w => w, fun w => w⟩
              · have ch8 := zk_f cc10 ch8
                have cc10n := cc10
                (try simp only [i32_lt, i32_le, i32_e, z32_0, z32_1, z32L_10000] at cc10n)
                first
                | (exfalso; omega)
                | simp only [Option.some.injEq, Prod.mk.injEq] at ch8
                  obtain ⟨rfl, _⟩ := ch8
                  replace h := zk_f (by decide) h
                  replace h := zk_gd h
                  obtain ⟨_, h⟩ := h
                  replace h := zk_lt h
                  obtain ⟨cv11, ce12, h⟩ := h
                  subst ce12
                  replace h := zk_o9 h
                  obtain ⟨cv13, cv14, cv15, cv16, cv17, cv18, cv19, cv20, cv21, ch22, h⟩ := h
                  skip
                  unfold B_X12_moveShoe_0 at k
                  replace k := zk_o2 k
                  obtain ⟨mv37, mv38, mh39, k⟩ := k
                  unfold f_X12_isShoe at mh39
                  unfold B_X12_isShoe_0 at mh39
                  obtain ⟨mv40, mv41, mh42, mh39⟩ := zk_o2 mh39
                  unfold f_X12_in at mh42
                  unfold B_X12_in_0 at mh42
                  have mh42 := zk_f cc4 mh42
                  have mh42 := zk_f (by (try simp only [i32_lt, i32_le, i32_e, z32_0, z32_1]); omega) mh42
                  simp only [Option.some.injEq, Prod.mk.injEq] at mh42
                  obtain ⟨rfl, _⟩ := mh42
                  obtain ⟨_, mh39⟩ := zk_gd mh39
                  simp only [Option.some.injEq, Prod.mk.injEq] at mh39
                  obtain ⟨rfl, _⟩ := mh39
                  replace k := zk_f (by decide) k
                  replace k := zk_o2 k
                  obtain ⟨mv43, mv44, mh45, k⟩ := k
                  unfold f_X12_isDay at mh45
                  unfold B_X12_isDay_0 at mh45
                  obtain ⟨mv46, mv47, mh48, mh45⟩ := zk_o2 mh45
                  unfold f_X12_in at mh48
                  unfold B_X12_in_0 at mh48
                  have mh48 := zk_f cc9 mh48
                  have mh48 := zk_f (by (try simp only [i32_lt, i32_le, i32_e, z32_0, z32_1, z32L_9999]); omega) mh48
                  simp only [Option.some.injEq, Prod.mk.injEq] at mh48
                  obtain ⟨rfl, _⟩ := mh48
                  obtain ⟨_, mh45⟩ := zk_gd mh45
                  simp only [Option.some.injEq, Prod.mk.injEq] at mh45
                  obtain ⟨rfl, _⟩ := mh45
                  replace k := zk_f (by decide) k
                  replace k := zk_o10 k
                  obtain ⟨mv49, mv50, mv51, mv52, mv53, mv54, mv55, mv56, mv57, mv58, mh59, k⟩ := k
                  skip
                  first
                  | (exfalso; omega)
                  | skip
                    obtain ⟨t0, t1⟩ := pw_make (by decide) (fun _ => by omega) (fun z => absurd (by decide) z) hd hsz hu hV (fun z => absurd z (by decide)) (fun z => absurd z (by decide)) (fun _ => by rw [hde]) ch22 mh59
                    replace h := Option.some.inj h
                    replace k := Option.some.inj k
                    subst h
                    subst k
                    exact ⟨t0.symm, t1⟩
set_option maxHeartbeats 4000000 in
set_option maxRecDepth 20000 in
theorem pw_won {mod_code : Int32} {court_shoeCount : Int32} {mod_claims : Int32} {ts : Int32} {at_ : Int32} {f : Int32} {court_suitCount : Int32} {mod_undoneMany : Int32} {mod_open : Int32} {mod_laid : Int32} {mod_isBoth : Int32} {mod_wished : Int32} {mod_bestMany : Int32} {mod_bestRow : Int32} {mod_ringDigits : Int32} {mod_traces : Int32} {mod_shoeDay : Nat → Int32} {mod_isWon : Nat → Int32} {mod_undoneFrom : Nat → Int32} {court_claimCount : Int32} {court_shoeDay : Nat → Int32} {court_suits : Nat → Option Nat} {S_who : Nat → Int32} {S_against : Nat → Int32} {S_kind : Nat → Int32} {S_won : Nat → Int32} {S_day : Nat → Int32} {S_land : Nat → Int32} {S_undoneFrom : Nat → Int32} {S_asked : Nat → Nat → Int32} {S_askedCount : Nat → Int32} {S_askedBits : Nat → Int32} {S_first : Nat → Int32} {S_foundSo : Nat → Int32} {S_foundNot : Nat → Int32} {S_fought : Nat → Int32} {S_needed : Nat → Int32} {chg_done : Int32} {chg_size : Int32} {chg_sorts : Nat → Int32} {chg_numbers : Nat → Int32} {chg_befores : Nat → Int32} {chg_afters : Nat → Int32} {x1 x2 : Int32} (hw : WU court_suitCount S_won mod_isWon) (hn : 0 ≤ court_suitCount.toInt ∧ court_suitCount.toInt ≤ 40) (hc : 0 ≤ court_shoeCount.toInt ∧ court_shoeCount.toInt ≤ 40) (hd : 0 ≤ chg_done.toInt ∧ chg_done.toInt ≤ 40) (hsz : chg_size.toInt = chg_done.toInt + mod_undoneMany.toInt) (hu : 0 ≤ mod_undoneMany.toInt ∧ chg_size.toInt ≤ 40) (hV : CV chg_size court_shoeCount court_suitCount chg_sorts chg_numbers) {R : Int32 × (Nat → Int32) × Int32 × Int32 × (Nat → Int32) × (Nat → Int32) × (Nat → Int32) × (Nat → Int32) × (Nat → Int32) × (Nat → Int32)} {Q : Int32 × Int32 × Int32 × (Nat → Int32) × (Nat → Int32) × (Nat → Int32) × (Nat → Int32) × (Nat → Int32) × (Nat → Int32) × (Nat → Int32)} (h : f_X11_won x1 x2 court_shoeCount court_claimCount court_suitCount court_shoeDay court_suits chg_done chg_size chg_sorts chg_numbers chg_befores chg_afters S_who S_against S_kind S_won S_day S_land S_undoneFrom S_asked S_askedCount S_askedBits S_first S_foundSo S_foundNot S_fought S_needed = some R) (k : f_X12_won x1 x2 mod_code court_shoeCount mod_claims ts at_ f court_suitCount chg_done mod_undoneMany mod_open mod_laid mod_isBoth mod_wished mod_bestMany mod_bestRow mod_ringDigits mod_traces mod_shoeDay mod_isWon mod_undoneFrom chg_sorts chg_numbers chg_befores chg_afters = some Q) : R.1 = Q.1 ∧ R.2.2.1 = Q.2.1 ∧ R.2.2.2.1.toInt = Q.2.1.toInt + Q.2.2.1.toInt ∧ R.2.2.2.2.1 = Q.2.2.2.2.2.2.1 ∧ R.2.2.2.2.2.1 = Q.2.2.2.2.2.2.2.1 ∧ R.2.2.2.2.2.2.1 = Q.2.2.2.2.2.2.2.2.1 ∧ R.2.2.2.2.2.2.2.1 = Q.2.2.2.2.2.2.2.2.2 ∧ CV R.2.2.2.1 court_shoeCount court_suitCount R.2.2.2.2.1 R.2.2.2.2.2.1 ∧ (court_shoeDay = mod_shoeDay → R.2.1 = Q.2.2.2.1) ∧ (WU court_suitCount S_won mod_isWon → WU court_suitCount R.2.2.2.2.2.2.2.2.1 Q.2.2.2.2.1) ∧ (WU court_suitCount S_undoneFrom mod_undoneFrom → WU court_suitCount R.2.2.2.2.2.2.2.2.2 Q.2.2.2.2.2.1) := by
  have hn1 := i32_m1 (a := court_suitCount) (by omega)
  have hc1 := i32_m1 (a := court_shoeCount) (by omega)
  unfold f_X11_won at h
  unfold f_X12_won at k
  unfold B_X11_won_0 at h
  replace h := zk_o2 h
  obtain ⟨cv1, cv2, ch3, h⟩ := h
  unfold f_X2_suitAt at ch3
  unfold B_X2_suitAt_0 at ch3
  by_cases cc4 : x1 < 0
  · have ch3 := zk_t cc4 ch3
    have cc4n := cc4
    (try simp only [i32_lt, i32_le, i32_e, z32_0, z32_1] at cc4n)
    first
    | (exfalso; omega)
    | simp only [Option.some.injEq, Prod.mk.injEq] at ch3
      obtain ⟨rfl, _⟩ := ch3
      replace h := zk_t (by decide) h
      unfold B_X12_won_0 at k
      replace k := zk_o2 k
      obtain ⟨mv1, mv2, mh3, k⟩ := k
      unfold f_X12_isSuit at mh3
      unfold B_X12_isSuit_0 at mh3
      obtain ⟨mv4, mv5, mh6, mh3⟩ := zk_o2 mh3
      unfold f_X12_in at mh6
      unfold B_X12_in_0 at mh6
      have mh6 := zk_t cc4 mh6
      simp only [Option.some.injEq, Prod.mk.injEq] at mh6
      obtain ⟨rfl, _⟩ := mh6
      obtain ⟨_, mh3⟩ := zk_gd mh3
      simp only [Option.some.injEq, Prod.mk.injEq] at mh3
      obtain ⟨rfl, _⟩ := mh3
      replace k := zk_t rfl k
      replace h := Option.some.inj h
      replace k := Option.some.inj k
      subst h
      subst k
      try dsimp only
      all_goals first
      | (exfalso; omega)
      | exact ⟨rfl, rfl, hsz, rfl, rfl, rfl, rfl, hV, fun e => e, fun w => w, fun w => w⟩
  · have ch3 := zk_f cc4 ch3
    have cc4n := cc4
    (try simp only [i32_lt, i32_le, i32_e, z32_0, z32_1] at cc4n)
    first
    | (exfalso; omega)
    | by_cases cc5 : court_suitCount ≤ x1
      · have ch3 := zk_t cc5 ch3
        have cc5n := cc5
        (try simp only [i32_lt, i32_le, i32_e, z32_0, z32_1] at cc5n)
        first
        | (exfalso; omega)
        | simp only [Option.some.injEq, Prod.mk.injEq] at ch3
          obtain ⟨rfl, _⟩ := ch3
          replace h := zk_t (by decide) h
          unfold B_X12_won_0 at k
          replace k := zk_o2 k
          obtain ⟨mv7, mv8, mh9, k⟩ := k
          unfold f_X12_isSuit at mh9
          unfold B_X12_isSuit_0 at mh9
          obtain ⟨mv10, mv11, mh12, mh9⟩ := zk_o2 mh9
          unfold f_X12_in at mh12
          unfold B_X12_in_0 at mh12
          have mh12 := zk_f cc4 mh12
          have mh12 := zk_t (by (try simp only [i32_lt, i32_le, i32_e, z32_0, z32_1]); omega) mh12
          simp only [Option.some.injEq, Prod.mk.injEq] at mh12
          obtain ⟨rfl, _⟩ := mh12
          obtain ⟨_, mh9⟩ := zk_gd mh9
          simp only [Option.some.injEq, Prod.mk.injEq] at mh9
          obtain ⟨rfl, _⟩ := mh9
          replace k := zk_t rfl k
          replace h := Option.some.inj h
          replace k := Option.some.inj k
          subst h
          subst k
          try dsimp only
          all_goals first
          | (exfalso; omega)
          | exact ⟨rfl, rfl, hsz, rfl, rfl, rfl, rfl, hV, fun e => e, fun w => w, fun w => w⟩
      · have ch3 := zk_f cc5 ch3
        have cc5n := cc5
        (try simp only [i32_lt, i32_le, i32_e, z32_0, z32_1] at cc5n)
        first
        | (exfalso; omega)
        | obtain ⟨_, ch3⟩ := zk_gd ch3
          obtain ⟨_, ch3⟩ := zk_gd ch3
          obtain ⟨_, ch3⟩ := zk_gd ch3
          simp only [Option.some.injEq, Prod.mk.injEq] at ch3
          obtain ⟨rfl, _⟩ := ch3
          replace h := zk_f cc4 h
          replace h := zk_o2 h
          obtain ⟨cv6, cv7, ch8, h⟩ := h
          unfold f_X11_isChoice at ch8
          unfold B_X11_isChoice_0 at ch8
          by_cases cc9 : x2 = 0
          · have ch8 := zk_t cc9 ch8
            have cc9n := cc9
            (try simp only [i32_lt, i32_le, i32_e, z32_0, z32_1] at cc9n)
            first
            | (exfalso; omega)
            | unfold B_X11_isChoice_9 at ch8
              simp only [Option.some.injEq, Prod.mk.injEq] at ch8
              obtain ⟨rfl, _⟩ := ch8
              replace h := zk_f (by decide) h
              replace h := zk_gd h
              obtain ⟨_, h⟩ := h
              replace h := zk_lt h
              obtain ⟨cv10, ce11, h⟩ := h
              subst ce11
              replace h := zk_o9 h
              obtain ⟨cv12, cv13, cv14, cv15, cv16, cv17, cv18, cv19, cv20, ch21, h⟩ := h
              skip
              unfold B_X12_won_0 at k
              replace k := zk_o2 k
              obtain ⟨mv13, mv14, mh15, k⟩ := k
              unfold f_X12_isSuit at mh15
              unfold B_X12_isSuit_0 at mh15
              obtain ⟨mv16, mv17, mh18, mh15⟩ := zk_o2 mh15
              unfold f_X12_in at mh18
              unfold B_X12_in_0 at mh18
              have mh18 := zk_f cc4 mh18
              have mh18 := zk_f (by (try simp only [i32_lt, i32_le, i32_e, z32_0, z32_1]); omega) mh18
              simp only [Option.some.injEq, Prod.mk.injEq] at mh18
              obtain ⟨rfl, _⟩ := mh18
              obtain ⟨_, mh15⟩ := zk_gd mh15
              simp only [Option.some.injEq, Prod.mk.injEq] at mh15
              obtain ⟨rfl, _⟩ := mh15
              replace k := zk_f (by decide) k
              replace k := zk_o2 k
              obtain ⟨mv19, mv20, mh21, k⟩ := k
              unfold f_X12_in at mh21
              unfold B_X12_in_0 at mh21
              have mh21 := zk_f (by (try simp only [i32_lt, i32_le, i32_e, z32_0, z32_1]); omega) mh21
              have mh21 := zk_f (by (try simp only [i32_lt, i32_le, i32_e, z32_0, z32_1]); omega) mh21
              simp only [Option.some.injEq, Prod.mk.injEq] at mh21
              obtain ⟨rfl, _⟩ := mh21
              replace k := zk_f (by decide) k
              replace k := zk_o10 k
              obtain ⟨mv22, mv23, mv24, mv25, mv26, mv27, mv28, mv29, mv30, mv31, mh32, k⟩ := k
              skip
              first
              | (exfalso; omega)
              | skip
                obtain ⟨t0, t1⟩ := pw_make (by decide) (fun z => absurd z (by decide)) (fun _ => by omega) hd hsz hu hV (fun _ => hw _ (by rw [tcn]; omega)) (fun z => absurd z (by decide)) (fun z => absurd z (by decide)) ch21 mh32
                replace h := Option.some.inj h
                replace k := Option.some.inj k
                subst h
                subst k
                exact ⟨t0.symm, t1⟩
          · have ch8 := zk_f cc9 ch8
            have cc9n := cc9
            (try simp only [i32_lt, i32_le, i32_e, z32_0, z32_1] at cc9n)
            first
            | (exfalso; omega)
            | by_cases cc22 : x2 = (1 : Int32)
              · have ch8 := zk_t cc22 ch8
                have cc22n := cc22
                (try simp only [i32_lt, i32_le, i32_e, z32_0, z32_1] at cc22n)
                first
                | (exfalso; omega)
                | unfold B_X11_isChoice_9 at ch8
                  simp only [Option.some.injEq, Prod.mk.injEq] at ch8
                  obtain ⟨rfl, _⟩ := ch8
                  replace h := zk_f (by decide) h
                  replace h := zk_gd h
                  obtain ⟨_, h⟩ := h
                  replace h := zk_lt h
                  obtain ⟨cv23, ce24, h⟩ := h
                  subst ce24
                  replace h := zk_o9 h
                  obtain ⟨cv25, cv26, cv27, cv28, cv29, cv30, cv31, cv32, cv33, ch34, h⟩ := h
                  skip
                  unfold B_X12_won_0 at k
                  replace k := zk_o2 k
                  obtain ⟨mv33, mv34, mh35, k⟩ := k
                  unfold f_X12_isSuit at mh35
                  unfold B_X12_isSuit_0 at mh35
                  obtain ⟨mv36, mv37, mh38, mh35⟩ := zk_o2 mh35
                  unfold f_X12_in at mh38
                  unfold B_X12_in_0 at mh38
                  have mh38 := zk_f cc4 mh38
                  have mh38 := zk_f (by (try simp only [i32_lt, i32_le, i32_e, z32_0, z32_1]); omega) mh38
                  simp only [Option.some.injEq, Prod.mk.injEq] at mh38
                  obtain ⟨rfl, _⟩ := mh38
                  obtain ⟨_, mh35⟩ := zk_gd mh35
                  simp only [Option.some.injEq, Prod.mk.injEq] at mh35
                  obtain ⟨rfl, _⟩ := mh35
                  replace k := zk_f (by decide) k
                  replace k := zk_o2 k
                  obtain ⟨mv39, mv40, mh41, k⟩ := k
                  unfold f_X12_in at mh41
                  unfold B_X12_in_0 at mh41
                  have mh41 := zk_f (by (try simp only [i32_lt, i32_le, i32_e, z32_0, z32_1]); omega) mh41
                  have mh41 := zk_f (by (try simp only [i32_lt, i32_le, i32_e, z32_0, z32_1]); omega) mh41
                  simp only [Option.some.injEq, Prod.mk.injEq] at mh41
                  obtain ⟨rfl, _⟩ := mh41
                  replace k := zk_f (by decide) k
                  replace k := zk_o10 k
                  obtain ⟨mv42, mv43, mv44, mv45, mv46, mv47, mv48, mv49, mv50, mv51, mh52, k⟩ := k
                  skip
                  first
                  | (exfalso; omega)
                  | skip
                    obtain ⟨t0, t1⟩ := pw_make (by decide) (fun z => absurd z (by decide)) (fun _ => by omega) hd hsz hu hV (fun _ => hw _ (by rw [tcn]; omega)) (fun z => absurd z (by decide)) (fun z => absurd z (by decide)) ch34 mh52
                    replace h := Option.some.inj h
                    replace k := Option.some.inj k
                    subst h
                    subst k
                    exact ⟨t0.symm, t1⟩
              · have ch8 := zk_f cc22 ch8
                have cc22n := cc22
                (try simp only [i32_lt, i32_le, i32_e, z32_0, z32_1] at cc22n)
                first
                | (exfalso; omega)
                | simp only [Option.some.injEq, Prod.mk.injEq] at ch8
                  obtain ⟨rfl, _⟩ := ch8
                  replace h := zk_t rfl h
                  unfold B_X12_won_0 at k
                  replace k := zk_o2 k
                  obtain ⟨mv53, mv54, mh55, k⟩ := k
                  unfold f_X12_isSuit at mh55
                  unfold B_X12_isSuit_0 at mh55
                  obtain ⟨mv56, mv57, mh58, mh55⟩ := zk_o2 mh55
                  unfold f_X12_in at mh58
                  unfold B_X12_in_0 at mh58
                  have mh58 := zk_f cc4 mh58
                  have mh58 := zk_f (by (try simp only [i32_lt, i32_le, i32_e, z32_0, z32_1]); omega) mh58
                  simp only [Option.some.injEq, Prod.mk.injEq] at mh58
                  obtain ⟨rfl, _⟩ := mh58
                  obtain ⟨_, mh55⟩ := zk_gd mh55
                  simp only [Option.some.injEq, Prod.mk.injEq] at mh55
                  obtain ⟨rfl, _⟩ := mh55
                  replace k := zk_f (by decide) k
                  replace k := zk_o2 k
                  obtain ⟨mv59, mv60, mh61, k⟩ := k
                  unfold f_X12_in at mh61
                  unfold B_X12_in_0 at mh61
                  by_cases mc62 : x2 < (0 : Int32)
                  · have mh61 := zk_t mc62 mh61
                    have mc62n := mc62
                    (try simp only [i32_lt, i32_le, i32_e, z32_0, z32_1] at mc62n)
                    first
                    | (exfalso; omega)
                    | simp only [Option.some.injEq, Prod.mk.injEq] at mh61
                      obtain ⟨rfl, _⟩ := mh61
                      replace k := zk_t rfl k
                      replace h := Option.some.inj h
                      replace k := Option.some.inj k
                      subst h
                      subst k
                      try dsimp only
                      all_goals first
                      | (exfalso; omega)
                      | exact ⟨rfl, rfl, hsz, rfl, rfl, rfl, rfl, hV, fun e => e, fun w => w, fun w => w⟩
                  · have mh61 := zk_f mc62 mh61
                    have mc62n := mc62
                    (try simp only [i32_lt, i32_le, i32_e, z32_0, z32_1] at mc62n)
                    first
                    | (exfalso; omega)
                    | by_cases mc63 : (1 : Int32) < x2
                      · have mh61 := zk_t mc63 mh61
                        have mc63n := mc63
                        (try simp only [i32_lt, i32_le, i32_e, z32_0, z32_1] at mc63n)
                        first
                        | (exfalso; omega)
                        | simp only [Option.some.injEq, Prod.mk.injEq] at mh61
                          obtain ⟨rfl, _⟩ := mh61
                          replace k := zk_t rfl k
                          replace h := Option.some.inj h
                          replace k := Option.some.inj k
                          subst h
                          subst k
                          try dsimp only
                          all_goals first
                          | (exfalso; omega)
                          | exact ⟨rfl, rfl, hsz, rfl, rfl, rfl, rfl, hV, fun e => e, fun w => w, fun w => w⟩
                      · have mh61 := zk_f mc63 mh61
                        have mc63n := mc63
                        (try simp only [i32_lt, i32_le, i32_e, z32_0, z32_1] at mc63n)
                        first
                        | (exfalso; omega)
                        | simp only [Option.some.injEq, Prod.mk.injEq] at mh61
                          obtain ⟨rfl, _⟩ := mh61
                          replace k := zk_f (by decide) k
                          replace k := zk_o10 k
                          obtain ⟨mv64, mv65, mv66, mv67, mv68, mv69, mv70, mv71, mv72, mv73, mh74, k⟩ := k
                          skip
                          replace h := Option.some.inj h
                          replace k := Option.some.inj k
                          subst h
                          subst k
                          try dsimp only
                          all_goals first
                          | (exfalso; omega)
                          | exact ⟨rfl, rfl, hsz, rfl, rfl, rfl, rfl, hV, fun e => e, fun w => w, fun w => w⟩
