
theorem zl_in {x c : Int32} {L : Nat} (h : 0 ≤ x.toInt ∧ x.toInt + 6 ≤ (L : Int)) (hL : L ≤ 3072) (hc : 0 ≤ c.toInt ∧ c.toInt ≤ 5) : vp_in (x + c) L := by
  have e : (x + c).toInt = x.toInt + c.toInt := by rw [Int32.toInt_add]; exact zi_bm2 (by omega) (by omega)
  unfold vp_in
  rintro (h1 | h1)
  · have h2 := Int32.lt_iff_toInt_lt.mp h1
    rw [e, zl_0] at h2
    omega
  · have h2 : (x + c).toNatClampNeg = (x + c).toInt.toNat := rfl
    omega
theorem zl_in0 {x : Int32} {L : Nat} (h : 0 ≤ x.toInt ∧ x.toInt + 6 ≤ (L : Int)) : vp_in x L := by
  unfold vp_in
  rintro (h1 | h1)
  · have h2 := Int32.lt_iff_toInt_lt.mp h1
    rw [zl_0] at h2
    omega
  · have h2 : x.toNatClampNeg = x.toInt.toNat := rfl
    omega
theorem zk_pl (x : Int32) : ∃ j, j < 6 ∧ ((¬ x < 0 ∧ ¬ 6 ≤ x) → x.toNatClampNeg = j) := by
  by_cases h : ¬ x < 0 ∧ ¬ 6 ≤ x
  · refine ⟨x.toNatClampNeg, ?_, fun _ => rfl⟩
    have h1 := h.1
    have h2 := h.2
    rw [Int32.lt_iff_toInt_lt] at h1
    rw [Int32.le_iff_toInt_le] at h2
    have e0 : (0 : Int32).toInt = 0 := by decide
    have e6 : (6 : Int32).toInt = 6 := by decide
    have e : x.toNatClampNeg = x.toInt.toNat := rfl
    omega
  · exact ⟨0, by omega, fun z => absurd z h⟩
theorem zk_lc (x : Int64) : lg_cmp x x = 0 := by
  have : ¬ x < x := Int64.lt_irrefl
  simp [lg_cmp, this]
def RL (z : ZT) (w : MT) : Prop := ((z.1 1) = (w.1 2)) ∧ ((z.2.1 6) = (w.2.1 4)) ∧ ((z.2.1 7) = (w.2.1 5)) ∧ ((z.2.1 8) = (w.2.1 6)) ∧ ((z.2.1 9) = (w.2.1 7)) ∧ ((z.1 0) = (w.1 1)) ∧ ((z.1 2) = (w.1 6)) ∧ ((z.1 6) = (w.1 3)) ∧ ((z.2.1 2) = (w.2.1 0)) ∧ ((z.2.1 3) = (w.2.1 1)) ∧ ((z.2.1 4) = (w.2.1 2)) ∧ ((z.2.1 5) = (w.2.1 3)) ∧ ((z.1 13) = (w.1 12)) ∧ ((z.2.1 17) = (w.2.1 34)) ∧ ((z.2.1 18) = (w.2.1 35)) ∧ ((z.1 32) = (w.1 16)) ∧ ((z.2.1 27) = (w.2.1 38)) ∧ ((z.1 30) = (w.1 7)) ∧ ((z.2.1 23) = (w.2.1 20)) ∧ ((z.2.1 24) = (w.2.1 21)) ∧ ((z.2.1 25) = (w.2.1 22)) ∧ ((z.2.1 26) = (w.2.1 23)) ∧ (TR (z.1 6) (z.2.1 15) (w.2.1 8)) ∧ (PLR (z.1 2) 0 (z.1 36) (z.1 37) (z.1 38) (z.2.2.1 2) (w.2.1 39) (w.2.1 40) (w.2.2 0)) ∧ (PLR (z.1 2) 1 (z.1 39) (z.1 40) (z.1 41) (z.2.2.1 3) (w.2.1 39) (w.2.1 40) (w.2.2 0)) ∧ (PLR (z.1 2) 2 (z.1 42) (z.1 43) (z.1 44) (z.2.2.1 4) (w.2.1 39) (w.2.1 40) (w.2.2 0)) ∧ (PLR (z.1 2) 3 (z.1 45) (z.1 46) (z.1 47) (z.2.2.1 5) (w.2.1 39) (w.2.1 40) (w.2.2 0)) ∧ (PLR (z.1 2) 4 (z.1 48) (z.1 49) (z.1 50) (z.2.2.1 6) (w.2.1 39) (w.2.1 40) (w.2.2 0)) ∧ (PLR (z.1 2) 5 (z.1 51) (z.1 52) (z.1 53) (z.2.2.1 7) (w.2.1 39) (w.2.1 40) (w.2.2 0)) ∧ ((z.1 31).toInt = (w.1 7).toInt + (w.1 8).toInt) ∧ (CV (z.1 31) (z.1 0) (z.1 2) (z.2.1 23) (z.2.1 24)) ∧ (WU (z.1 2) (z.2.1 31) (w.2.1 12)) ∧ (WU (z.1 2) (z.2.1 34) (w.2.1 15)) ∧ (SUS (z.1 2) (z.2.1 28) (z.2.1 29) (z.2.1 30) (z.2.1 32) (z.2.1 33) (z.2.1 35) (z.2.1 36) (z.2.1 37) (z.2.1 38) (z.2.1 39) (z.2.1 40) (z.2.1 41) (z.2.2.2.2.2.1 0) (w.2.1 9) (w.2.1 10) (w.2.1 11) (w.2.1 13) (w.2.1 14) (w.2.1 16) (w.2.1 17) (w.2.1 18) (w.2.1 19))
theorem rl_0 {z : ZT} {w : MT} (h : RL z w) : (z.1 1) = (w.1 2) := h.1
theorem rl_1 {z : ZT} {w : MT} (h : RL z w) : (z.2.1 6) = (w.2.1 4) := h.2.1
theorem rl_2 {z : ZT} {w : MT} (h : RL z w) : (z.2.1 7) = (w.2.1 5) := h.2.2.1
theorem rl_3 {z : ZT} {w : MT} (h : RL z w) : (z.2.1 8) = (w.2.1 6) := h.2.2.2.1
theorem rl_4 {z : ZT} {w : MT} (h : RL z w) : (z.2.1 9) = (w.2.1 7) := h.2.2.2.2.1
theorem rl_5 {z : ZT} {w : MT} (h : RL z w) : (z.1 0) = (w.1 1) := h.2.2.2.2.2.1
theorem rl_6 {z : ZT} {w : MT} (h : RL z w) : (z.1 2) = (w.1 6) := h.2.2.2.2.2.2.1
theorem rl_7 {z : ZT} {w : MT} (h : RL z w) : (z.1 6) = (w.1 3) := h.2.2.2.2.2.2.2.1
theorem rl_8 {z : ZT} {w : MT} (h : RL z w) : (z.2.1 2) = (w.2.1 0) := h.2.2.2.2.2.2.2.2.1
theorem rl_9 {z : ZT} {w : MT} (h : RL z w) : (z.2.1 3) = (w.2.1 1) := h.2.2.2.2.2.2.2.2.2.1
theorem rl_10 {z : ZT} {w : MT} (h : RL z w) : (z.2.1 4) = (w.2.1 2) := h.2.2.2.2.2.2.2.2.2.2.1
theorem rl_11 {z : ZT} {w : MT} (h : RL z w) : (z.2.1 5) = (w.2.1 3) := h.2.2.2.2.2.2.2.2.2.2.2.1
theorem rl_12 {z : ZT} {w : MT} (h : RL z w) : (z.1 13) = (w.1 12) := h.2.2.2.2.2.2.2.2.2.2.2.2.1
theorem rl_13 {z : ZT} {w : MT} (h : RL z w) : (z.2.1 17) = (w.2.1 34) := h.2.2.2.2.2.2.2.2.2.2.2.2.2.1
theorem rl_14 {z : ZT} {w : MT} (h : RL z w) : (z.2.1 18) = (w.2.1 35) := h.2.2.2.2.2.2.2.2.2.2.2.2.2.2.1
theorem rl_15 {z : ZT} {w : MT} (h : RL z w) : (z.1 32) = (w.1 16) := h.2.2.2.2.2.2.2.2.2.2.2.2.2.2.2.1
theorem rl_16 {z : ZT} {w : MT} (h : RL z w) : (z.2.1 27) = (w.2.1 38) := h.2.2.2.2.2.2.2.2.2.2.2.2.2.2.2.2.1
theorem rl_17 {z : ZT} {w : MT} (h : RL z w) : (z.1 30) = (w.1 7) := h.2.2.2.2.2.2.2.2.2.2.2.2.2.2.2.2.2.1
theorem rl_18 {z : ZT} {w : MT} (h : RL z w) : (z.2.1 23) = (w.2.1 20) := h.2.2.2.2.2.2.2.2.2.2.2.2.2.2.2.2.2.2.1
theorem rl_19 {z : ZT} {w : MT} (h : RL z w) : (z.2.1 24) = (w.2.1 21) := h.2.2.2.2.2.2.2.2.2.2.2.2.2.2.2.2.2.2.2.1
theorem rl_20 {z : ZT} {w : MT} (h : RL z w) : (z.2.1 25) = (w.2.1 22) := h.2.2.2.2.2.2.2.2.2.2.2.2.2.2.2.2.2.2.2.2.1
theorem rl_21 {z : ZT} {w : MT} (h : RL z w) : (z.2.1 26) = (w.2.1 23) := h.2.2.2.2.2.2.2.2.2.2.2.2.2.2.2.2.2.2.2.2.2.1
theorem rl_22 {z : ZT} {w : MT} (h : RL z w) : TR (z.1 6) (z.2.1 15) (w.2.1 8) := h.2.2.2.2.2.2.2.2.2.2.2.2.2.2.2.2.2.2.2.2.2.2.1
theorem rl_23 {z : ZT} {w : MT} (h : RL z w) : PLR (z.1 2) 0 (z.1 36) (z.1 37) (z.1 38) (z.2.2.1 2) (w.2.1 39) (w.2.1 40) (w.2.2 0) := h.2.2.2.2.2.2.2.2.2.2.2.2.2.2.2.2.2.2.2.2.2.2.2.1
theorem rl_24 {z : ZT} {w : MT} (h : RL z w) : PLR (z.1 2) 1 (z.1 39) (z.1 40) (z.1 41) (z.2.2.1 3) (w.2.1 39) (w.2.1 40) (w.2.2 0) := h.2.2.2.2.2.2.2.2.2.2.2.2.2.2.2.2.2.2.2.2.2.2.2.2.1
theorem rl_25 {z : ZT} {w : MT} (h : RL z w) : PLR (z.1 2) 2 (z.1 42) (z.1 43) (z.1 44) (z.2.2.1 4) (w.2.1 39) (w.2.1 40) (w.2.2 0) := h.2.2.2.2.2.2.2.2.2.2.2.2.2.2.2.2.2.2.2.2.2.2.2.2.2.1
theorem rl_26 {z : ZT} {w : MT} (h : RL z w) : PLR (z.1 2) 3 (z.1 45) (z.1 46) (z.1 47) (z.2.2.1 5) (w.2.1 39) (w.2.1 40) (w.2.2 0) := h.2.2.2.2.2.2.2.2.2.2.2.2.2.2.2.2.2.2.2.2.2.2.2.2.2.2.1
theorem rl_27 {z : ZT} {w : MT} (h : RL z w) : PLR (z.1 2) 4 (z.1 48) (z.1 49) (z.1 50) (z.2.2.1 6) (w.2.1 39) (w.2.1 40) (w.2.2 0) := h.2.2.2.2.2.2.2.2.2.2.2.2.2.2.2.2.2.2.2.2.2.2.2.2.2.2.2.1
theorem rl_28 {z : ZT} {w : MT} (h : RL z w) : PLR (z.1 2) 5 (z.1 51) (z.1 52) (z.1 53) (z.2.2.1 7) (w.2.1 39) (w.2.1 40) (w.2.2 0) := h.2.2.2.2.2.2.2.2.2.2.2.2.2.2.2.2.2.2.2.2.2.2.2.2.2.2.2.2.1
theorem rl_29 {z : ZT} {w : MT} (h : RL z w) : (z.1 31).toInt = (w.1 7).toInt + (w.1 8).toInt := h.2.2.2.2.2.2.2.2.2.2.2.2.2.2.2.2.2.2.2.2.2.2.2.2.2.2.2.2.2.1
theorem rl_30 {z : ZT} {w : MT} (h : RL z w) : CV (z.1 31) (z.1 0) (z.1 2) (z.2.1 23) (z.2.1 24) := h.2.2.2.2.2.2.2.2.2.2.2.2.2.2.2.2.2.2.2.2.2.2.2.2.2.2.2.2.2.2.1
theorem rl_31 {z : ZT} {w : MT} (h : RL z w) : WU (z.1 2) (z.2.1 31) (w.2.1 12) := h.2.2.2.2.2.2.2.2.2.2.2.2.2.2.2.2.2.2.2.2.2.2.2.2.2.2.2.2.2.2.2.1
theorem rl_32 {z : ZT} {w : MT} (h : RL z w) : WU (z.1 2) (z.2.1 34) (w.2.1 15) := h.2.2.2.2.2.2.2.2.2.2.2.2.2.2.2.2.2.2.2.2.2.2.2.2.2.2.2.2.2.2.2.2.1
theorem rl_33 {z : ZT} {w : MT} (h : RL z w) : SUS (z.1 2) (z.2.1 28) (z.2.1 29) (z.2.1 30) (z.2.1 32) (z.2.1 33) (z.2.1 35) (z.2.1 36) (z.2.1 37) (z.2.1 38) (z.2.1 39) (z.2.1 40) (z.2.1 41) (z.2.2.2.2.2.1 0) (w.2.1 9) (w.2.1 10) (w.2.1 11) (w.2.1 13) (w.2.1 14) (w.2.1 16) (w.2.1 17) (w.2.1 18) (w.2.1 19) := h.2.2.2.2.2.2.2.2.2.2.2.2.2.2.2.2.2.2.2.2.2.2.2.2.2.2.2.2.2.2.2.2.2
theorem RL_s {z u : ZT} {w w2 : MT} (hk : KPk z u) (hr : RL z w) (e1 : (u.1 2) = (w2.1 6)) (e2 : (u.1 6) = (w2.1 3)) (hn : (z.1 2).toInt ≤ (u.1 2).toInt) (e3 : (u.1 6).toInt ≤ (z.1 6).toInt) (g_mod_claims : (w2.1 2) = (w.1 2)) (g_mod_claimBy : (w2.2.1 4) = (w.2.1 4)) (g_mod_claimOn : (w2.2.1 5) = (w.2.1 5)) (g_mod_factOf : (w2.2.1 6) = (w.2.1 6)) (g_mod_pleaOf : (w2.2.1 7) = (w.2.1 7)) (g_mod_shoes : (w2.1 1) = (w.1 1)) (g_mod_tape : (w2.2.1 8) = (w.2.1 8)) (g_mod_holds : (w2.2.1 39) = (w.2.1 39)) (g_mod_size : (w2.2.1 40) = (w.2.1 40)) (g_mod_elements : (w2.2.2 0) = (w.2.2 0)) (g_mod_wearer : (w2.2.1 0) = (w.2.1 0)) (g_mod_wornFor : (w2.2.1 1) = (w.2.1 1)) (g_mod_shoeSort : (w2.2.1 2) = (w.2.1 2)) (g_mod_shoeDay : (w2.2.1 3) = (w.2.1 3)) (g_mod_wished : (w2.1 12) = (w.1 12)) (g_mod_wishClaim : (w2.2.1 34) = (w.2.1 34)) (g_mod_wishWon : (w2.2.1 35) = (w.2.1 35)) (g_mod_traces : (w2.1 16) = (w.1 16)) (g_mod_traced : (w2.2.1 38) = (w.2.1 38)) (g_mod_doneMany : (w2.1 7) = (w.1 7)) (g_mod_changeOf : (w2.2.1 20) = (w.2.1 20)) (g_mod_changeAt : (w2.2.1 21) = (w.2.1 21)) (g_mod_before : (w2.2.1 22) = (w.2.1 22)) (g_mod_behind : (w2.2.1 23) = (w.2.1 23)) (g_mod_undoneMany : (w2.1 8) = (w.1 8)) (x_w1 : WU (u.1 2) (u.2.1 31) (w2.2.1 12)) (x_w2 : WU (u.1 2) (u.2.1 34) (w2.2.1 15)) (x_s : SUS (u.1 2) (u.2.1 28) (u.2.1 29) (u.2.1 30) (u.2.1 32) (u.2.1 33) (u.2.1 35) (u.2.1 36) (u.2.1 37) (u.2.1 38) (u.2.1 39) (u.2.1 40) (u.2.1 41) (u.2.2.2.2.2.1 0) (w2.2.1 9) (w2.2.1 10) (w2.2.1 11) (w2.2.1 13) (w2.2.1 14) (w2.2.1 16) (w2.2.1 17) (w2.2.1 18) (w2.2.1 19)) : RL u w2 := by
  obtain ⟨k_court_claimCount, k_court_claimWho, k_court_claimAgainst, k_court_claimFact, k_court_claimPlea, k_court_shoeCount, k_tape_bytes, k_court_shoePerson, k_court_shoeOther, k_court_shoeSort, k_court_shoeDay, k_wishes_size, k_wishes_claims, k_wishes_wins, k_acts_ran, k_acts_bodies, k_chg_done, k_chg_sorts, k_chg_numbers, k_chg_befores, k_chg_afters, k_chg_size, k_pl0_holds, k_pl0_suit, k_pl0_size, k_pl0_elements, k_pl1_holds, k_pl1_suit, k_pl1_size, k_pl1_elements, k_pl2_holds, k_pl2_suit, k_pl2_size, k_pl2_elements, k_pl3_holds, k_pl3_suit, k_pl3_size, k_pl3_elements, k_pl4_holds, k_pl4_suit, k_pl4_size, k_pl4_elements, k_pl5_holds, k_pl5_suit, k_pl5_size, k_pl5_elements⟩ := hk
  obtain ⟨r_court_claimCount, r_court_claimWho, r_court_claimAgainst, r_court_claimFact, r_court_claimPlea, r_court_shoeCount, r_court_suitCount, r_tape_size, r_court_shoePerson, r_court_shoeOther, r_court_shoeSort, r_court_shoeDay, r_wishes_size, r_wishes_claims, r_wishes_wins, r_acts_ran, r_acts_bodies, r_chg_done, r_chg_sorts, r_chg_numbers, r_chg_befores, r_chg_afters, htr, q0, q1, q2, q3, q4, q5, r_sz, r_cv, r_w1, r_w2, r_s⟩ := hr
  refine ⟨?_, ?_, ?_, ?_, ?_, ?_, e1, e2, ?_, ?_, ?_, ?_, ?_, ?_, ?_, ?_, ?_, ?_, ?_, ?_, ?_, ?_, ?_, ?_, ?_, ?_, ?_, ?_, ?_, ?_, ?_, x_w1, x_w2, x_s⟩
  · rw [k_court_claimCount, g_mod_claims]; exact r_court_claimCount
  · rw [k_court_claimWho, g_mod_claimBy]; exact r_court_claimWho
  · rw [k_court_claimAgainst, g_mod_claimOn]; exact r_court_claimAgainst
  · rw [k_court_claimFact, g_mod_factOf]; exact r_court_claimFact
  · rw [k_court_claimPlea, g_mod_pleaOf]; exact r_court_claimPlea
  · rw [k_court_shoeCount, g_mod_shoes]; exact r_court_shoeCount
  · rw [k_court_shoePerson, g_mod_wearer]; exact r_court_shoePerson
  · rw [k_court_shoeOther, g_mod_wornFor]; exact r_court_shoeOther
  · rw [k_court_shoeSort, g_mod_shoeSort]; exact r_court_shoeSort
  · rw [k_court_shoeDay, g_mod_shoeDay]; exact r_court_shoeDay
  · rw [k_wishes_size, g_mod_wished]; exact r_wishes_size
  · rw [k_wishes_claims, g_mod_wishClaim]; exact r_wishes_claims
  · rw [k_wishes_wins, g_mod_wishWon]; exact r_wishes_wins
  · rw [k_acts_ran, g_mod_traces]; exact r_acts_ran
  · rw [k_acts_bodies, g_mod_traced]; exact r_acts_bodies
  · rw [k_chg_done, g_mod_doneMany]; exact r_chg_done
  · rw [k_chg_sorts, g_mod_changeOf]; exact r_chg_sorts
  · rw [k_chg_numbers, g_mod_changeAt]; exact r_chg_numbers
  · rw [k_chg_befores, g_mod_before]; exact r_chg_befores
  · rw [k_chg_afters, g_mod_behind]; exact r_chg_afters
  · rw [k_tape_bytes, g_mod_tape]
    exact fun k hk => htr k (by omega)
  · rw [k_pl0_holds, k_pl0_suit, k_pl0_size, k_pl0_elements]; exact PLR_fr q0 hn (by rw [g_mod_holds]) (by rw [g_mod_size]) (fun k _ _ => by rw [g_mod_elements])
  · rw [k_pl1_holds, k_pl1_suit, k_pl1_size, k_pl1_elements]; exact PLR_fr q1 hn (by rw [g_mod_holds]) (by rw [g_mod_size]) (fun k _ _ => by rw [g_mod_elements])
  · rw [k_pl2_holds, k_pl2_suit, k_pl2_size, k_pl2_elements]; exact PLR_fr q2 hn (by rw [g_mod_holds]) (by rw [g_mod_size]) (fun k _ _ => by rw [g_mod_elements])
  · rw [k_pl3_holds, k_pl3_suit, k_pl3_size, k_pl3_elements]; exact PLR_fr q3 hn (by rw [g_mod_holds]) (by rw [g_mod_size]) (fun k _ _ => by rw [g_mod_elements])
  · rw [k_pl4_holds, k_pl4_suit, k_pl4_size, k_pl4_elements]; exact PLR_fr q4 hn (by rw [g_mod_holds]) (by rw [g_mod_size]) (fun k _ _ => by rw [g_mod_elements])
  · rw [k_pl5_holds, k_pl5_suit, k_pl5_size, k_pl5_elements]; exact PLR_fr q5 hn (by rw [g_mod_holds]) (by rw [g_mod_size]) (fun k _ _ => by rw [g_mod_elements])
  · rw [k_chg_size, g_mod_doneMany, g_mod_undoneMany]; exact r_sz
  · rw [k_chg_size, k_court_shoeCount, k_chg_sorts, k_chg_numbers]; exact CV_mono r_cv (Int.le_refl _) hn
theorem ps_law {ad : Nat → Nat} {cs : Nat → ClassId} {z u : ZT} {w : MT} {x1 : Int32} {Q : Int32 × Int32 × Int32 × Int32 × Int32 × Int32 × (Nat → Int32) × (Nat → Int32) × (Nat → Int32) × (Nat → Int32) × (Nat → Int32)} (hI : IX ad cs z) (hr : RL z w) (hk : KPL z u x1) (hf : f_X12_law 100000 x1 (w.1 0) (w.1 1) (w.1 2) (w.1 3) (w.1 4) (w.1 5) (w.1 6) (w.1 7) (w.1 8) (w.1 9) (w.1 10) (w.1 11) (w.1 12) (w.1 13) (w.1 14) (w.1 15) (w.1 16) (w.2.1 8) (w.2.1 24) (w.2.1 25) (w.2.1 26) (w.2.1 27) (w.2.1 28) = some Q) : RL u ((fun n => zc n 3 Q.2.1 (zc n 4 Q.2.2.1 (zc n 5 Q.2.2.2.1 (zc n 9 Q.2.2.2.2.1 (zc n 10 Q.2.2.2.2.2.1 (w.1 n)))))), (fun n => zc n 24 Q.2.2.2.2.2.2.1 (zc n 25 Q.2.2.2.2.2.2.2.1 (zc n 26 Q.2.2.2.2.2.2.2.2.1 (zc n 27 Q.2.2.2.2.2.2.2.2.2.1 (zc n 28 Q.2.2.2.2.2.2.2.2.2.2 (w.2.1 n)))))), w.2.2) := by
  obtain ⟨hkk, ⟨s_S_who, s_S_against, s_S_kind, s_S_day, s_S_land, s_S_askedCount, s_S_askedBits, s_S_first, s_S_foundSo, s_S_foundNot, s_S_fought, s_S_needed, s_S_asked, s_S_won, s_S_undoneFrom⟩, h1, h2⟩ := hk
  rw [← (rl_0 hr :), ← (rl_5 hr :), ← (rl_6 hr :), ← (rl_7 hr :), ← (rl_12 hr :), ← (rl_15 hr :), ← (rl_17 hr :)] at hf
  obtain ⟨q1, q2⟩ := lt_law hf
  have hz := (ix_3 hI)
  rcases h2 with ⟨c, h2⟩ | ⟨c, h2⟩
  · have c2 : (x1.toInt < 0 ∨ 4 ≤ (x1 / 10).toInt ∨ ¬ (x1 - x1 / 10 * 10).toInt < 8) := by simpa only [i32_lt, i32_le, z32_0, z32L_4, z32L_8] using c
    exact RL_s hkk hr (h1.trans (rl_6 hr :)) (h2.trans (q1 c2).symm) (by rw [h1]; exact Int.le_refl _) (by rw [h2]; exact Int.le_refl _) rfl rfl rfl rfl rfl rfl rfl rfl rfl rfl rfl rfl rfl rfl rfl rfl rfl rfl rfl rfl rfl rfl rfl rfl rfl (by rw [h1, s_S_won]; exact (rl_31 hr :)) (by rw [h1, s_S_undoneFrom]; exact (rl_32 hr :)) (by rw [h1, s_S_who, s_S_against, s_S_kind, s_S_day, s_S_land, s_S_askedCount, s_S_askedBits, s_S_first, s_S_foundSo, s_S_foundNot, s_S_fought, s_S_needed, s_S_asked]; exact (rl_33 hr :))
  · have c2 : ¬ (x1.toInt < 0 ∨ 4 ≤ (x1 / 10).toInt ∨ ¬ (x1 - x1 / 10 * 10).toInt < 8) := by simpa only [i32_lt, i32_le, z32_0, z32L_4, z32L_8] using c
    exact RL_s hkk hr (h1.trans (rl_6 hr :)) (h2.trans (q2 c2).symm) (by rw [h1]; exact Int.le_refl _) (by rw [h2, z32_0]; exact hz.1) rfl rfl rfl rfl rfl rfl rfl rfl rfl rfl rfl rfl rfl rfl rfl rfl rfl rfl rfl rfl rfl rfl rfl rfl rfl (by rw [h1, s_S_won]; exact (rl_31 hr :)) (by rw [h1, s_S_undoneFrom]; exact (rl_32 hr :)) (by rw [h1, s_S_who, s_S_against, s_S_kind, s_S_day, s_S_land, s_S_askedCount, s_S_askedBits, s_S_first, s_S_foundSo, s_S_foundNot, s_S_fought, s_S_needed, s_S_asked]; exact (rl_33 hr :))
theorem upd_sf {f : Nat → Int32} {k : Nat} {v : Int32} : upd f k v k = v := by
  unfold upd
  exact if_pos rfl
set_option maxHeartbeats 4000000 in
theorem ps_suit {ad : Nat → Nat} {cs : Nat → ClassId} {z u : ZT} {w : MT} {r : Int32} {Q : Int32 × Int32 × Int32 × Int32 × Int32 × (Nat → Int32) × (Nat → Int32) × (Nat → Int32) × (Nat → Int32) × (Nat → Int32) × (Nat → Int32) × (Nat → Int32) × (Nat → Int32) × (Nat → Int32) × (Nat → Int32) × (Nat → Int32)} (hI : IX ad cs z) (hr : RL z w) (hk : KPS z u r) (hf : f_X12_suit 100000  (w.1 0) (w.1 1) (w.1 2) (w.1 3) (w.1 4) (w.1 5) (w.1 6) (w.1 7) (w.1 8) (w.1 9) (w.1 10) (w.1 11) (w.1 12) (w.1 13) (w.1 14) (w.1 15) (w.1 16) (w.2.1 8) (w.2.1 9) (w.2.1 10) (w.2.1 11) (w.2.1 12) (w.2.1 13) (w.2.1 14) (w.2.1 15) (w.2.1 16) (w.2.1 17) (w.2.1 18) (w.2.1 19) = some Q) : r = Q.1 ∧ RL u ((fun n => zc n 3 Q.2.1 (zc n 4 Q.2.2.1 (zc n 5 Q.2.2.2.1 (zc n 6 Q.2.2.2.2.1 (w.1 n))))), (fun n => zc n 9 Q.2.2.2.2.2.1 (zc n 10 Q.2.2.2.2.2.2.1 (zc n 11 Q.2.2.2.2.2.2.2.1 (zc n 12 Q.2.2.2.2.2.2.2.2.1 (zc n 13 Q.2.2.2.2.2.2.2.2.2.1 (zc n 14 Q.2.2.2.2.2.2.2.2.2.2.1 (zc n 15 Q.2.2.2.2.2.2.2.2.2.2.2.1 (zc n 16 Q.2.2.2.2.2.2.2.2.2.2.2.2.1 (zc n 17 Q.2.2.2.2.2.2.2.2.2.2.2.2.2.1 (zc n 18 Q.2.2.2.2.2.2.2.2.2.2.2.2.2.2.1 (zc n 19 Q.2.2.2.2.2.2.2.2.2.2.2.2.2.2.2 (w.2.1 n)))))))))))), w.2.2) := by
  obtain ⟨hkk, hk⟩ := hk
  rw [← (rl_0 hr :), ← (rl_5 hr :), ← (rl_6 hr :), ← (rl_7 hr :), ← (rl_12 hr :), ← (rl_15 hr :), ← (rl_17 hr :)] at hf
  have hz := (ix_2 hI)
  have hz2 := (ix_3 hI)
  rcases hk with ⟨c, ⟨s_S_who, s_S_against, s_S_kind, s_S_day, s_S_land, s_S_askedCount, s_S_askedBits, s_S_first, s_S_foundSo, s_S_foundNot, s_S_fought, s_S_needed, s_S_asked, s_S_won, s_S_undoneFrom⟩, h1, h2, h3⟩ | ⟨c, h1, e_sr_spare, e_sr_numberAt, e_su_who, e_su_against, e_su_kind, e_su_won, e_su_day, e_su_land, e_su_undoneFrom, e_su_first, e_su_asked, ⟨v0, a9, n9, f3, w1, g1, k1, v1, d1, l1, n1, b1, s1, so1, no1, fo1, ne1, as1⟩, h5, hk⟩
  · have c2 : (z.1 2) = 40 := by
      rw [i32_lt, z32L_40] at c
      rw [i32_e, z32L_40]
      omega
    unfold f_X12_suit B_X12_suit_0 at hf
    have hf := Option.some.inj (zk_t c2 hf)
    subst hf
    exact ⟨h1, RL_s hkk hr (h2.trans rfl) (h3.trans rfl) (by rw [h2]; exact Int.le_refl _) (by rw [h3]; exact Int.le_refl _) rfl rfl rfl rfl rfl rfl rfl rfl rfl rfl rfl rfl rfl rfl rfl rfl rfl rfl rfl rfl rfl rfl rfl rfl rfl (by rw [h2, s_S_won]; exact (rl_31 hr :)) (by rw [h2, s_S_undoneFrom]; exact (rl_32 hr :)) (by rw [h2, s_S_who, s_S_against, s_S_kind, s_S_day, s_S_land, s_S_askedCount, s_S_askedBits, s_S_first, s_S_foundSo, s_S_foundNot, s_S_fought, s_S_needed, s_S_asked]; exact (rl_33 hr :))⟩
  · rw [i32_lt, z32L_40] at c
    obtain ⟨q0, q1, q2, q3, q4, q5, q6, q7, q8, q9, q10, q11, q12, q13, q14, q15⟩ := Q
    obtain ⟨p1, ⟨pr, pu⟩, p2, p3⟩ := pw_suit (ix_3 hI) (rl_22 hr :) (ix_1 hI) ⟨hz.1, c⟩ h5 hf
    dsimp only at hk p1 pr pu p2 p3
    subst p1
    subst pu
    rcases hk with ⟨d, h6, h7, ⟨s_S_who, s_S_against, s_S_kind, s_S_day, s_S_land, s_S_askedCount, s_S_askedBits, s_S_first, s_S_foundSo, s_S_foundNot, s_S_fought, s_S_needed, s_S_asked, s_S_won, s_S_undoneFrom⟩⟩ | ⟨d, h6, h7, t_S_who, t_S_against, t_S_kind, t_S_day, t_S_land, t_S_askedCount, t_S_askedBits, t_S_first, t_S_foundSo, t_S_foundNot, t_S_fought, t_S_needed, t_S_asked, t_S_won, uf, huf, t_S_undoneFrom⟩
    · rw [i32_le, z32_0] at d
      obtain ⟨p4, p5⟩ := p3 d
      subst p4
      subst p5
      exact ⟨h6, RL_s hkk hr (h7.trans rfl) (h1.trans rfl) (by rw [h7]; exact Int.le_refl _) (by rw [h1, z32_0]; exact hz2.1) rfl rfl rfl rfl rfl rfl rfl rfl rfl rfl rfl rfl rfl rfl rfl rfl rfl rfl rfl rfl rfl rfl rfl rfl rfl (by rw [h7, s_S_won]; exact WU_fault (rl_31 hr :) pr.2.2.2.1) (by rw [h7, s_S_undoneFrom]; exact WU_fault (rl_32 hr :) (fun j hj => upd_n hj)) (by rw [h7, s_S_who, s_S_against, s_S_kind, s_S_day, s_S_land, s_S_askedCount, s_S_askedBits, s_S_first, s_S_foundSo, s_S_foundNot, s_S_fought, s_S_needed, s_S_asked]; exact SUS_fault (rl_33 hr :) pr)⟩
    · rw [i32_le, z32_0] at d
      obtain ⟨p4, p5, z1, z2, z3, z4, z5, am, ma, pi, fm, y1, y2, y3, y4, y5, y6⟩ := p2 (by omega)
      have hs := i32_s (a := (z.1 2)) (by omega)
      have hnn : (u.1 2).toInt.toNat = (z.1 2).toInt.toNat + 1 := by rw [h7, hs]; omega
      have huf : uf = -1 := Int32.toInt_inj.mp (huf.trans (by decide))
      simp only [Prod.mk.injEq] at y6
      obtain ⟨rfl, rfl, rfl, rfl, rfl, rfl, _, rfl, rfl, rfl, rfl⟩ := y6
      subst p4
      subst p5
      have hC := CI_N y1
      have hP := PI_N y3
      exact ⟨h6, RL_s hkk hr (h7.trans rfl) (h1.trans rfl) (by rw [h7, hs]; omega) (by rw [h1, z32_0]; exact hz2.1) rfl rfl rfl rfl rfl rfl rfl rfl rfl rfl rfl rfl rfl rfl rfl rfl rfl rfl rfl rfl rfl rfl rfl rfl rfl (WU_new hnn (rl_31 hr :) t_S_won rfl rfl) (WU_new hnn (rl_32 hr :) t_S_undoneFrom rfl huf) (SUS_new (v1 := v1) hnn (rl_33 hr :) pr t_S_who t_S_against t_S_kind t_S_day t_S_land t_S_askedCount t_S_askedBits t_S_first t_S_foundSo t_S_foundNot t_S_fought t_S_needed t_S_asked upd_sf upd_sf upd_sf upd_sf upd_sf (fun e => by rw [y5.1 (Int32.toInt_inj.mp (e.trans (by decide)))]; exact upd_sf) (fun e => by rw [y5.2 (fun q => e (by rw [q]; decide))]; exact upd_sf) hC hP ⟨z5.1, z5.2.1⟩)⟩
theorem pe_lt {x : Int32} {a b : Int32} (h : b.toInt = a.toInt + 1) : (a < x) ↔ (b ≤ x) := by
  rw [Int32.lt_iff_toInt_lt, Int32.le_iff_toInt_le]
  omega
set_option maxHeartbeats 1000000 in
theorem pe_claim {x1 x2 x3 : Int32} {q_court_shoeCount : Int32} {q_court_claimCount : Int32} {q_court_suitCount : Int32} {q_court_claimWho : Nat → Int32} {q_court_claimAgainst : Nat → Int32} {q_court_claimFact : Nat → Int32} {q_court_claimPlea : Nat → Int32} {q_mod_code : Int32} {q_mod_shoes : Int32} {q_mod_taped : Int32} {q_mod_here : Int32} {q_mod_fault : Int32} {q_mod_suits : Int32} {q_mod_doneMany : Int32} {q_mod_undoneMany : Int32} {q_mod_open : Int32} {q_mod_laid : Int32} {q_mod_isBoth : Int32} {q_mod_wished : Int32} {q_mod_bestMany : Int32} {q_mod_bestRow : Int32} {q_mod_ringDigits : Int32} {q_mod_traces : Int32} (hc : 0 ≤ q_court_claimCount.toInt ∧ q_court_claimCount.toInt ≤ 32) : f_X12_claim x1 x2 x3 q_mod_code q_mod_shoes q_court_claimCount q_mod_taped q_mod_here q_mod_fault q_mod_suits q_mod_doneMany q_mod_undoneMany q_mod_open q_mod_laid q_mod_isBoth q_mod_wished q_mod_bestMany q_mod_bestRow q_mod_ringDigits q_mod_traces q_court_claimWho q_court_claimAgainst q_court_claimFact q_court_claimPlea = f_X11_claim x1 x2 x3 q_court_shoeCount q_court_claimCount q_court_suitCount q_court_claimWho q_court_claimAgainst q_court_claimFact q_court_claimPlea := by
  have e : f_X12_isPair x1 = f_X11_isPair x1 := rfl
  unfold f_X12_claim B_X12_claim_0 f_X11_claim B_X11_claim_0
  rw [e]
  unfold zk_b2
  refine congrArg (Option.bind (f_X11_isPair x1)) (funext fun q => ?_)
  obtain ⟨r, u⟩ := q
  dsimp only
  by_cases c1 : r = 0
  · rw [if_pos c1, if_pos c1]
  rw [if_neg c1, if_neg c1]
  by_cases c2 : x1 / (100 : Int32) = x1 - x1 / (100 : Int32) * (100 : Int32)
  · rw [if_pos c2, if_pos c2]
  rw [if_neg c2, if_neg c2, pe_in, Option.bind_some]
  dsimp only
  have e15 : ((15 : Int32) < x2) ↔ ((16 : Int32) ≤ x2) := pe_lt (by decide)
  have e3 : ¬ ((3 : Int32) < x3) ↔ (x3 < (4 : Int32)) := by
    rw [pe_lt (a := 3) (b := 4) (by decide)]
    exact Int32.not_le
  by_cases c3 : x2 < 0
  · rw [if_pos (Or.inl c3), if_pos rfl, if_pos c3]
  by_cases c4 : (16 : Int32) ≤ x2
  · rw [if_pos (Or.inr (e15.mpr c4)), if_pos rfl, if_neg c3, if_pos c4]
  have hn3 : ¬ (x2 < 0 ∨ (15 : Int32) < x2) := fun z => z.elim c3 (fun y => c4 (e15.mp y))
  have hn1 : ¬ ((1 : Int32) = 0) := by decide
  rw [if_neg hn3, if_neg hn1, if_neg c3, if_neg c4, pe_in, Option.bind_some]
  dsimp only
  by_cases c5 : x3 < 0
  · rw [if_pos (Or.inl c5), if_pos rfl, if_pos c5]
  by_cases c6 : x3 < (4 : Int32)
  · have hn5 : ¬ (x3 < 0 ∨ (3 : Int32) < x3) := fun z => z.elim c5 (fun y => absurd y (e3.mpr c6))
    rw [if_neg hn5, if_neg hn1, if_neg c5, if_pos c6]
    unfold f_X2_addClaim B_X2_addClaim_0
    by_cases c7 : q_court_claimCount = (32 : Int32)
    · rw [if_pos c7, if_neg (by rw [c7]; decide)]
      rfl
    · have c8 : q_court_claimCount < (32 : Int32) := by
        rw [Int32.lt_iff_toInt_lt]
        have e32 : (32 : Int32).toInt = 32 := by decide
        have : q_court_claimCount.toInt ≠ 32 := fun z => c7 (Int32.toInt_inj.mp (z.trans e32.symm))
        omega
      have g : ¬ (q_court_claimCount < 0 ∨ 32 ≤ q_court_claimCount.toNatClampNeg) := by
        rintro (z | z)
        · have := Int32.lt_iff_toInt_lt.mp z
          have e0 : (0 : Int32).toInt = 0 := by decide
          omega
        · have e1 : q_court_claimCount.toNatClampNeg = q_court_claimCount.toInt.toNat := rfl
          have := Int32.lt_iff_toInt_lt.mp c8
          have e32 : (32 : Int32).toInt = 32 := by decide
          omega
      rw [if_neg c7, if_pos c8]
      unfold zk_let
      simp only [if_neg g]
      rfl
  · have c9 : (3 : Int32) < x3 := Decidable.not_not.mp (fun z => c6 (e3.mp z))
    rw [if_pos (Or.inr c9), if_pos rfl, if_neg c5, if_neg c6]
set_option maxHeartbeats 1000000 in
theorem pe_ofClaim {x1 x2 : Int32} {q_court_shoeCount : Int32} {q_court_claimCount : Int32} {q_court_suitCount : Int32} {q_court_claimWho : Nat → Int32} {q_court_claimAgainst : Nat → Int32} {q_court_claimFact : Nat → Int32} {q_court_claimPlea : Nat → Int32} {q_mod_code : Int32} {q_mod_shoes : Int32} {q_mod_taped : Int32} {q_mod_here : Int32} {q_mod_fault : Int32} {q_mod_suits : Int32} {q_mod_doneMany : Int32} {q_mod_undoneMany : Int32} {q_mod_open : Int32} {q_mod_laid : Int32} {q_mod_isBoth : Int32} {q_mod_wished : Int32} {q_mod_bestMany : Int32} {q_mod_bestRow : Int32} {q_mod_ringDigits : Int32} {q_mod_traces : Int32} (hc : 0 ≤ q_court_claimCount.toInt ∧ q_court_claimCount.toInt ≤ 32) : f_X12_ofClaim x1 x2 q_mod_code q_mod_shoes q_court_claimCount q_mod_taped q_mod_here q_mod_fault q_mod_suits q_mod_doneMany q_mod_undoneMany q_mod_open q_mod_laid q_mod_isBoth q_mod_wished q_mod_bestMany q_mod_bestRow q_mod_ringDigits q_mod_traces q_court_claimWho q_court_claimAgainst q_court_claimFact q_court_claimPlea = f_X11_ofClaim x1 x2 q_court_shoeCount q_court_claimCount q_court_suitCount q_court_claimWho q_court_claimAgainst q_court_claimFact q_court_claimPlea := by
  have e0 : (0 : Int32).toInt = 0 := by decide
  have e1 : (1 : Int32).toInt = 1 := by decide
  have hs : (q_court_claimCount - 1).toInt = q_court_claimCount.toInt - 1 := by rw [Int32.toInt_sub, e1]; exact zi_bm2 (by omega) (by omega)
  have e : f_X12_isClaim x1 q_mod_code q_mod_shoes q_court_claimCount q_mod_taped q_mod_here q_mod_fault q_mod_suits q_mod_doneMany q_mod_undoneMany q_mod_open q_mod_laid q_mod_isBoth q_mod_wished q_mod_bestMany q_mod_bestRow q_mod_ringDigits q_mod_traces = f_X11_isClaim x1 q_court_shoeCount q_court_claimCount q_court_suitCount := by
    unfold f_X12_isClaim B_X12_isClaim_0 f_X11_isClaim B_X11_isClaim_0
    rw [pe_in, pe_b2]
    by_cases c1 : x1 < 0
    · have h00 : ¬ ¬ ((0 : Int32) = 0 ∨ (0 : Int32) = 1) := by decide
      rw [if_pos (Or.inl c1), if_neg h00, if_pos c1]
    · by_cases c2 : q_court_claimCount ≤ x1
      · have c3 : q_court_claimCount - 1 < x1 := by
          rw [Int32.lt_iff_toInt_lt, hs]
          have := Int32.le_iff_toInt_le.mp c2
          omega
        have h00 : ¬ ¬ ((0 : Int32) = 0 ∨ (0 : Int32) = 1) := by decide
        rw [if_pos (Or.inr c3), if_neg h00, if_neg c1, if_pos c2]
      · have c3 : ¬ (q_court_claimCount - 1 < x1) := fun z => by
          have h1 := Int32.lt_iff_toInt_lt.mp z
          rw [hs] at h1
          exact c2 (Int32.le_iff_toInt_le.mpr (by omega))
        have hn : ¬ (x1 < 0 ∨ q_court_claimCount - 1 < x1) := fun z => z.elim c1 c3
        have h01 : ¬ ¬ ((1 : Int32) = 0 ∨ (1 : Int32) = 1) := by decide
        rw [if_neg hn, if_neg h01, if_neg c1, if_neg c2]
  unfold f_X12_ofClaim B_X12_ofClaim_0 f_X11_ofClaim B_X11_ofClaim_0
  rw [e]
theorem pe_isClaim {x1 cc s : Int32} {mod_code : Int32} {mod_shoes : Int32} {mod_taped : Int32} {mod_here : Int32} {mod_fault : Int32} {mod_suits : Int32} {mod_doneMany : Int32} {mod_undoneMany : Int32} {mod_open : Int32} {mod_laid : Int32} {mod_isBoth : Int32} {mod_bestMany : Int32} {mod_bestRow : Int32} {mod_ringDigits : Int32} {mod_traces : Int32} {court_shoeCount : Int32} {court_suitCount : Int32} (hc : 0 ≤ cc.toInt ∧ cc.toInt ≤ 32) : f_X12_isClaim x1 mod_code mod_shoes cc mod_taped mod_here mod_fault mod_suits mod_doneMany mod_undoneMany mod_open mod_laid mod_isBoth s mod_bestMany mod_bestRow mod_ringDigits mod_traces = f_X11_isClaim x1 court_shoeCount cc court_suitCount := by
  have e0 : (0 : Int32).toInt = 0 := by decide
  have e1 : (1 : Int32).toInt = 1 := by decide
  have hs : (cc - 1).toInt = cc.toInt - 1 := by rw [Int32.toInt_sub, e1]; exact zi_bm2 (by omega) (by omega)
  unfold f_X12_isClaim B_X12_isClaim_0 f_X11_isClaim B_X11_isClaim_0
  rw [pe_in, pe_b2]
  by_cases c1 : x1 < 0
  · have h00 : ¬ ¬ ((0 : Int32) = 0 ∨ (0 : Int32) = 1) := by decide
    rw [if_pos (Or.inl c1), if_neg h00, if_pos c1]
  · by_cases c2 : cc ≤ x1
    · have c3 : cc - 1 < x1 := by
        rw [Int32.lt_iff_toInt_lt, hs]
        have := Int32.le_iff_toInt_le.mp c2
        omega
      have h00 : ¬ ¬ ((0 : Int32) = 0 ∨ (0 : Int32) = 1) := by decide
      rw [if_pos (Or.inr c3), if_neg h00, if_neg c1, if_pos c2]
    · have c3 : ¬ (cc - 1 < x1) := fun z => by
        have h1 := Int32.lt_iff_toInt_lt.mp z
        rw [hs] at h1
        exact c2 (Int32.le_iff_toInt_le.mpr (by omega))
      have hn : ¬ (x1 < 0 ∨ cc - 1 < x1) := fun z => z.elim c1 c3
      have h01 : ¬ ¬ ((1 : Int32) = 0 ∨ (1 : Int32) = 1) := by decide
      rw [if_neg hn, if_neg h01, if_neg c1, if_neg c2]
def pwR (r s x1 x2 : Int32) (c w : Nat → Int32) (R : Int32 × Int32 × (Nat → Int32) × (Nat → Int32)) : Prop :=
  (¬ r = 0 → R.1 = -1 ∧ R.2.1 = s ∧ R.2.2.1 = c ∧ R.2.2.2 = w) ∧ (r = 0 → s = 5 → R.1 = -3 ∧ R.2.1 = s ∧ R.2.2.1 = c ∧ R.2.2.2 = w) ∧ (r = 0 → ¬ s = 5 → R.1 = s + 1 ∧ R.2.1 = s + 1 ∧ R.2.2.1 = upd c s.toNatClampNeg x1 ∧ R.2.2.2 = upd w s.toNatClampNeg x2)
theorem pwg {mod_code : Int32} {mod_shoes : Int32} {mod_claims : Int32} {mod_taped : Int32} {mod_here : Int32} {mod_fault : Int32} {mod_suits : Int32} {mod_doneMany : Int32} {mod_undoneMany : Int32} {mod_open : Int32} {mod_laid : Int32} {mod_isBoth : Int32} {mod_bestMany : Int32} {mod_bestRow : Int32} {mod_ringDigits : Int32} {mod_traces : Int32} {wishes_best : Int32} {wishes_bestRow : Int32} {x1 x2 s : Int32} {c w : Nat → Int32} : ∀ (n m : Nat) (x3 r : Int32) (u : Unit) (R : Int32 × Int32 × (Nat → Int32) × (Nat → Int32)), G_X12_wish mod_code mod_shoes mod_claims mod_taped mod_here mod_fault mod_suits mod_doneMany mod_undoneMany mod_open mod_laid mod_isBoth mod_bestMany mod_bestRow mod_ringDigits mod_traces n x1 x2 x3 s c w = some R → G_X10_has s wishes_best wishes_bestRow c m x1 x3 = some (r, u) → pwR r s x1 x2 c w R := by
  intro n
  induction n with
  | zero => intro m x3 r u R h; cases h
  | succ n ih =>
    intro m x3 r u R h hm
    cases m with
    | zero => cases hm
    | succ m =>
      have h : B_X12_wish_21 (G_X12_wish mod_code mod_shoes mod_claims mod_taped mod_here mod_fault mod_suits mod_doneMany mod_undoneMany mod_open mod_laid mod_isBoth mod_bestMany mod_bestRow mod_ringDigits mod_traces n) mod_code mod_shoes mod_claims mod_taped mod_here mod_fault mod_suits mod_doneMany mod_undoneMany mod_open mod_laid mod_isBoth mod_bestMany mod_bestRow mod_ringDigits mod_traces x1 x2 x3 s c w = some R := h
      have hm : B_X10_has_2 (G_X10_has s wishes_best wishes_bestRow c m) s wishes_best wishes_bestRow c x1 x3 = some (r, u) := hm
      unfold B_X12_wish_21 at h
      unfold B_X10_has_2 at hm
      by_cases k : s ≤ x3
      · have h := zk_t k h
        have hm := zk_t k hm
        have e : (0 : Int32) = r := congrArg Prod.fst (Option.some.inj hm)
        subst e
        refine ⟨fun z => absurd rfl z, fun _ k2 => ?_, fun _ k2 => ?_⟩
        · have h := zk_t k2 h
          rw [← Option.some.inj h]
          exact ⟨rfl, rfl, rfl, rfl⟩
        · have h := zk_f k2 h
          obtain ⟨_, h⟩ := zk_gd h
          obtain ⟨f1, e1, h⟩ := zk_lt h
          obtain ⟨_, h⟩ := zk_gd h
          obtain ⟨f2, e2, h⟩ := zk_lt h
          obtain ⟨v, e3, h⟩ := zk_lt h
          rw [← Option.some.inj h, e3, e1, e2]
          exact ⟨rfl, rfl, rfl, rfl⟩
      · have h := zk_f k h
        have hm := zk_f k hm
        obtain ⟨_, h⟩ := zk_gd h
        obtain ⟨_, hm⟩ := zk_gd hm
        by_cases k2 : c x3.toNatClampNeg = x1
        · have h := zk_t k2 h
          have hm := zk_t k2 hm
          have e : (1 : Int32) = r := congrArg Prod.fst (Option.some.inj hm)
          subst e
          refine ⟨fun _ => ?_, fun z => absurd z (by decide), fun z => absurd z (by decide)⟩
          rw [← Option.some.inj h]
          exact ⟨rfl, rfl, rfl, rfl⟩
        · have h := zk_f k2 h
          have hm := zk_f k2 hm
          obtain ⟨v, e, h⟩ := zk_lt h
          obtain ⟨v2, e2, hm⟩ := zk_lt hm
          subst e
          subst e2
          exact ih _ _ _ _ _ h hm
theorem pe_wish {x1 x2 cc s : Int32} {c w : Nat → Int32} {court_shoeCount : Int32} {court_suitCount : Int32} {wishes_best : Int32} {wishes_bestRow : Int32} {mod_code : Int32} {mod_shoes : Int32} {mod_taped : Int32} {mod_here : Int32} {mod_fault : Int32} {mod_suits : Int32} {mod_doneMany : Int32} {mod_undoneMany : Int32} {mod_open : Int32} {mod_laid : Int32} {mod_isBoth : Int32} {mod_bestMany : Int32} {mod_bestRow : Int32} {mod_ringDigits : Int32} {mod_traces : Int32} {R1 R2 : Int32 × Int32 × (Nat → Int32) × (Nat → Int32)} (hc : 0 ≤ cc.toInt ∧ cc.toInt ≤ 32) (hs : 0 ≤ s.toInt ∧ s.toInt ≤ 5) (hf1 : f_X11_wish x1 x2 court_shoeCount cc court_suitCount s wishes_best wishes_bestRow c w = some R1) (hf2 : f_X12_wish 100000 x1 x2 mod_code mod_shoes cc mod_taped mod_here mod_fault mod_suits mod_doneMany mod_undoneMany mod_open mod_laid mod_isBoth s mod_bestMany mod_bestRow mod_ringDigits mod_traces c w = some R2) : R1.1 = R2.1 ∧ R1.2.1 = R2.2.1 ∧ R1.2.2.1 = R2.2.2.1 ∧ R1.2.2.2 = R2.2.2.2 := by
  unfold f_X11_wish B_X11_wish_0 at hf1
  unfold f_X12_wish B_X12_wish_0 at hf2
  rw [pe_isClaim (court_shoeCount := court_shoeCount) (court_suitCount := court_suitCount) hc] at hf2
  obtain ⟨r, u, a1, hf1⟩ := zk_o2 hf1
  obtain ⟨r', u', a2, hf2⟩ := zk_o2 hf2
  have e : r = r' := congrArg Prod.fst (Option.some.inj (a1.symm.trans a2))
  subst e
  by_cases c1 : r = 0
  · have hf1 := zk_t c1 hf1
    have hf2 := zk_t c1 hf2
    rw [← Option.some.inj hf1, ← Option.some.inj hf2]
    exact ⟨rfl, rfl, rfl, rfl⟩
  have hf1 := zk_f c1 hf1
  have hf2 := zk_f c1 hf2
  obtain ⟨r2, u2, a3, hf1⟩ := zk_o2 hf1
  obtain ⟨r2', u2', a4, hf2⟩ := zk_o2 hf2
  have e2 : (r2 = 0) ↔ (r2' = 0) := by
    rw [pe_in] at a4
    have e4 := congrArg Prod.fst (Option.some.inj a4)
    dsimp only at e4
    unfold f_X11_isChoice B_X11_isChoice_0 B_X11_isChoice_9 at a3
    have e1 : ((1 : Int32) < x2) ↔ ((2 : Int32) ≤ x2) := pe_lt (by decide)
    by_cases k1 : x2 = 0
    · have a3 := zk_t k1 a3
      have e3 : (1 : Int32) = r2 := congrArg Prod.fst (Option.some.inj a3)
      rw [k1, if_neg (by decide)] at e4
      rw [← e3, ← e4]
    · have a3 := zk_f k1 a3
      by_cases k2 : x2 = (1 : Int32)
      · have a3 := zk_t k2 a3
        have e3 : (1 : Int32) = r2 := congrArg Prod.fst (Option.some.inj a3)
        rw [k2, if_neg (by decide)] at e4
        rw [← e3, ← e4]
      · have a3 := zk_f k2 a3
        have e3 : (0 : Int32) = r2 := congrArg Prod.fst (Option.some.inj a3)
        have k3 : x2 < 0 ∨ (1 : Int32) < x2 := by
          rw [Int32.lt_iff_toInt_lt, Int32.lt_iff_toInt_lt]
          have e0 : (0 : Int32).toInt = 0 := by decide
          have e1 : (1 : Int32).toInt = 1 := by decide
          have n0 : x2.toInt ≠ 0 := fun z => k1 (Int32.toInt_inj.mp (z.trans e0.symm))
          have n1 : x2.toInt ≠ 1 := fun z => k2 (Int32.toInt_inj.mp (z.trans e1.symm))
          omega
        rw [if_pos k3] at e4
        rw [← e3, ← e4]
  by_cases c2 : r2 = 0
  · have hf1 := zk_t c2 hf1
    have hf2 := zk_t (e2.mp c2) hf2
    rw [← Option.some.inj hf1, ← Option.some.inj hf2]
    exact ⟨rfl, rfl, rfl, rfl⟩
  have hf1 := zk_f c2 hf1
  have hf2 := zk_f (fun z => c2 (e2.mpr z)) hf2
  obtain ⟨r3, u3, a5, hf1⟩ := zk_o2 hf1
  unfold f_X10_has B_X10_has_0 at a5
  obtain ⟨w1, w2, w3⟩ := pwg _ _ _ _ _ _ hf2 a5
  have e5 : (5 : Int32).toInt = 5 := by decide
  by_cases c3 : r3 = 0
  · have hf1 := zk_t c3 hf1
    by_cases c4 : s = 5
    · have hf1 := zk_f (by rw [c4]; decide) hf1
      obtain ⟨q1, q2, q3, q4⟩ := w2 c3 c4
      rw [← Option.some.inj hf1]
      exact ⟨q1.symm, q2.symm, q3.symm, q4.symm⟩
    · have n5 : s.toInt ≠ 5 := fun z => c4 (Int32.toInt_inj.mp (z.trans e5.symm))
      have hf1 := zk_t (show s < (5 : Int32) by rw [Int32.lt_iff_toInt_lt]; omega) hf1
      obtain ⟨v1, v2, v3, a6, hf1⟩ := zk_o3 hf1
      unfold f_X10_add B_X10_add_0 at a6
      have a6 := zk_f (show ¬ (5 : Int32) ≤ s by rw [Int32.le_iff_toInt_le]; omega) a6
      obtain ⟨_, a6⟩ := zk_gd a6
      obtain ⟨f1, d1, a6⟩ := zk_lt a6
      obtain ⟨_, a6⟩ := zk_gd a6
      obtain ⟨f2, d2, a6⟩ := zk_lt a6
      obtain ⟨v, d3, a6⟩ := zk_lt a6
      obtain ⟨q1, q2, q3, q4⟩ := w3 c3 c4
      have h6 := Option.some.inj a6
      have g1 : v = v1 := congrArg Prod.fst h6
      have g2 : f1 = v2 := congrArg (fun z => z.2.1) h6
      rw [← Option.some.inj hf1]
      have g3 : f2 = v3 := congrArg (fun z => z.2.2) h6
      refine ⟨?_, ?_, ?_, ?_⟩
      · rw [q1, ← d3]; exact g1.symm
      · rw [q2, ← d3]; exact g1.symm
      · rw [q3, ← d1]; exact g2.symm
      · rw [q4, ← d2]; exact g3.symm
  · have hf1 := zk_f c3 hf1
    obtain ⟨q1, q2, q3, q4⟩ := w1 c3
    rw [← Option.some.inj hf1]
    exact ⟨q1.symm, q2.symm, q3.symm, q4.symm⟩
