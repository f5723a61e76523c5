
theorem CI_00 {x1 : Int32} {am ma as : Nat → Int32} (h : am x1.toInt.toNat = 0) : CI x1 0 am ma as 0 := by
  refine ⟨by decide, h, fun k hk => ?_, fun k hk => ?_, fun v hv => ?_, fun j k hj hk e => ?_⟩
  · exact absurd hk (by rw [z32_0]; exact Nat.not_lt_zero k)
  · exact absurd hk (by rw [z32_0]; exact Nat.not_lt_zero k)
  · rw [bt_z]
    constructor
    · intro z; cases z
    · rintro ⟨k, hk, _⟩
      exact absurd hk (by rw [z32_0]; exact Nat.not_lt_zero k)
  · exact absurd hj (by rw [z32_0]; exact Nat.not_lt_zero j)
theorem PI_0 {x1 : Int32} {pi : Nat → Int32} (h : ∀ p, p < 32 → pi (32 * x1.toInt.toNat + p) = 0) : PI x1 0 0 0 0 pi := by
  intro p hp
  rw [h p hp]
  unfold PV
  simp only [bt_z]
  decide
theorem nar0 : vp_nar .byte 0 = 0 := by decide
set_option maxHeartbeats 4000000 in
set_option maxRecDepth 20000 in
theorem ps_loop {mod_code : Int32} {court_shoeCount : Int32} {mod_claims : Int32} {ts : Int32} {at_ : Int32} {f : Int32} {court_suitCount : Int32} {mod_doneMany : Int32} {mod_undoneMany : Int32} {mod_open : Int32} {mod_laid : Int32} {mod_isBoth : Int32} {mod_wished : Int32} {mod_bestMany : Int32} {mod_bestRow : Int32} {mod_ringDigits : Int32} {mod_traces : Int32} {tm : Nat → Int32} {mod_askedMany : Nat → Int32} {mod_asked : Nat → Int32} {mod_endKind : Nat → Int32} {mod_isWon : Nat → Int32} {mod_firstMany : Nat → Int32} {mod_suedBy : Nat → Int32} {mod_suedOn : Nat → Int32} {mod_suitDay : Nat → Int32} {mod_suitLand : Nat → Int32} {mod_undoneFrom : Nat → Int32} (hn : 0 ≤ court_suitCount.toInt ∧ court_suitCount.toInt ≤ 44) : ∀ (N : Nat) (x1 : Int32) (mod_pointIs : Nat → Int32) (Q : Int32 × Int32 × Int32 × Int32 × Int32 × (Nat → Int32) × (Nat → Int32) × (Nat → Int32) × (Nat → Int32) × (Nat → Int32) × (Nat → Int32) × (Nat → Int32) × (Nat → Int32) × (Nat → Int32) × (Nat → Int32) × (Nat → Int32)), 0 ≤ x1.toInt → x1.toInt ≤ 32 → G_X12_suit mod_code court_shoeCount mod_claims mod_doneMany mod_undoneMany mod_open mod_laid mod_isBoth mod_wished mod_bestMany mod_bestRow mod_ringDigits mod_traces tm N x1 ts at_ f court_suitCount mod_suedBy mod_suedOn mod_endKind mod_isWon mod_suitDay mod_suitLand mod_undoneFrom mod_askedMany mod_firstMany mod_asked mod_pointIs = some Q → ∃ (pi2 : Nat → Int32) (U : Int32 × Int32 × (Nat → Int32) × (Nat → Int32) × (Nat → Int32) × (Nat → Int32) × (Nat → Int32) × (Nat → Int32) × (Nat → Int32) × (Nat → Int32) × (Nat → Int32) × (Nat → Int32)), (∀ p, x1.toInt.toNat ≤ p → p < 32 → pi2 (32 * court_suitCount.toInt.toNat + p) = 0) ∧ (∀ j, (j < 32 * court_suitCount.toInt.toNat + x1.toInt.toNat ∨ 32 * court_suitCount.toInt.toNat + 32 ≤ j) → pi2 j = mod_pointIs j) ∧ f_X12_readSuit 100000 court_suitCount mod_code court_shoeCount mod_claims ts at_ f court_suitCount mod_doneMany mod_undoneMany mod_open mod_laid mod_isBoth mod_wished mod_bestMany mod_bestRow mod_ringDigits mod_traces tm mod_suedBy mod_suedOn mod_endKind mod_isWon mod_suitDay mod_suitLand mod_askedMany mod_firstMany mod_asked pi2 = some U ∧ ((U.2.1.toInt < 0 ∧ Q = (court_suitCount + 1 - 1, 0, U.1, U.2.1, court_suitCount + 1, U.2.2.1, U.2.2.2.1, U.2.2.2.2.1, U.2.2.2.2.2.1, U.2.2.2.2.2.2.1, U.2.2.2.2.2.2.2.1, mod_undoneFrom, U.2.2.2.2.2.2.2.2.1, U.2.2.2.2.2.2.2.2.2.1, U.2.2.2.2.2.2.2.2.2.2.1, U.2.2.2.2.2.2.2.2.2.2.2)) ∨ (0 ≤ U.2.1.toInt ∧ Q = ((-100 : Int32) - U.2.1, 0, U.1, U.2.1, court_suitCount, U.2.2.1, U.2.2.2.1, U.2.2.2.2.1, U.2.2.2.2.2.1, U.2.2.2.2.2.2.1, U.2.2.2.2.2.2.2.1, mod_undoneFrom, U.2.2.2.2.2.2.2.2.1, U.2.2.2.2.2.2.2.2.2.1, U.2.2.2.2.2.2.2.2.2.2.1, U.2.2.2.2.2.2.2.2.2.2.2))) := by
  intro N
  induction N with
  | zero =>
    intro x1 mod_pointIs Q _ _ h
    cases h
  | succ N ih =>
    intro x1 mod_pointIs Q h0 h1 h
    replace h : B_X12_suit_44 (G_X12_suit mod_code court_shoeCount mod_claims mod_doneMany mod_undoneMany mod_open mod_laid mod_isBoth mod_wished mod_bestMany mod_bestRow mod_ringDigits mod_traces tm N) mod_code court_shoeCount mod_claims mod_doneMany mod_undoneMany mod_open mod_laid mod_isBoth mod_wished mod_bestMany mod_bestRow mod_ringDigits mod_traces tm x1 ts at_ f court_suitCount mod_suedBy mod_suedOn mod_endKind mod_isWon mod_suitDay mod_suitLand mod_undoneFrom mod_askedMany mod_firstMany mod_asked mod_pointIs = some Q := h
    unfold B_X12_suit_44 at h
    by_cases c : (32 : Int32) ≤ x1
    · replace h := zk_t c h
      rw [i32_le, z32L_32] at c
      replace h := zk_o12 h
      obtain ⟨u7, u8, u9, u10, u11, u12, u13, u14, u15, u16, u17, u18, a1, h⟩ := h
      refine ⟨mod_pointIs, (u7, u8, u9, u10, u11, u12, u13, u14, u15, u16, u17, u18), fun p k1 k2 => by exfalso; omega, fun j _ => rfl, a1, ?_⟩
      by_cases c2 : u8 < 0
      · replace h := zk_t c2 h
        replace h := zk_lt h
        obtain ⟨v, e, h⟩ := h
        subst e
        rw [i32_lt, z32_0] at c2
        exact Or.inl ⟨c2, (Option.some.inj h).symm⟩
      · replace h := zk_f c2 h
        rw [i32_lt, z32_0] at c2
        exact Or.inr ⟨by show 0 ≤ u8.toInt; omega, (Option.some.inj h).symm⟩
    · replace h := zk_f c h
      rw [i32_le, z32L_32] at c
      replace h := zk_gd h
      obtain ⟨_, h⟩ := h
      replace h := zk_lt h
      obtain ⟨f1, e1, h⟩ := h
      replace h := zk_lt h
      obtain ⟨f2, e2, h⟩ := h
      subst e1
      subst e2
      have s3 := i32_s (a := x1) (by omega)
      obtain ⟨pi2, U, q1, q2, q3, q4⟩ := ih _ _ Q (by omega) (by omega) h
      refine ⟨pi2, U, fun p k1 k2 => ?_, fun j hj => ?_, q3, q4⟩
      · by_cases cp : p = x1.toInt.toNat
        · rw [q2 _ (by omega), ix32 hn (by omega)]
          unfold upd
          rw [if_pos (by omega)]
          exact nar0
        · exact q1 p (by omega) k2
      · rw [q2 j (by omega), ix32 hn (by omega)]
        exact upd_n (by omega)
set_option maxHeartbeats 4000000 in
set_option maxRecDepth 20000 in
theorem pw_suit {mod_code : Int32} {court_shoeCount : Int32} {mod_claims : Int32} {ts : Int32} {at_ : Int32} {f : Int32} {court_suitCount : Int32} {mod_doneMany : Int32} {mod_undoneMany : Int32} {mod_open : Int32} {mod_laid : Int32} {mod_isBoth : Int32} {mod_wished : Int32} {mod_bestMany : Int32} {mod_bestRow : Int32} {mod_ringDigits : Int32} {mod_traces : Int32} {tm : Nat → Int32} {mod_askedMany : Nat → Int32} {mod_asked : Nat → Int32} {mod_pointIs : Nat → Int32} {mod_endKind : Nat → Int32} {mod_isWon : Nat → Int32} {mod_firstMany : Nat → Int32} {mod_suedBy : Nat → Int32} {mod_suedOn : Nat → Int32} {mod_suitDay : Nat → Int32} {mod_suitLand : Nat → Int32} {mod_undoneFrom : Nat → Int32} {tb : Nat → Int32} {su_who : Int32} {su_against : Int32} {su_kind : Int32} {su_won : Int32} {su_day : Int32} {su_land : Int32} {su_undoneFrom : Int32} {su_first : Int32} {su_asked : Nat → Int32} {sp : Value} {na : Int32} {m : Nat} {v0 : Value} {a9 n9 f3 w1 g1 k1 v1 d1 l1 n1 b1 s1 so1 no1 fo1 ne1 : Int32} {as1 : Nat → Int32} {Q : Int32 × Int32 × Int32 × Int32 × Int32 × (Nat → Int32) × (Nat → Int32) × (Nat → Int32) × (Nat → Int32) × (Nat → Int32) × (Nat → Int32) × (Nat → Int32) × (Nat → Int32) × (Nat → Int32) × (Nat → Int32) × (Nat → Int32)} (hT : TS ts) (hR : TR ts tb tm) (hcc : 0 ≤ mod_claims.toInt ∧ mod_claims.toInt ≤ 32) (hn : 0 ≤ court_suitCount.toInt ∧ court_suitCount.toInt < 40) (h : f_X8_read mod_claims ts tb sp 0 na (-1) su_who su_against su_kind su_won su_day su_land su_undoneFrom 0 0 su_first 0 0 0 0 su_asked = some (v0, a9, n9, f3, w1, g1, k1, v1, d1, l1, n1, b1, s1, so1, no1, fo1, ne1, as1)) (k : f_X12_suit m mod_code court_shoeCount mod_claims ts at_ f court_suitCount mod_doneMany mod_undoneMany mod_open mod_laid mod_isBoth mod_wished mod_bestMany mod_bestRow mod_ringDigits mod_traces tm mod_suedBy mod_suedOn mod_endKind mod_isWon mod_suitDay mod_suitLand mod_undoneFrom mod_askedMany mod_firstMany mod_asked mod_pointIs = some Q) : Q.2.1 = 0 ∧ (RFR court_suitCount.toInt.toNat (mod_suedBy, mod_suedOn, mod_endKind, mod_isWon, mod_suitDay, mod_suitLand, mod_askedMany, mod_firstMany, mod_asked, mod_pointIs) (Q.2.2.2.2.2.1, Q.2.2.2.2.2.2.1, Q.2.2.2.2.2.2.2.1, Q.2.2.2.2.2.2.2.2.1, Q.2.2.2.2.2.2.2.2.2.1, Q.2.2.2.2.2.2.2.2.2.2.1, Q.2.2.2.2.2.2.2.2.2.2.2.2.1, Q.2.2.2.2.2.2.2.2.2.2.2.2.2.1, Q.2.2.2.2.2.2.2.2.2.2.2.2.2.2.1, Q.2.2.2.2.2.2.2.2.2.2.2.2.2.2.2) ∧ Q.2.2.2.2.2.2.2.2.2.2.2.1 = upd mod_undoneFrom court_suitCount.toNatClampNeg (-1)) ∧ (f3.toInt < 0 → Q.1 = court_suitCount + 1 - 1 ∧ Q.2.2.2.2.1 = court_suitCount + 1 ∧ f3 = -1 ∧ (0 ≤ w1.toInt ∧ w1.toInt ≤ 19 ∧ 0 ≤ g1.toInt ∧ g1.toInt ≤ 19) ∧ (0 ≤ k1.toInt ∧ k1.toInt ≤ 6) ∧ (0 ≤ v1.toInt ∧ v1.toInt ≤ 1) ∧ (0 ≤ d1.toInt ∧ d1.toInt ≤ 9999 ∧ 0 ≤ l1.toInt ∧ l1.toInt ≤ 7) ∧ ∃ am ma pi fm : Nat → Int32, CI court_suitCount n1 am ma as1 b1 ∧ FR court_suitCount (upd mod_askedMany court_suitCount.toNatClampNeg 0) mod_asked am ma ∧ PI court_suitCount so1 no1 fo1 ne1 pi ∧ FP court_suitCount mod_pointIs pi ∧ ((k1 = 6 → fm = upd (upd mod_firstMany court_suitCount.toNatClampNeg n1) court_suitCount.toNatClampNeg s1) ∧ (k1 ≠ 6 → fm = upd mod_firstMany court_suitCount.toNatClampNeg n1)) ∧ Q.2.2.2.2.2 = (upd mod_suedBy court_suitCount.toNatClampNeg w1, upd mod_suedOn court_suitCount.toNatClampNeg g1, upd mod_endKind court_suitCount.toNatClampNeg k1, upd mod_isWon court_suitCount.toNatClampNeg v1, upd mod_suitDay court_suitCount.toNatClampNeg d1, upd mod_suitLand court_suitCount.toNatClampNeg l1, upd mod_undoneFrom court_suitCount.toNatClampNeg (-1), am, fm, ma, pi)) ∧ (0 ≤ f3.toInt → Q.1 = (-100 : Int32) - f3 ∧ Q.2.2.2.2.1 = court_suitCount) := by
  unfold f_X12_suit B_X12_suit_0 at k
  replace k := zk_f (show ¬ court_suitCount = 40 by rw [i32_e, z32L_40]; omega) k
  replace k := zk_gd k
  obtain ⟨_, k⟩ := k
  replace k := zk_lt k
  obtain ⟨f1, e1, k⟩ := k
  replace k := zk_gd k
  obtain ⟨_, k⟩ := k
  replace k := zk_lt k
  obtain ⟨f2, e2, k⟩ := k
  subst e1
  subst e2
  obtain ⟨pi2, U, q1, q2, q3, q4⟩ := ps_loop ⟨hn.1, by omega⟩ _ _ _ Q (by decide) (by decide) k
  rw [z32_0] at q1 q2
  have hI0 : CI court_suitCount 0 (upd mod_askedMany court_suitCount.toNatClampNeg 0) mod_asked su_asked 0 := CI_00 (by unfold upd; exact if_pos rfl)
  have hP0 : PI court_suitCount 0 0 0 0 pi2 := PI_0 (fun p hp => q1 p (Nat.zero_le _) hp)
  obtain ⟨e1, er, e2⟩ := sim_read hT hR ⟨hn.1, by omega⟩ hcc hI0 hP0 h q3
  have er2 := RFR_rt er (show RFR court_suitCount.toInt.toNat (mod_suedBy, mod_suedOn, mod_endKind, mod_isWon, mod_suitDay, mod_suitLand, mod_askedMany, mod_firstMany, mod_asked, mod_pointIs) _ from ⟨fun _ _ => rfl, fun _ _ => rfl, fun _ _ => rfl, fun _ _ => rfl, fun _ _ => rfl, fun _ _ => rfl, fun j hj => upd_n hj, fun _ _ => rfl, fun _ _ => rfl, fun j hj => q2 j (by omega)⟩)
  rcases q4 with ⟨c, hQ⟩ | ⟨c, hQ⟩
  · rw [e1] at c
    obtain ⟨z1, z2, z3, z4, z5, am, ma, pi, fm, y1, y2, y3, y4, y5, y6⟩ := e2 c
    subst hQ
    refine ⟨rfl, ⟨er2, rfl⟩, fun _ => ⟨rfl, rfl, z1, z2, z3, z4, z5, am, ma, pi, fm, y1, y2, y3, fun j hj => (y4 j hj).trans (q2 j (by omega)), y5, ?_⟩, fun z => by exfalso; omega⟩
    dsimp only
    rw [y6]
  · rw [e1] at c
    subst hQ
    exact ⟨rfl, ⟨er2, rfl⟩, fun z => by exfalso; omega, fun _ => ⟨by dsimp only; rw [e1], rfl⟩⟩
def WU (n : Int32) (a b : Nat → Int32) : Prop := ∀ i, i < n.toInt.toNat → a i = b i
def CV (sz nS nT : Int32) (so nu : Nat → Int32) : Prop := ∀ k, k < sz.toInt.toNat → ((so k).toInt = 0 ∨ (so k).toInt = 1 ∨ (so k).toInt = 2) ∧ ((so k).toInt = 2 → 0 ≤ (nu k).toInt ∧ (nu k).toInt < nS.toInt) ∧ ((so k).toInt ≠ 2 → 0 ≤ (nu k).toInt ∧ (nu k).toInt < nT.toInt)
def SH (x : Nat) (f : Nat → Int32) : Nat → Int32 := fun k => if x - 1 ≤ k ∧ k < 39 then f (k + 1) else f k
theorem WU_u {n v : Int32} {k : Nat} {a b : Nat → Int32} (h : WU n a b) : WU n (upd a k v) (upd b k v) := by
  intro i hi
  unfold upd
  rw [h i hi]
theorem CV_mono {sz nS nT nS2 nT2 : Int32} {so nu : Nat → Int32} (h : CV sz nS nT so nu) (h1 : nS.toInt ≤ nS2.toInt) (h2 : nT.toInt ≤ nT2.toInt) : CV sz nS2 nT2 so nu := by
  intro k hk
  obtain ⟨a, b, c⟩ := h k hk
  exact ⟨a, fun z => by have := b z; omega, fun z => by have := c z; omega⟩
theorem CV_add {sz2 d nS nT x1 x2 : Int32} {so nu so2 nu2 : Nat → Int32} (h : ∀ k, k < d.toInt.toNat → ((so k).toInt = 0 ∨ (so k).toInt = 1 ∨ (so k).toInt = 2) ∧ ((so k).toInt = 2 → 0 ≤ (nu k).toInt ∧ (nu k).toInt < nS.toInt) ∧ ((so k).toInt ≠ 2 → 0 ≤ (nu k).toInt ∧ (nu k).toInt < nT.toInt)) (hs : sz2.toInt = d.toInt + 1) (hd : 0 ≤ d.toInt) (hv : x1.toInt = 0 ∨ x1.toInt = 1 ∨ x1.toInt = 2) (h2 : x1.toInt = 2 → 0 ≤ x2.toInt ∧ x2.toInt < nS.toInt) (h3 : x1.toInt ≠ 2 → 0 ≤ x2.toInt ∧ x2.toInt < nT.toInt) (e1 : so2 = upd so d.toNatClampNeg x1) (e2 : nu2 = upd nu d.toNatClampNeg x2) : CV sz2 nS nT so2 nu2 := by
  intro k hk
  subst e1
  subst e2
  have ed : d.toNatClampNeg = d.toInt.toNat := rfl
  unfold upd
  by_cases c : k = d.toNatClampNeg
  · rw [if_pos c, if_pos c]
    exact ⟨hv, h2, h3⟩
  · rw [if_neg c, if_neg c]
    exact h k (by omega)
set_option maxHeartbeats 4000000 in
set_option maxRecDepth 20000 in
theorem pw_set {mod_code : Int32} {court_shoeCount : Int32} {mod_claims : Int32} {ts : Int32} {at_ : Int32} {f : Int32} {court_suitCount : Int32} {mod_doneMany : Int32} {mod_undoneMany : Int32} {mod_open : Int32} {mod_laid : Int32} {mod_isBoth : Int32} {mod_wished : Int32} {mod_bestMany : Int32} {mod_bestRow : Int32} {mod_ringDigits : Int32} {mod_traces : Int32} {mod_shoeDay : Nat → Int32} {mod_isWon : Nat → Int32} {mod_undoneFrom : Nat → Int32} {court_claimCount : Int32} {court_shoeDay : Nat → Int32} {court_suits : Nat → Option Nat} {S_who : Nat → Int32} {S_against : Nat → Int32} {S_kind : Nat → Int32} {S_won : Nat → Int32} {S_day : Nat → Int32} {S_land : Nat → Int32} {S_undoneFrom : Nat → Int32} {S_asked : Nat → Nat → Int32} {S_askedCount : Nat → Int32} {S_askedBits : Nat → Int32} {S_first : Nat → Int32} {S_foundSo : Nat → Int32} {S_foundNot : Nat → Int32} {S_fought : Nat → Int32} {S_needed : Nat → Int32} {chg_done : Int32} {chg_size : Int32} {x1 x2 x3 : Int32} (hv : x1.toInt = 0 ∨ x1.toInt = 1 ∨ x1.toInt = 2) (h2 : x1.toInt = 2 → 0 ≤ x2.toInt ∧ x2.toInt < court_shoeCount.toInt) (h3 : x1.toInt ≠ 2 → 0 ≤ x2.toInt ∧ x2.toInt < court_suitCount.toInt) {R : (Nat → Int32) × (Nat → Int32) × (Nat → Int32)} {Q : (Nat → Int32) × (Nat → Int32) × (Nat → Int32)} (h : f_X1_set x1 x2 x3 court_shoeCount court_claimCount court_suitCount court_shoeDay court_suits chg_done chg_size S_who S_against S_kind S_won S_day S_land S_undoneFrom S_asked S_askedCount S_askedBits S_first S_foundSo S_foundNot S_fought S_needed = some R) (k : f_X12_set x1 x2 x3 mod_code court_shoeCount mod_claims ts at_ f court_suitCount mod_doneMany mod_undoneMany mod_open mod_laid mod_isBoth mod_wished mod_bestMany mod_bestRow mod_ringDigits mod_traces mod_shoeDay mod_isWon mod_undoneFrom = some Q) : (court_shoeDay = mod_shoeDay → R.1 = Q.1) ∧ (WU court_suitCount S_won mod_isWon → WU court_suitCount R.2.1 Q.2.1) ∧ (WU court_suitCount S_undoneFrom mod_undoneFrom → WU court_suitCount R.2.2 Q.2.2) := by
  unfold f_X1_set at h
  unfold f_X12_set at k
  unfold B_X1_set_0 at h
  by_cases cc1 : x1 = (2 : Int32)
  · replace h := zk_t cc1 h
    have cc1n := cc1
    (try simp only [i32_lt, i32_le, i32_e, z32_0, z32_1, z32L_2] at cc1n)
    first
    | (exfalso; omega)
    | by_cases cc2 : x2 < 0
      · replace h := zk_t cc2 h
        have cc2n := cc2
        (try simp only [i32_lt, i32_le, i32_e, z32_0, z32_1] at cc2n)
        first
        | (exfalso; omega)
        | unfold B_X12_set_0 at k
          replace k := zk_f (by (try simp only [i32_lt, i32_le, i32_e, z32_0, z32_1]); omega) k
          replace k := zk_f (by (try simp only [i32_lt, i32_le, i32_e, z32_0, z32_1]); omega) k
          replace k := zk_gd k
          obtain ⟨_, k⟩ := k
          replace k := zk_lt k
          obtain ⟨mv1, me2, k⟩ := k
          subst me2
          replace h := Option.some.inj h
          replace k := Option.some.inj k
          subst h
          subst k
          try dsimp only
          all_goals first
          | (exfalso; omega)
          | exact ⟨fun e => by rw [e], fun w => w, fun w => w⟩
          | exact ⟨fun e => e, fun w => WU_u w, fun w => w⟩
          | exact ⟨fun e => e, fun w => w, fun w => WU_u w⟩
      · replace h := zk_f cc2 h
        have cc2n := cc2
        (try simp only [i32_lt, i32_le, i32_e, z32_0, z32_1] at cc2n)
        first
        | (exfalso; omega)
        | by_cases cc3 : court_shoeCount ≤ x2
          · replace h := zk_t cc3 h
            have cc3n := cc3
            (try simp only [i32_lt, i32_le, i32_e, z32_0, z32_1] at cc3n)
            first
            | (exfalso; omega)
            | unfold B_X12_set_0 at k
              replace k := zk_f (by (try simp only [i32_lt, i32_le, i32_e, z32_0, z32_1]); omega) k
              replace k := zk_f (by (try simp only [i32_lt, i32_le, i32_e, z32_0, z32_1]); omega) k
              replace k := zk_gd k
              obtain ⟨_, k⟩ := k
              replace k := zk_lt k
              obtain ⟨mv3, me4, k⟩ := k
              subst me4
              replace h := Option.some.inj h
              replace k := Option.some.inj k
              subst h
              subst k
              try dsimp only
              all_goals first
              | (exfalso; omega)
              | exact ⟨fun e => by rw [e], fun w => w, fun w => w⟩
              | exact ⟨fun e => e, fun w => WU_u w, fun w => w⟩
              | exact ⟨fun e => e, fun w => w, fun w => WU_u w⟩
          · replace h := zk_f cc3 h
            have cc3n := cc3
            (try simp only [i32_lt, i32_le, i32_e, z32_0, z32_1] at cc3n)
            first
            | (exfalso; omega)
            | obtain ⟨_, h⟩ := zk_gd h
              replace h := zk_lt h
              obtain ⟨cv4, ce5, h⟩ := h
              subst ce5
              unfold B_X12_set_0 at k
              replace k := zk_f (by (try simp only [i32_lt, i32_le, i32_e, z32_0, z32_1]); omega) k
              replace k := zk_f (by (try simp only [i32_lt, i32_le, i32_e, z32_0, z32_1]); omega) k
              replace k := zk_gd k
              obtain ⟨_, k⟩ := k
              replace k := zk_lt k
              obtain ⟨mv5, me6, k⟩ := k
              subst me6
              replace h := Option.some.inj h
              replace k := Option.some.inj k
              subst h
              subst k
              try dsimp only
              all_goals first
              | (exfalso; omega)
              | exact ⟨fun e => by rw [e], fun w => w, fun w => w⟩
              | exact ⟨fun e => e, fun w => WU_u w, fun w => w⟩
              | exact ⟨fun e => e, fun w => w, fun w => WU_u w⟩
  · replace h := zk_f cc1 h
    have cc1n := cc1
    (try simp only [i32_lt, i32_le, i32_e, z32_0, z32_1, z32L_2] at cc1n)
    first
    | (exfalso; omega)
    | obtain ⟨cv6, cv7, ch8, h⟩ := zk_o2 h
      unfold f_X2_suitAt at ch8
      unfold B_X2_suitAt_0 at ch8
      by_cases cc9 : x2 < 0
      · have ch8 := zk_t cc9 ch8
        have cc9n := cc9
        (try simp only [i32_lt, i32_le, i32_e, z32_0, z32_1] at cc9n)
        first
        | (exfalso; omega)
        | simp only [Option.some.injEq, Prod.mk.injEq] at ch8
          obtain ⟨rfl, _⟩ := ch8
          replace h := zk_t (by decide) h
          unfold B_X12_set_0 at k
          by_cases mc7 : x1 = 0
          · replace k := zk_t mc7 k
            have mc7n := mc7
            (try simp only [i32_lt, i32_le, i32_e, z32_0, z32_1] at mc7n)
            first
            | (exfalso; omega)
            | obtain ⟨_, k⟩ := zk_gd k
              replace k := zk_lt k
              obtain ⟨mv8, me9, k⟩ := k
              subst me9
              replace h := Option.some.inj h
              replace k := Option.some.inj k
              subst h
              subst k
              try dsimp only
              all_goals first
              | (exfalso; omega)
              | exact ⟨fun e => by rw [e], fun w => w, fun w => w⟩
              | exact ⟨fun e => e, fun w => WU_u w, fun w => w⟩
              | exact ⟨fun e => e, fun w => w, fun w => WU_u w⟩
          · replace k := zk_f mc7 k
            have mc7n := mc7
            (try simp only [i32_lt, i32_le, i32_e, z32_0, z32_1] at mc7n)
            first
            | (exfalso; omega)
            | by_cases mc10 : x1 = (1 : Int32)
              · replace k := zk_t mc10 k
                have mc10n := mc10
                (try simp only [i32_lt, i32_le, i32_e, z32_0, z32_1] at mc10n)
                first
                | (exfalso; omega)
                | obtain ⟨_, k⟩ := zk_gd k
                  replace k := zk_lt k
                  obtain ⟨mv11, me12, k⟩ := k
                  subst me12
                  replace h := Option.some.inj h
                  replace k := Option.some.inj k
                  subst h
                  subst k
                  try dsimp only
                  all_goals first
                  | (exfalso; omega)
                  | exact ⟨fun e => by rw [e], fun w => w, fun w => w⟩
                  | exact ⟨fun e => e, fun w => WU_u w, fun w => w⟩
                  | exact ⟨fun e => e, fun w => w, fun w => WU_u w⟩
              · replace k := zk_f mc10 k
                have mc10n := mc10
                (try simp only [i32_lt, i32_le, i32_e, z32_0, z32_1] at mc10n)
                first
                | (exfalso; omega)
                | obtain ⟨_, k⟩ := zk_gd k
                  replace k := zk_lt k
                  obtain ⟨mv13, me14, k⟩ := k
                  subst me14
                  replace h := Option.some.inj h
                  replace k := Option.some.inj k
                  subst h
                  subst k
                  try dsimp only
                  all_goals first
                  | (exfalso; omega)
                  | exact ⟨fun e => by rw [e], fun w => w, fun w => w⟩
                  | exact ⟨fun e => e, fun w => WU_u w, fun w => w⟩
                  | exact ⟨fun e => e, fun w => w, fun w => WU_u w⟩
      · have ch8 := zk_f cc9 ch8
        have cc9n := cc9
        (try simp only [i32_lt, i32_le, i32_e, z32_0, z32_1] at cc9n)
        first
        | (exfalso; omega)
        | by_cases cc10 : court_suitCount ≤ x2
          · have ch8 := zk_t cc10 ch8
            have cc10n := cc10
            (try simp only [i32_lt, i32_le, i32_e, z32_0, z32_1] at cc10n)
            first
            | (exfalso; omega)
            | simp only [Option.some.injEq, Prod.mk.injEq] at ch8
              obtain ⟨rfl, _⟩ := ch8
              replace h := zk_t (by decide) h
              unfold B_X12_set_0 at k
              by_cases mc15 : x1 = 0
              · replace k := zk_t mc15 k
                have mc15n := mc15
                (try simp only [i32_lt, i32_le, i32_e, z32_0, z32_1] at mc15n)
                first
                | (exfalso; omega)
                | obtain ⟨_, k⟩ := zk_gd k
                  replace k := zk_lt k
                  obtain ⟨mv16, me17, k⟩ := k
                  subst me17
                  replace h := Option.some.inj h
                  replace k := Option.some.inj k
                  subst h
                  subst k
                  try dsimp only
                  all_goals first
                  | (exfalso; omega)
                  | exact ⟨fun e => by rw [e], fun w => w, fun w => w⟩
                  | exact ⟨fun e => e, fun w => WU_u w, fun w => w⟩
                  | exact ⟨fun e => e, fun w => w, fun w => WU_u w⟩
              · replace k := zk_f mc15 k
                have mc15n := mc15
                (try simp only [i32_lt, i32_le, i32_e, z32_0, z32_1] at mc15n)
                first
                | (exfalso; omega)
                | by_cases mc18 : x1 = (1 : Int32)
                  · replace k := zk_t mc18 k
                    have mc18n := mc18
                    (try simp only [i32_lt, i32_le, i32_e, z32_0, z32_1] at mc18n)
                    first
                    | (exfalso; omega)
                    | obtain ⟨_, k⟩ := zk_gd k
                      replace k := zk_lt k
                      obtain ⟨mv19, me20, k⟩ := k
                      subst me20
                      replace h := Option.some.inj h
                      replace k := Option.some.inj k
                      subst h
                      subst k
                      try dsimp only
                      all_goals first
                      | (exfalso; omega)
                      | exact ⟨fun e => by rw [e], fun w => w, fun w => w⟩
                      | exact ⟨fun e => e, fun w => WU_u w, fun w => w⟩
                      | exact ⟨fun e => e, fun w => w, fun w => WU_u w⟩
                  · replace k := zk_f mc18 k
                    have mc18n := mc18
                    (try simp only [i32_lt, i32_le, i32_e, z32_0, z32_1] at mc18n)
                    first
                    | (exfalso; omega)
                    | obtain ⟨_, k⟩ := zk_gd k
                      replace k := zk_lt k
                      obtain ⟨mv21, me22, k⟩ := k
                      subst me22
                      replace h := Option.some.inj h
                      replace k := Option.some.inj k
                      subst h
                      subst k
                      try dsimp only
                      all_goals first
                      | (exfalso; omega)
                      | exact ⟨fun e => by rw [e], fun w => w, fun w => w⟩
                      | exact ⟨fun e => e, fun w => WU_u w, fun w => w⟩
                      | exact ⟨fun e => e, fun w => w, fun w => WU_u w⟩
          · have ch8 := zk_f cc10 ch8
            have cc10n := cc10
            (try simp only [i32_lt, i32_le, i32_e, z32_0, z32_1] at cc10n)
            first
            | (exfalso; omega)
            | obtain ⟨_, ch8⟩ := zk_gd ch8
              obtain ⟨_, ch8⟩ := zk_gd ch8
              obtain ⟨_, ch8⟩ := zk_gd ch8
              simp only [Option.some.injEq, Prod.mk.injEq] at ch8
              obtain ⟨rfl, _⟩ := ch8
              replace h := zk_f cc9 h
              by_cases cc11 : x1 = 0
              · replace h := zk_t cc11 h
                have cc11n := cc11
                (try simp only [i32_lt, i32_le, i32_e, z32_0, z32_1] at cc11n)
                first
                | (exfalso; omega)
                | obtain ⟨_, h⟩ := zk_gd h
                  replace h := zk_lt h
                  obtain ⟨cv12, ce13, h⟩ := h
                  subst ce13
                  unfold B_X12_set_0 at k
                  replace k := zk_t cc11 k
                  replace k := zk_gd k
                  obtain ⟨_, k⟩ := k
                  replace k := zk_lt k
                  obtain ⟨mv23, me24, k⟩ := k
                  subst me24
                  replace h := Option.some.inj h
                  replace k := Option.some.inj k
                  subst h
                  subst k
                  try dsimp only
                  all_goals first
                  | (exfalso; omega)
                  | exact ⟨fun e => by rw [e], fun w => w, fun w => w⟩
                  | exact ⟨fun e => e, fun w => WU_u w, fun w => w⟩
                  | exact ⟨fun e => e, fun w => w, fun w => WU_u w⟩
              · replace h := zk_f cc11 h
                have cc11n := cc11
                (try simp only [i32_lt, i32_le, i32_e, z32_0, z32_1] at cc11n)
                first
                | (exfalso; omega)
                | unfold B_X1_set_59 at h
                  replace h := zk_gd h
                  obtain ⟨_, h⟩ := h
                  replace h := zk_lt h
                  obtain ⟨cv14, ce15, h⟩ := h
                  subst ce15
                  unfold B_X12_set_0 at k
                  replace k := zk_f cc11 k
                  by_cases mc25 : x1 = (1 : Int32)
                  · replace k := zk_t mc25 k
                    have mc25n := mc25
                    (try simp only [i32_lt, i32_le, i32_e, z32_0, z32_1] at mc25n)
                    first
                    | (exfalso; omega)
                    | obtain ⟨_, k⟩ := zk_gd k
                      replace k := zk_lt k
                      obtain ⟨mv26, me27, k⟩ := k
                      subst me27
                      replace h := Option.some.inj h
                      replace k := Option.some.inj k
                      subst h
                      subst k
                      try dsimp only
                      all_goals first
                      | (exfalso; omega)
                      | exact ⟨fun e => by rw [e], fun w => w, fun w => w⟩
                      | exact ⟨fun e => e, fun w => WU_u w, fun w => w⟩
                      | exact ⟨fun e => e, fun w => w, fun w => WU_u w⟩
                  · replace k := zk_f mc25 k
                    have mc25n := mc25
                    (try simp only [i32_lt, i32_le, i32_e, z32_0, z32_1] at mc25n)
                    first
                    | (exfalso; omega)
                    | obtain ⟨_, k⟩ := zk_gd k
                      replace k := zk_lt k
                      obtain ⟨mv28, me29, k⟩ := k
                      subst me29
                      replace h := Option.some.inj h
                      replace k := Option.some.inj k
                      subst h
                      subst k
                      try dsimp only
                      all_goals first
                      | (exfalso; omega)
                      | exact ⟨fun e => by rw [e], fun w => w, fun w => w⟩
                      | exact ⟨fun e => e, fun w => WU_u w, fun w => w⟩
                      | exact ⟨fun e => e, fun w => w, fun w => WU_u w⟩
set_option maxHeartbeats 4000000 in
set_option maxRecDepth 20000 in
theorem ch_loop {mod_code : Int32} {court_shoeCount : Int32} {mod_claims : Int32} {ts : Int32} {at_ : Int32} {f : Int32} {court_suitCount : Int32} {mod_doneMany : Int32} {mod_undoneMany : Int32} {mod_open : Int32} {mod_laid : Int32} {mod_isBoth : Int32} {mod_wished : Int32} {mod_bestMany : Int32} {mod_bestRow : Int32} {mod_ringDigits : Int32} {mod_traces : Int32} {mod_shoeDay : Nat → Int32} {mod_isWon : Nat → Int32} {mod_undoneFrom : Nat → Int32} {x1 x2 x3 x4 : Int32} : ∀ (N : Nat) (x5 : Int32) (mod_changeOf mod_changeAt mod_before mod_behind : Nat → Int32) (Q : Int32 × Int32 × Int32 × (Nat → Int32) × (Nat → Int32) × (Nat → Int32) × (Nat → Int32) × (Nat → Int32) × (Nat → Int32) × (Nat → Int32)), 1 ≤ x5.toInt → x5.toInt ≤ 40 → G_X12_changes mod_code court_shoeCount mod_claims ts at_ f court_suitCount mod_open mod_laid mod_isBoth mod_wished mod_bestMany mod_bestRow mod_ringDigits mod_traces N x1 x2 x3 x4 x5 mod_doneMany mod_undoneMany mod_shoeDay mod_isWon mod_undoneFrom mod_changeOf mod_changeAt mod_before mod_behind = some Q → ∃ (M : Nat) (a b c d : Nat → Int32), a = SH x5.toInt.toNat mod_changeOf ∧ b = SH x5.toInt.toNat mod_changeAt ∧ c = SH x5.toInt.toNat mod_before ∧ d = SH x5.toInt.toNat mod_behind ∧ B_X12_changes_148 (G_X12_changes mod_code court_shoeCount mod_claims ts at_ f court_suitCount mod_open mod_laid mod_isBoth mod_wished mod_bestMany mod_bestRow mod_ringDigits mod_traces M) mod_code court_shoeCount mod_claims ts at_ f court_suitCount mod_open mod_laid mod_isBoth mod_wished mod_bestMany mod_bestRow mod_ringDigits mod_traces x1 x2 x3 x4 (mod_doneMany - 1) mod_undoneMany mod_shoeDay mod_isWon mod_undoneFrom a b c d = some Q := by
  intro N
  induction N with
  | zero =>
    intro x5 mod_changeOf mod_changeAt mod_before mod_behind Q _ _ h
    cases h
  | succ N ih =>
    intro x5 mod_changeOf mod_changeAt mod_before mod_behind Q h0 h1 h
    replace h : B_X12_changes_61 (G_X12_changes mod_code court_shoeCount mod_claims ts at_ f court_suitCount mod_open mod_laid mod_isBoth mod_wished mod_bestMany mod_bestRow mod_ringDigits mod_traces N) mod_code court_shoeCount mod_claims ts at_ f court_suitCount mod_open mod_laid mod_isBoth mod_wished mod_bestMany mod_bestRow mod_ringDigits mod_traces x1 x2 x3 x4 x5 mod_doneMany mod_undoneMany mod_shoeDay mod_isWon mod_undoneFrom mod_changeOf mod_changeAt mod_before mod_behind = some Q := h
    unfold B_X12_changes_61 at h
    by_cases c : (40 : Int32) ≤ x5
    · replace h := zk_t c h
      rw [i32_le, z32L_40] at c
      replace h := zk_lt h
      obtain ⟨v, e, h⟩ := h
      subst e
      have e : ∀ f : Nat → Int32, f = SH x5.toInt.toNat f := fun f => by
        funext k
        unfold SH
        rw [if_neg (by omega)]
      exact ⟨N, _, _, _, _, e _, e _, e _, e _, h⟩
    · replace h := zk_f c h
      rw [i32_le, z32L_40] at c
      have s3 := i32_s (a := x5) (by omega)
      have s4 := i32_m1 (a := x5) (by omega)
      replace h := zk_gd h
      obtain ⟨_, h⟩ := h
      replace h := zk_lt h
      obtain ⟨v1, e1, h⟩ := h
      replace h := zk_gd h
      obtain ⟨_, h⟩ := h
      replace h := zk_lt h
      obtain ⟨v2, e2, h⟩ := h
      replace h := zk_gd h
      obtain ⟨_, h⟩ := h
      replace h := zk_lt h
      obtain ⟨v3, e3, h⟩ := h
      replace h := zk_gd h
      obtain ⟨_, h⟩ := h
      replace h := zk_lt h
      obtain ⟨v4, e4, h⟩ := h
      replace h := zk_gd h
      obtain ⟨_, h⟩ := h
      replace h := zk_lt h
      obtain ⟨v5, e5, h⟩ := h
      replace h := zk_gd h
      obtain ⟨_, h⟩ := h
      replace h := zk_lt h
      obtain ⟨v6, e6, h⟩ := h
      replace h := zk_gd h
      obtain ⟨_, h⟩ := h
      replace h := zk_lt h
      obtain ⟨v7, e7, h⟩ := h
      replace h := zk_gd h
      obtain ⟨_, h⟩ := h
      replace h := zk_lt h
      obtain ⟨v8, e8, h⟩ := h
      replace h := zk_lt h
      obtain ⟨v9, e9, h⟩ := h
      subst e1 e2 e3 e4 e5 e6 e7 e8 e9
      obtain ⟨M, a, b, c', d, q1, q2, q3, q4, q5⟩ := ih _ _ _ _ _ Q (by omega) (by omega) h
      have e : ∀ f : Nat → Int32, SH (x5 + 1).toInt.toNat (upd f (x5 - 1).toNatClampNeg (f x5.toNatClampNeg)) = SH x5.toInt.toNat f := fun f => by
        have ex : x5.toNatClampNeg = x5.toInt.toNat := rfl
        have em : (x5 - 1).toNatClampNeg = (x5 - 1).toInt.toNat := rfl
        funext k
        unfold SH upd
        by_cases ck : k = (x5 - 1).toNatClampNeg
        · rw [if_neg (by omega), if_pos ck, if_pos (by omega)]
          congr 1
          omega
        · by_cases c2 : (x5 + 1).toInt.toNat - 1 ≤ k ∧ k < 39
          · rw [if_pos c2, if_neg (by omega), if_pos (by omega)]
          · rw [if_neg c2, if_neg ck, if_neg (by omega)]
      rw [e] at q1 q2 q3 q4
      exact ⟨M, a, b, c', d, q1, q2, q3, q4, q5⟩
set_option maxHeartbeats 4000000 in
set_option maxRecDepth 20000 in
theorem do_drop  {a r : Nat → Int32} (h : f_X1_dropOldest a 40 = some r) : r = SH 1 a := by
  unfold f_X1_dropOldest B_X1_dropOldest_0 at h
  replace h := zk_gd h
  obtain ⟨_, h⟩ := h
  replace h := zk_lt h
  obtain ⟨v, e, h⟩ := h
  subst e
  replace h := Option.some.inj h
  subst h
  have e1 : (1 : Int32).toNatClampNeg = 1 := by decide
  have e0 : (0 : Int32).toNatClampNeg = 0 := by decide
  have e39 : (Int32.ofNat 40 - 1).toNatClampNeg = 39 := by decide
  funext k
  unfold SH va_cpy
  rw [e1, e0, e39]
  by_cases c : k < 39
  · rw [if_pos (by omega), if_pos (by omega)]
    congr 1
    omega
  · rw [if_neg (by omega), if_neg (by omega)]
set_option maxHeartbeats 4000000 in
set_option maxRecDepth 20000 in
theorem pw_50 {mod_code : Int32} {court_shoeCount : Int32} {mod_claims : Int32} {ts : Int32} {at_ : Int32} {f : Int32} {court_suitCount : Int32} {mod_undoneMany : Int32} {mod_open : Int32} {mod_laid : Int32} {mod_isBoth : Int32} {mod_wished : Int32} {mod_bestMany : Int32} {mod_bestRow : Int32} {mod_ringDigits : Int32} {mod_traces : Int32} {mod_shoeDay : Nat → Int32} {mod_isWon : Nat → Int32} {mod_undoneFrom : Nat → Int32} {court_claimCount : Int32} {court_shoeDay : Nat → Int32} {court_suits : Nat → Option Nat} {S_who : Nat → Int32} {S_against : Nat → Int32} {S_kind : Nat → Int32} {S_won : Nat → Int32} {S_day : Nat → Int32} {S_land : Nat → Int32} {S_undoneFrom : Nat → Int32} {S_asked : Nat → Nat → Int32} {S_askedCount : Nat → Int32} {S_askedBits : Nat → Int32} {S_first : Nat → Int32} {S_foundSo : Nat → Int32} {S_foundNot : Nat → Int32} {S_fought : Nat → Int32} {S_needed : Nat → Int32} {chg_done : Int32} {chg_size : Int32} {chg_sorts : Nat → Int32} {chg_numbers : Nat → Int32} {chg_befores : Nat → Int32} {chg_afters : Nat → Int32} {x1 x2 x3 x4 : Int32} {g : Int32 → Int32 → Int32 → Int32 → Int32 → Int32 → Int32 → (Nat → Int32) → (Nat → Int32) → (Nat → Int32) → (Nat → Int32) → (Nat → Int32) → (Nat → Int32) → (Nat → Int32) → (Option (Int32 × Int32 × Int32 × (Nat → Int32) × (Nat → Int32) × (Nat → Int32) × (Nat → Int32) × (Nat → Int32) × (Nat → Int32) × (Nat → Int32)))} (hv : x1.toInt = 0 ∨ x1.toInt = 1 ∨ x1.toInt = 2) (h2 : x1.toInt = 2 → 0 ≤ x2.toInt ∧ x2.toInt < court_shoeCount.toInt) (h3 : x1.toInt ≠ 2 → 0 ≤ x2.toInt ∧ x2.toInt < court_suitCount.toInt) {R : (Nat → Int32) × Int32 × Int32 × (Nat → Int32) × (Nat → Int32) × (Nat → Int32) × (Nat → Int32) × (Nat → Int32) × (Nat → Int32)} {Q : Int32 × Int32 × Int32 × (Nat → Int32) × (Nat → Int32) × (Nat → Int32) × (Nat → Int32) × (Nat → Int32) × (Nat → Int32) × (Nat → Int32)} (h : B_X1_make_50 court_shoeCount court_claimCount court_suitCount court_suits S_who S_against S_kind S_day S_land S_asked S_askedCount S_askedBits S_first S_foundSo S_foundNot S_fought S_needed x1 x2 x3 x4 court_shoeDay chg_done chg_size chg_sorts chg_numbers chg_befores chg_afters S_won S_undoneFrom = some R) (k : B_X12_changes_148 g mod_code court_shoeCount mod_claims ts at_ f court_suitCount mod_open mod_laid mod_isBoth mod_wished mod_bestMany mod_bestRow mod_ringDigits mod_traces x1 x2 x4 x3 chg_done mod_undoneMany mod_shoeDay mod_isWon mod_undoneFrom chg_sorts chg_numbers chg_befores chg_afters = some Q) : Q.1 = x3 ∧ R.2.1 = Q.2.1 ∧ R.2.2.1 = R.2.1 ∧ Q.2.2.1 = mod_undoneMany ∧ R.2.2.2.1 = Q.2.2.2.2.2.2.1 ∧ R.2.2.2.2.1 = Q.2.2.2.2.2.2.2.1 ∧ R.2.2.2.2.2.1 = Q.2.2.2.2.2.2.2.2.1 ∧ R.2.2.2.2.2.2.1 = Q.2.2.2.2.2.2.2.2.2 ∧ R.2.1 = chg_done + 1 ∧ R.2.2.2.1 = upd chg_sorts chg_done.toNatClampNeg x1 ∧ R.2.2.2.2.1 = upd chg_numbers chg_done.toNatClampNeg x2 ∧ (court_shoeDay = mod_shoeDay → R.1 = Q.2.2.2.1) ∧ (WU court_suitCount S_won mod_isWon → WU court_suitCount R.2.2.2.2.2.2.2.1 Q.2.2.2.2.1) ∧ (WU court_suitCount S_undoneFrom mod_undoneFrom → WU court_suitCount R.2.2.2.2.2.2.2.2 Q.2.2.2.2.2.1) := by
  unfold B_X1_make_50 at h
  unfold B_X12_changes_148 at k
  replace h := zk_gd h
  obtain ⟨_, h⟩ := h
  replace h := zk_lt h
  obtain ⟨cv1, ce2, h⟩ := h
  subst ce2
  replace h := zk_gd h
  obtain ⟨_, h⟩ := h
  replace h := zk_lt h
  obtain ⟨cv3, ce4, h⟩ := h
  subst ce4
  replace h := zk_gd h
  obtain ⟨_, h⟩ := h
  replace h := zk_lt h
  obtain ⟨cv5, ce6, h⟩ := h
  subst ce6
  replace h := zk_gd h
  obtain ⟨_, h⟩ := h
  replace h := zk_lt h
  obtain ⟨cv7, ce8, h⟩ := h
  subst ce8
  replace h := zk_lt h
  obtain ⟨cv9, ce10, h⟩ := h
  subst ce10
  replace h := zk_o3 h
  obtain ⟨cv11, cv12, cv13, ch14, h⟩ := h
  skip
  replace k := zk_gd k
  obtain ⟨_, k⟩ := k
  replace k := zk_lt k
  obtain ⟨mv1, me2, k⟩ := k
  subst me2
  replace k := zk_gd k
  obtain ⟨_, k⟩ := k
  replace k := zk_lt k
  obtain ⟨mv3, me4, k⟩ := k
  subst me4
  replace k := zk_gd k
  obtain ⟨_, k⟩ := k
  replace k := zk_lt k
  obtain ⟨mv5, me6, k⟩ := k
  subst me6
  replace k := zk_gd k
  obtain ⟨_, k⟩ := k
  replace k := zk_lt k
  obtain ⟨mv7, me8, k⟩ := k
  subst me8
  replace k := zk_lt k
  obtain ⟨mv9, me10, k⟩ := k
  subst me10
  replace k := zk_o3 k
  obtain ⟨mv11, mv12, mv13, mh14, k⟩ := k
  skip
  replace h := Option.some.inj h
  replace k := Option.some.inj k
  subst h
  subst k
  try dsimp only
  obtain ⟨t1, t2, t3⟩ := pw_set hv h2 h3 ch14 mh14
  exact ⟨rfl, rfl, rfl, rfl, rfl, rfl, rfl, rfl, rfl, rfl, rfl, t1, t2, t3⟩
set_option maxHeartbeats 4000000 in
set_option maxRecDepth 20000 in
theorem pw_make {mod_code : Int32} {court_shoeCount : Int32} {mod_claims : Int32} {ts : Int32} {at_ : Int32} {f : Int32} {court_suitCount : Int32} {mod_undoneMany : Int32} {mod_open : Int32} {mod_laid : Int32} {mod_isBoth : Int32} {mod_wished : Int32} {mod_bestMany : Int32} {mod_bestRow : Int32} {mod_ringDigits : Int32} {mod_traces : Int32} {mod_shoeDay : Nat → Int32} {mod_isWon : Nat → Int32} {mod_undoneFrom : Nat → Int32} {court_claimCount : Int32} {court_shoeDay : Nat → Int32} {court_suits : Nat → Option Nat} {S_who : Nat → Int32} {S_against : Nat → Int32} {S_kind : Nat → Int32} {S_won : Nat → Int32} {S_day : Nat → Int32} {S_land : Nat → Int32} {S_undoneFrom : Nat → Int32} {S_asked : Nat → Nat → Int32} {S_askedCount : Nat → Int32} {S_askedBits : Nat → Int32} {S_first : Nat → Int32} {S_foundSo : Nat → Int32} {S_foundNot : Nat → Int32} {S_fought : Nat → Int32} {S_needed : Nat → Int32} {chg_done : Int32} {chg_size : Int32} {chg_sorts : Nat → Int32} {chg_numbers : Nat → Int32} {chg_befores : Nat → Int32} {chg_afters : Nat → Int32} {m : Nat} {x1 x2 x3 x4 : Int32} {R : (Nat → Int32) × Int32 × Int32 × (Nat → Int32) × (Nat → Int32) × (Nat → Int32) × (Nat → Int32) × (Nat → Int32) × (Nat → Int32)} {Q : Int32 × Int32 × Int32 × (Nat → Int32) × (Nat → Int32) × (Nat → Int32) × (Nat → Int32) × (Nat → Int32) × (Nat → Int32) × (Nat → Int32)} (hv : x1.toInt = 0 ∨ x1.toInt = 1 ∨ x1.toInt = 2) (h2 : x1.toInt = 2 → 0 ≤ x2.toInt ∧ x2.toInt < court_shoeCount.toInt) (h3 : x1.toInt ≠ 2 → 0 ≤ x2.toInt ∧ x2.toInt < court_suitCount.toInt) (hd : 0 ≤ chg_done.toInt ∧ chg_done.toInt ≤ 40) (hsz : chg_size.toInt = chg_done.toInt + mod_undoneMany.toInt) (hu : 0 ≤ mod_undoneMany.toInt ∧ chg_size.toInt ≤ 40) (hV : CV chg_size court_shoeCount court_suitCount chg_sorts chg_numbers) (hw0 : x1.toInt = 0 → x3 = mod_isWon x2.toNatClampNeg) (hw1 : x1.toInt = 1 → x3 = mod_undoneFrom x2.toNatClampNeg) (hw2 : x1.toInt = 2 → x3 = mod_shoeDay x2.toNatClampNeg) (h : f_X1_make x1 x2 x3 x4 court_shoeCount court_claimCount court_suitCount court_shoeDay court_suits chg_done chg_size chg_sorts chg_numbers chg_befores chg_afters S_who S_against S_kind S_won S_day S_land S_undoneFrom S_asked S_askedCount S_askedBits S_first S_foundSo S_foundNot S_fought S_needed = some R) (k : f_X12_changes m x1 x2 x4 mod_code court_shoeCount mod_claims ts at_ f court_suitCount chg_done mod_undoneMany mod_open mod_laid mod_isBoth mod_wished mod_bestMany mod_bestRow mod_ringDigits mod_traces mod_shoeDay mod_isWon mod_undoneFrom chg_sorts chg_numbers chg_befores chg_afters = some Q) : Q.1 = x3 ∧ R.2.1 = Q.2.1 ∧ R.2.2.1.toInt = Q.2.1.toInt + Q.2.2.1.toInt ∧ R.2.2.2.1 = Q.2.2.2.2.2.2.1 ∧ R.2.2.2.2.1 = Q.2.2.2.2.2.2.2.1 ∧ R.2.2.2.2.2.1 = Q.2.2.2.2.2.2.2.2.1 ∧ R.2.2.2.2.2.2.1 = Q.2.2.2.2.2.2.2.2.2 ∧ CV R.2.2.1 court_shoeCount court_suitCount R.2.2.2.1 R.2.2.2.2.1 ∧ (court_shoeDay = mod_shoeDay → R.1 = Q.2.2.2.1) ∧ (WU court_suitCount S_won mod_isWon → WU court_suitCount R.2.2.2.2.2.2.2.1 Q.2.2.2.2.1) ∧ (WU court_suitCount S_undoneFrom mod_undoneFrom → WU court_suitCount R.2.2.2.2.2.2.2.2 Q.2.2.2.2.2.1) := by
  have k : B_X12_changes_33 (G_X12_changes mod_code court_shoeCount mod_claims ts at_ f court_suitCount mod_open mod_laid mod_isBoth mod_wished mod_bestMany mod_bestRow mod_ringDigits mod_traces m) mod_code court_shoeCount mod_claims ts at_ f court_suitCount mod_open mod_laid mod_isBoth mod_wished mod_bestMany mod_bestRow mod_ringDigits mod_traces x1 x2 x4 x3 chg_done mod_undoneMany mod_shoeDay mod_isWon mod_undoneFrom chg_sorts chg_numbers chg_befores chg_afters = some Q := by
    unfold f_X12_changes B_X12_changes_0 at k
    by_cases c : x1 = 0
    · replace k := zk_t c k
      rw [i32_e, z32_0] at c
      replace k := zk_gd k
      obtain ⟨_, k⟩ := k
      rw [← hw0 c] at k
      exact k
    · replace k := zk_f c k
      rw [i32_e, z32_0] at c
      by_cases c1 : x1 = 1
      · replace k := zk_t c1 k
        rw [i32_e, z32_1] at c1
        replace k := zk_gd k
        obtain ⟨_, k⟩ := k
        rw [← hw1 c1] at k
        exact k
      · replace k := zk_f c1 k
        rw [i32_e, z32_1] at c1
        replace k := zk_gd k
        obtain ⟨_, k⟩ := k
        rw [← hw2 (by omega)] at k
        exact k
  unfold B_X12_changes_33 at k
  unfold f_X1_make B_X1_make_0 at h
  by_cases c : x3 = x4
  · replace h := Option.some.inj (zk_t c h)
    replace k := Option.some.inj (zk_t c k)
    subst h
    subst k
    exact ⟨rfl, rfl, hsz, rfl, rfl, rfl, rfl, hV, fun e => e, fun w => w, fun w => w⟩
  · replace h := zk_f c h
    replace k := zk_f c k
    by_cases c2 : chg_done < 40
    · replace h := zk_t c2 h
      rw [i32_lt, z32L_40] at c2
      replace k := zk_f (show ¬ chg_done = 40 by rw [i32_e, z32L_40]; omega) k
      obtain ⟨p1, p2, p3, p4, p5, p6, p7, p8, p9, p10, p11, p12⟩ := pw_50 hv h2 h3 h k
      have s3 := i32_s (a := chg_done) (by omega)
      refine ⟨p1, p2, by rw [p3, ← p2, p4, z32_0]; omega, p5, p6, p7, p8, ?_, p12⟩
      exact CV_add (d := chg_done) (so := chg_sorts) (nu := chg_numbers) (fun k hk => hV k (by omega)) (by rw [p3, p9, s3]) hd.1 hv h2 h3 p10 p11
    · replace h := zk_f c2 h
      rw [i32_lt, z32L_40] at c2
      have e40 : chg_done = 40 := by rw [i32_e, z32L_40]; omega
      replace k := zk_t e40 k
      replace h := zk_o1 h
      obtain ⟨a1, d1, h⟩ := h
      replace h := zk_o1 h
      obtain ⟨a2, d2, h⟩ := h
      replace h := zk_o1 h
      obtain ⟨a3, d3, h⟩ := h
      replace h := zk_o1 h
      obtain ⟨a4, d4, h⟩ := h
      have d1 := do_drop d1
      have d2 := do_drop d2
      have d3 := do_drop d3
      have d4 := do_drop d4
      obtain ⟨M, a, b, c', d, q1, q2, q3, q4, q5⟩ := ch_loop _ _ _ _ _ _ Q (by decide) (by decide) k
      have q1 : a = a1 := q1.trans d1.symm
      have q2 : b = a2 := q2.trans d2.symm
      have q3 : c' = a3 := q3.trans d3.symm
      have q4 : d = a4 := q4.trans d4.symm
      subst q1
      subst q2
      subst q3
      subst q4
      have e39 : chg_done - 1 = 39 := by rw [e40]; decide
      rw [e39] at q5
      obtain ⟨p1, p2, p3, p4, p5, p6, p7, p8, p9, p10, p11, p12⟩ := pw_50 hv h2 h3 h q5
      refine ⟨p1, p2, by rw [p3, ← p2, p4, z32_0]; omega, p5, p6, p7, p8, ?_, p12⟩
      have e9 : (39 : Int32).toInt = 39 := by decide
      refine CV_add (d := 39) (so := a) (nu := b) (fun k hk => ?_) (by rw [p3, p9]; decide) (by decide) hv h2 h3 p10 p11
      have hk2 := hV (k + 1) (by omega)
      rw [d1, d2]
      unfold SH
      rw [if_pos (by omega), if_pos (by omega)]
      exact hk2
