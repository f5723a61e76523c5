
set_option maxHeartbeats 4000000 in
set_option maxRecDepth 20000 in
theorem pw_act {mod_code : Int32} {court_shoeCount : Int32} {mod_claims : Int32} {ts : Int32} {at_ : Int32} {f : Int32} {court_suitCount : Int32} {mod_doneMany : Int32} {mod_undoneMany : Int32} {mod_open : Int32} {mod_laid : Int32} {mod_isBoth : Int32} {mod_wished : Int32} {mod_bestMany : Int32} {mod_bestRow : Int32} {mod_ringDigits : Int32} {mod_traces : Int32} {mod_askedMany : Nat → Int32} {mod_endKind : Nat → Int32} {mod_undoneFrom : Nat → Int32} {mod_traced : Nat → Int32} {court_claimCount : Int32} {court_suits : Nat → Option Nat} {S_who : Nat → Int32} {S_against : Nat → Int32} {S_kind : Nat → Int32} {S_won : Nat → Int32} {S_day : Nat → Int32} {S_land : Nat → Int32} {S_undoneFrom : Nat → Int32} {S_asked : Nat → Nat → Int32} {S_askedCount : Nat → Int32} {S_askedBits : Nat → Int32} {S_first : Nat → Int32} {S_foundSo : Nat → Int32} {S_foundNot : Nat → Int32} {S_fought : Nat → Int32} {S_needed : Nat → Int32} {acts_ran : Int32} {acts_kind : Int32} {acts_number : Int32} {acts_claims : Int32} {acts_bodies : Nat → Int32} {x1 x2 x3 : Int32} {R : Int32 × Int32 × Int32 × Int32 × Int32 × (Nat → Int32)} {Q : Int32 × Int32 × (Nat → Int32)} (hn : 0 ≤ court_suitCount.toInt ∧ court_suitCount.toInt ≤ 40) (hA : WU court_suitCount S_askedCount mod_askedMany) (hU : WU court_suitCount S_undoneFrom mod_undoneFrom) (hK : WU court_suitCount S_kind mod_endKind) (hR : ∀ i, 0 ≤ (S_kind i).toInt ∧ (S_kind i).toInt ≤ 6) (h : f_X11_act x1 x2 x3 court_shoeCount court_claimCount court_suitCount court_suits acts_ran acts_kind acts_number acts_claims acts_bodies S_who S_against S_kind S_won S_day S_land S_undoneFrom S_asked S_askedCount S_askedBits S_first S_foundSo S_foundNot S_fought S_needed = some R) (k : f_X12_act x1 x2 x3 mod_code court_shoeCount mod_claims ts at_ f court_suitCount mod_doneMany mod_undoneMany mod_open mod_laid mod_isBoth mod_wished mod_bestMany mod_bestRow mod_ringDigits mod_traces mod_endKind mod_undoneFrom mod_askedMany mod_traced = some Q) : R.1 = Q.1 ∧ R.2.1 = Q.2.1 ∧ (acts_bodies = mod_traced → R.2.2.2.2.2 = Q.2.2) := by
  have hr := hR x1.toNatClampNeg
  have e : S_kind x1.toNatClampNeg = 0 ∨ S_kind x1.toNatClampNeg = 1 ∨ S_kind x1.toNatClampNeg = 2 ∨ S_kind x1.toNatClampNeg = 3 ∨ S_kind x1.toNatClampNeg = 4 ∨ S_kind x1.toNatClampNeg = 5 ∨ S_kind x1.toNatClampNeg = 6 := by
    simp only [i32_e, z32_0, z32_1, z32L_2, z32L_3, z32L_4, z32L_5, z32L_6]
    omega
  by_cases c : (S_undoneFrom x1.toNatClampNeg).toInt < 0
  · rcases e with e | e | e | e | e | e | e
    · exact pw_act0 hn hA (Or.inl ⟨c, e⟩) (fun hi => Or.inl ⟨by rw [← hU _ hi]; exact c, (hK _ hi).symm.trans e⟩) h k
    · exact pw_act1 hn hA (Or.inl ⟨c, e⟩) (fun hi => Or.inl ⟨by rw [← hU _ hi]; exact c, (hK _ hi).symm.trans e⟩) h k
    · exact pw_act2 hn hA (Or.inl ⟨c, e⟩) (fun hi => Or.inl ⟨by rw [← hU _ hi]; exact c, (hK _ hi).symm.trans e⟩) h k
    · exact pw_act3 hn hA (Or.inl ⟨c, e⟩) (fun hi => Or.inl ⟨by rw [← hU _ hi]; exact c, (hK _ hi).symm.trans e⟩) h k
    · exact pw_act4 hn hA (Or.inl ⟨c, e⟩) (fun hi => Or.inl ⟨by rw [← hU _ hi]; exact c, (hK _ hi).symm.trans e⟩) h k
    · exact pw_act5 hn hA (Or.inl ⟨c, e⟩) (fun hi => Or.inl ⟨by rw [← hU _ hi]; exact c, (hK _ hi).symm.trans e⟩) h k
    · exact pw_act6 hn hA (Or.inl ⟨c, e⟩) (fun hi => Or.inl ⟨by rw [← hU _ hi]; exact c, (hK _ hi).symm.trans e⟩) h k
  · exact pw_act5 hn hA (Or.inr ⟨by omega, rfl⟩) (fun hi => Or.inr ⟨by rw [← hU _ hi]; omega, rfl⟩) h k
theorem SZ_00 {a b c : Int32} (h1 : a = 0) (h2 : b = 0) (h3 : c = 0) : a.toInt = b.toInt + c.toInt := by
  subst h1
  subst h2
  subst h3
  decide
theorem CV_00 {sz nS nT : Int32} {so nu : Nat → Int32} (h : sz = 0) : CV sz nS nT so nu := by
  subst h
  intro k hk
  exact absurd hk (by rw [z32_0]; exact Nat.not_lt_zero k)
theorem WU_00 {n : Int32} {a b : Nat → Int32} (h : n = 0) : WU n a b := by
  subst h
  intro k hk
  exact absurd hk (by rw [z32_0]; exact Nat.not_lt_zero k)
def CIN (i : Nat) (n : Int32) (am ma as : Nat → Int32) (b : Int32) : Prop :=
  (0 ≤ n.toInt ∧ n.toInt ≤ 32) ∧ am i = n ∧ (∀ k, k < n.toInt.toNat → ma (32 * i + k) = as k) ∧ (∀ k, k < n.toInt.toNat → 0 ≤ (as k).toInt ∧ (as k).toInt ≤ 31) ∧ (∀ v, v < 32 → (zbt b v = true ↔ ∃ k, k < n.toInt.toNat ∧ (as k).toInt.toNat = v)) ∧ (∀ j k, j < n.toInt.toNat → k < n.toInt.toNat → as j = as k → j = k)
def PIN (i : Nat) (so no fo ne : Int32) (pi : Nat → Int32) : Prop := ∀ p, p < 32 → (pi (32 * i + p)).toInt = PV so no fo ne p ∧ ¬ (zbt so p = true ∧ zbt no p = true) ∧ ((zbt fo p = true ∨ zbt ne p = true) → (zbt so p = true ∨ zbt no p = true))
theorem CI_N {x1 n b : Int32} {am ma as : Nat → Int32} (h : CI x1 n am ma as b) : CIN x1.toInt.toNat n am ma as b := h
theorem PI_N {x1 so no fo ne : Int32} {pi : Nat → Int32} (h : PI x1 so no fo ne pi) : PIN x1.toInt.toNat so no fo ne pi := h
theorem CIN_m {i : Nat} {n b : Int32} {am ma as am2 ma2 : Nat → Int32} (h : CIN i n am ma as b) (e1 : am2 i = am i) (e2 : ∀ k, k < 32 → ma2 (32 * i + k) = ma (32 * i + k)) : CIN i n am2 ma2 as b := by
  obtain ⟨h1, h2, h3, h4⟩ := h
  exact ⟨h1, e1.trans h2, fun k hk => (e2 k (by omega)).trans (h3 k hk), h4⟩
theorem PIN_m {i : Nat} {so no fo ne : Int32} {pi pi2 : Nat → Int32} (h : PIN i so no fo ne pi) (e : ∀ k, k < 32 → pi2 (32 * i + k) = pi (32 * i + k)) : PIN i so no fo ne pi2 := by
  intro p hp
  rw [e p hp]
  exact h p hp
def SUQ (i : Nat) (S_who S_against S_kind S_day S_land S_askedCount S_askedBits S_first S_foundSo S_foundNot S_fought S_needed : Nat → Int32) (S_asked : Nat → Nat → Int32) (mod_suedBy mod_suedOn mod_endKind mod_suitDay mod_suitLand mod_askedMany mod_firstMany mod_asked mod_pointIs : Nat → Int32) : Prop := S_who i = mod_suedBy i ∧ S_against i = mod_suedOn i ∧ S_kind i = mod_endKind i ∧ S_day i = mod_suitDay i ∧ S_land i = mod_suitLand i ∧ ((S_kind i).toInt = 6 → mod_firstMany i = S_first i) ∧ ((S_kind i).toInt ≠ 6 → mod_firstMany i = S_askedCount i) ∧ CIN i (S_askedCount i) mod_askedMany mod_asked (S_asked i) (S_askedBits i) ∧ PIN i (S_foundSo i) (S_foundNot i) (S_fought i) (S_needed i) mod_pointIs ∧ (0 ≤ (S_day i).toInt ∧ (S_day i).toInt ≤ 9999)
def SUS (n : Int32) (S_who S_against S_kind S_day S_land S_askedCount S_askedBits S_first S_foundSo S_foundNot S_fought S_needed : Nat → Int32) (S_asked : Nat → Nat → Int32) (mod_suedBy mod_suedOn mod_endKind mod_suitDay mod_suitLand mod_askedMany mod_firstMany mod_asked mod_pointIs : Nat → Int32) : Prop := ∀ i, i < n.toInt.toNat → SUQ i S_who S_against S_kind S_day S_land S_askedCount S_askedBits S_first S_foundSo S_foundNot S_fought S_needed S_asked mod_suedBy mod_suedOn mod_endKind mod_suitDay mod_suitLand mod_askedMany mod_firstMany mod_asked mod_pointIs
theorem SUS_00 {n : Int32} {S_who S_against S_kind S_day S_land S_askedCount S_askedBits S_first S_foundSo S_foundNot S_fought S_needed : Nat → Int32} {S_asked : Nat → Nat → Int32} {mod_suedBy mod_suedOn mod_endKind mod_suitDay mod_suitLand mod_askedMany mod_firstMany mod_asked mod_pointIs : Nat → Int32} (h : n = 0) : SUS n S_who S_against S_kind S_day S_land S_askedCount S_askedBits S_first S_foundSo S_foundNot S_fought S_needed S_asked mod_suedBy mod_suedOn mod_endKind mod_suitDay mod_suitLand mod_askedMany mod_firstMany mod_asked mod_pointIs := by
  subst h
  intro k hk
  exact absurd hk (by rw [z32_0]; exact Nat.not_lt_zero k)
theorem SUQ_c {i : Nat} {S_who S_against S_kind S_day S_land S_askedCount S_askedBits S_first S_foundSo S_foundNot S_fought S_needed : Nat → Int32} {S_asked : Nat → Nat → Int32} {mod_suedBy mod_suedOn mod_endKind mod_suitDay mod_suitLand mod_askedMany mod_firstMany mod_asked mod_pointIs : Nat → Int32} {S_who2 S_against2 S_kind2 S_day2 S_land2 S_askedCount2 S_askedBits2 S_first2 S_foundSo2 S_foundNot2 S_fought2 S_needed2 : Nat → Int32} {S_asked2 : Nat → Nat → Int32} {mod_suedBy2 mod_suedOn2 mod_endKind2 mod_suitDay2 mod_suitLand2 mod_askedMany2 mod_firstMany2 mod_asked2 mod_pointIs2 : Nat → Int32} (h : SUQ i S_who S_against S_kind S_day S_land S_askedCount S_askedBits S_first S_foundSo S_foundNot S_fought S_needed S_asked mod_suedBy mod_suedOn mod_endKind mod_suitDay mod_suitLand mod_askedMany mod_firstMany mod_asked mod_pointIs) (e_S_who : S_who2 i = S_who i) (e_S_against : S_against2 i = S_against i) (e_S_kind : S_kind2 i = S_kind i) (e_S_day : S_day2 i = S_day i) (e_S_land : S_land2 i = S_land i) (e_S_askedCount : S_askedCount2 i = S_askedCount i) (e_S_askedBits : S_askedBits2 i = S_askedBits i) (e_S_first : S_first2 i = S_first i) (e_S_foundSo : S_foundSo2 i = S_foundSo i) (e_S_foundNot : S_foundNot2 i = S_foundNot i) (e_S_fought : S_fought2 i = S_fought i) (e_S_needed : S_needed2 i = S_needed i) (e_S_asked : S_asked2 i = S_asked i) (e_mod_suedBy : mod_suedBy2 i = mod_suedBy i) (e_mod_suedOn : mod_suedOn2 i = mod_suedOn i) (e_mod_endKind : mod_endKind2 i = mod_endKind i) (e_mod_suitDay : mod_suitDay2 i = mod_suitDay i) (e_mod_suitLand : mod_suitLand2 i = mod_suitLand i) (e_mod_askedMany : mod_askedMany2 i = mod_askedMany i) (e_mod_firstMany : mod_firstMany2 i = mod_firstMany i) (e_mod_asked : ∀ k, k < 32 → mod_asked2 (32 * i + k) = mod_asked (32 * i + k)) (e_mod_pointIs : ∀ k, k < 32 → mod_pointIs2 (32 * i + k) = mod_pointIs (32 * i + k)) : SUQ i S_who2 S_against2 S_kind2 S_day2 S_land2 S_askedCount2 S_askedBits2 S_first2 S_foundSo2 S_foundNot2 S_fought2 S_needed2 S_asked2 mod_suedBy2 mod_suedOn2 mod_endKind2 mod_suitDay2 mod_suitLand2 mod_askedMany2 mod_firstMany2 mod_asked2 mod_pointIs2 := by
  obtain ⟨h1, h2, h3, h4, h5, h6, h7, h8, h9, h10⟩ := h
  unfold SUQ
  rw [e_S_who, e_S_against, e_S_kind, e_S_day, e_S_land, e_S_askedCount, e_S_askedBits, e_S_first, e_S_foundSo, e_S_foundNot, e_S_fought, e_S_needed, e_S_asked, e_mod_suedBy, e_mod_suedOn, e_mod_endKind, e_mod_suitDay, e_mod_suitLand, e_mod_firstMany]
  exact ⟨h1, h2, h3, h4, h5, h6, h7, CIN_m h8 e_mod_askedMany e_mod_asked, PIN_m h9 e_mod_pointIs, h10⟩
theorem SUS_of {n : Int32} {S_who S_against S_kind S_day S_land S_askedCount S_askedBits S_first S_foundSo S_foundNot S_fought S_needed : Nat → Int32} {S_asked : Nat → Nat → Int32} {mod_suedBy mod_suedOn mod_endKind mod_suitDay mod_suitLand mod_askedMany mod_firstMany mod_asked mod_pointIs : Nat → Int32} {mod_suedBy2 mod_suedOn2 mod_endKind2 mod_suitDay2 mod_suitLand2 mod_askedMany2 mod_firstMany2 mod_asked2 : Nat → Int32} {mw mu mw2 mu2 : Nat → Int32} (hn : n.toInt ≤ 40) (h : SUS n S_who S_against S_kind S_day S_land S_askedCount S_askedBits S_first S_foundSo S_foundNot S_fought S_needed S_asked mod_suedBy mod_suedOn mod_endKind mod_suitDay mod_suitLand mod_askedMany mod_firstMany mod_asked mod_pointIs) (hf : OF mod_suedBy mod_suedOn mod_endKind mw mod_suitDay mod_suitLand mu mod_askedMany mod_firstMany mod_asked mod_suedBy2 mod_suedOn2 mod_endKind2 mw2 mod_suitDay2 mod_suitLand2 mu2 mod_askedMany2 mod_firstMany2 mod_asked2) : SUS n S_who S_against S_kind S_day S_land S_askedCount S_askedBits S_first S_foundSo S_foundNot S_fought S_needed S_asked mod_suedBy2 mod_suedOn2 mod_endKind2 mod_suitDay2 mod_suitLand2 mod_askedMany2 mod_firstMany2 mod_asked2 mod_pointIs := by
  obtain ⟨f1, f2, f3, f4, f5, f6, f7, f8, f9, f10⟩ := hf
  intro i hi
  exact SUQ_c (h i hi) rfl rfl rfl rfl rfl rfl rfl rfl rfl rfl rfl rfl rfl (f1 i (by omega)) (f2 i (by omega)) (f3 i (by omega)) (f5 i (by omega)) (f6 i (by omega)) (f8 i (by omega)) (f9 i (by omega)) (fun k hk => f10 _ (by omega)) (fun k hk => rfl)
theorem WU_of {n : Int32} {a b b2 : Nat → Int32} (hn : n.toInt ≤ 40) (h : WU n a b) (hf : ∀ j, j < 40 → b2 j = b j) : WU n a b2 := fun i hi => (h i hi).trans (hf i (by omega)).symm
theorem SUS_fault {n : Int32} {S_who S_against S_kind S_day S_land S_askedCount S_askedBits S_first S_foundSo S_foundNot S_fought S_needed : Nat → Int32} {S_asked : Nat → Nat → Int32} {mod_suedBy mod_suedOn mod_endKind mod_suitDay mod_suitLand mod_askedMany mod_firstMany mod_asked mod_pointIs : Nat → Int32} {mod_suedBy2 mod_suedOn2 mod_endKind2 mod_suitDay2 mod_suitLand2 mod_askedMany2 mod_firstMany2 mod_asked2 mod_pointIs2 mod_isWon mod_isWon2 : Nat → Int32} (h : SUS n S_who S_against S_kind S_day S_land S_askedCount S_askedBits S_first S_foundSo S_foundNot S_fought S_needed S_asked mod_suedBy mod_suedOn mod_endKind mod_suitDay mod_suitLand mod_askedMany mod_firstMany mod_asked mod_pointIs) (hf : RFR n.toInt.toNat (mod_suedBy, mod_suedOn, mod_endKind, mod_isWon, mod_suitDay, mod_suitLand, mod_askedMany, mod_firstMany, mod_asked, mod_pointIs) (mod_suedBy2, mod_suedOn2, mod_endKind2, mod_isWon2, mod_suitDay2, mod_suitLand2, mod_askedMany2, mod_firstMany2, mod_asked2, mod_pointIs2)) : SUS n S_who S_against S_kind S_day S_land S_askedCount S_askedBits S_first S_foundSo S_foundNot S_fought S_needed S_asked mod_suedBy2 mod_suedOn2 mod_endKind2 mod_suitDay2 mod_suitLand2 mod_askedMany2 mod_firstMany2 mod_asked2 mod_pointIs2 := by
  obtain ⟨f1, f2, f3, f4, f5, f6, f7, f8, f9, f10⟩ := hf
  intro i hi
  have hne : i ≠ n.toInt.toNat := by omega
  exact SUQ_c (h i hi) rfl rfl rfl rfl rfl rfl rfl rfl rfl rfl rfl rfl rfl (f1 i hne) (f2 i hne) (f3 i hne) (f5 i hne) (f6 i hne) (f7 i hne) (f8 i hne) (fun k hk => f9 _ (by omega)) (fun k hk => f10 _ (by omega))
theorem WU_fault {n : Int32} {a b b2 : Nat → Int32} (h : WU n a b) (hf : ∀ j, j ≠ n.toInt.toNat → b2 j = b j) : WU n a b2 := fun i hi => (h i hi).trans (hf i (by omega)).symm
theorem WU_new {n n2 v w : Int32} {a b a2 b2 : Nat → Int32} (hn : n2.toInt.toNat = n.toInt.toNat + 1) (h : WU n a b) (ha : a2 = va_up a n.toInt.toNat v) (hb : b2 = upd b n.toNatClampNeg w) (hv : v = w) : WU n2 a2 b2 := by
  subst ha
  subst hb
  subst hv
  intro i hi
  have e : n.toNatClampNeg = n.toInt.toNat := rfl
  unfold va_up upd
  rw [e]
  by_cases c : i = n.toInt.toNat
  · rw [if_pos c, if_pos c]
  · rw [if_neg c, if_neg c]
    exact h i (by omega)
theorem SUS_new {n n2 w1 g1 k1 v1 d1 l1 n1 b1 s1 so1 no1 fo1 ne1 : Int32} {as1 : Nat → Int32} {S_who S_against S_kind S_day S_land S_askedCount S_askedBits S_first S_foundSo S_foundNot S_fought S_needed : Nat → Int32} {S_asked : Nat → Nat → Int32} {mod_suedBy mod_suedOn mod_endKind mod_suitDay mod_suitLand mod_askedMany mod_firstMany mod_asked mod_pointIs : Nat → Int32} {S_who2 S_against2 S_kind2 S_day2 S_land2 S_askedCount2 S_askedBits2 S_first2 S_foundSo2 S_foundNot2 S_fought2 S_needed2 : Nat → Int32} {S_asked2 : Nat → Nat → Int32} {mod_suedBy2 mod_suedOn2 mod_endKind2 mod_suitDay2 mod_suitLand2 mod_askedMany2 mod_firstMany2 mod_asked2 mod_pointIs2 : Nat → Int32} {mod_isWon mod_isWon2 : Nat → Int32} (hn : n2.toInt.toNat = n.toInt.toNat + 1) (h : SUS n S_who S_against S_kind S_day S_land S_askedCount S_askedBits S_first S_foundSo S_foundNot S_fought S_needed S_asked mod_suedBy mod_suedOn mod_endKind mod_suitDay mod_suitLand mod_askedMany mod_firstMany mod_asked mod_pointIs) (hf : RFR n.toInt.toNat (mod_suedBy, mod_suedOn, mod_endKind, mod_isWon, mod_suitDay, mod_suitLand, mod_askedMany, mod_firstMany, mod_asked, mod_pointIs) (mod_suedBy2, mod_suedOn2, mod_endKind2, mod_isWon2, mod_suitDay2, mod_suitLand2, mod_askedMany2, mod_firstMany2, mod_asked2, mod_pointIs2)) (a_S_who : S_who2 = va_up S_who n.toInt.toNat w1) (a_S_against : S_against2 = va_up S_against n.toInt.toNat g1) (a_S_kind : S_kind2 = va_up S_kind n.toInt.toNat k1) (a_S_day : S_day2 = va_up S_day n.toInt.toNat d1) (a_S_land : S_land2 = va_up S_land n.toInt.toNat l1) (a_S_askedCount : S_askedCount2 = va_up S_askedCount n.toInt.toNat n1) (a_S_askedBits : S_askedBits2 = va_up S_askedBits n.toInt.toNat b1) (a_S_first : S_first2 = va_up S_first n.toInt.toNat s1) (a_S_foundSo : S_foundSo2 = va_up S_foundSo n.toInt.toNat so1) (a_S_foundNot : S_foundNot2 = va_up S_foundNot n.toInt.toNat no1) (a_S_fought : S_fought2 = va_up S_fought n.toInt.toNat fo1) (a_S_needed : S_needed2 = va_up S_needed n.toInt.toNat ne1) (a_S_asked : S_asked2 = va_up S_asked n.toInt.toNat as1) (m1 : mod_suedBy2 n.toInt.toNat = w1) (m2 : mod_suedOn2 n.toInt.toNat = g1) (m3 : mod_endKind2 n.toInt.toNat = k1) (m5 : mod_suitDay2 n.toInt.toNat = d1) (m6 : mod_suitLand2 n.toInt.toNat = l1) (m7 : k1.toInt = 6 → mod_firstMany2 n.toInt.toNat = s1) (m8 : k1.toInt ≠ 6 → mod_firstMany2 n.toInt.toNat = n1) (hC : CIN n.toInt.toNat n1 mod_askedMany2 mod_asked2 as1 b1) (hP : PIN n.toInt.toNat so1 no1 fo1 ne1 mod_pointIs2) (hd1 : 0 ≤ d1.toInt ∧ d1.toInt ≤ 9999) : SUS n2 S_who2 S_against2 S_kind2 S_day2 S_land2 S_askedCount2 S_askedBits2 S_first2 S_foundSo2 S_foundNot2 S_fought2 S_needed2 S_asked2 mod_suedBy2 mod_suedOn2 mod_endKind2 mod_suitDay2 mod_suitLand2 mod_askedMany2 mod_firstMany2 mod_asked2 mod_pointIs2 := by
  obtain ⟨f1, f2, f3, f4, f5, f6, f7, f8, f9, f10⟩ := hf
  subst a_S_who
  subst a_S_against
  subst a_S_kind
  subst a_S_day
  subst a_S_land
  subst a_S_askedCount
  subst a_S_askedBits
  subst a_S_first
  subst a_S_foundSo
  subst a_S_foundNot
  subst a_S_fought
  subst a_S_needed
  subst a_S_asked
  intro i hi
  by_cases c : i = n.toInt.toNat
  · subst c
    unfold SUQ
    rw [va_up_self, va_up_self, va_up_self, va_up_self, va_up_self, va_up_self, va_up_self, va_up_self, va_up_self, va_up_self, va_up_self, va_up_self, va_up_self]
    exact ⟨m1.symm, m2.symm, m3.symm, m5.symm, m6.symm, m7, m8, hC, hP, hd1⟩
  · exact SUQ_c (h i (by omega)) (va_up_ne _ _ c) (va_up_ne _ _ c) (va_up_ne _ _ c) (va_up_ne _ _ c) (va_up_ne _ _ c) (va_up_ne _ _ c) (va_up_ne _ _ c) (va_up_ne _ _ c) (va_up_ne _ _ c) (va_up_ne _ _ c) (va_up_ne _ _ c) (va_up_ne _ _ c) (va_up_ne _ _ c) (f1 i c) (f2 i c) (f3 i c) (f5 i c) (f6 i c) (f7 i c) (f8 i c) (fun k hk => f9 _ (by omega)) (fun k hk => f10 _ (by omega))
def op2 (w a b : Int32) : Int32 := if w = 43 then a + b else if w = 45 then a - b else if w = 42 then a * b else if w = 47 then (if b = 0 then 0 else a / b) else if w = 37 then (if b = 0 then 0 else a - a / b * b) else if w = 60 then (if a < b then 1 else 0) else if w = 61 then (if a = b then 1 else 0) else if w = 62 then (if b < a then 1 else 0) else if w = 38 then (if a = 0 ∨ b = 0 then 0 else 1) else (if a = 0 ∧ b = 0 then 0 else 1)
def ev1 (fs : Nat → Int32) (x : Int32 × Int32) (st : List Int32) : Option (List Int32) :=
  if x.1 = 1 then some (x.2 :: st)
  else if x.1 = 2 then some (fs x.2.toInt.toNat :: st)
  else if x.1 = 3 then (match st with
    | a :: t => some ((if a = 0 then 1 else 0) :: t)
    | [] => none)
  else if x.1 = 4 then (match st with
    | a :: t => some (-a :: t)
    | [] => none)
  else (match st with
    | b :: a :: t => some (op2 x.1 a b :: t)
    | _ => none)
def evs (fs : Nat → Int32) : List (Int32 × Int32) → List Int32 → Option (List Int32)
  | [], st => some st
  | x :: L, st => (ev1 fs x st).bind (evs fs L)
theorem evs_app (fs : Nat → Int32) : ∀ (L1 L2 : List (Int32 × Int32)) (st : List Int32), evs fs (L1 ++ L2) st = (evs fs L1 st).bind (evs fs L2)
  | [], L2, st => rfl
  | x :: L1, L2, st => by
    show (ev1 fs x st).bind (evs fs (L1 ++ L2)) = ((ev1 fs x st).bind (evs fs L1)).bind (evs fs L2)
    cases ev1 fs x st with
    | none => rfl
    | some s1 => exact evs_app fs L1 L2 s1
/-- the same, where at most K numbers may wait -/
def evk (fs : Nat → Int32) (K : Nat) : List (Int32 × Int32) → List Int32 → Option (List Int32)
  | [], st => some st
  | x :: L, st => if (x.1 = 1 ∨ x.1 = 2) ∧ K ≤ st.length then none else (ev1 fs x st).bind (evk fs K L)
theorem evk_app (fs : Nat → Int32) (K : Nat) : ∀ (L1 L2 : List (Int32 × Int32)) (st : List Int32), evk fs K (L1 ++ L2) st = (evk fs K L1 st).bind (evk fs K L2)
  | [], L2, st => rfl
  | x :: L1, L2, st => by
    show (if (x.1 = 1 ∨ x.1 = 2) ∧ K ≤ st.length then none else (ev1 fs x st).bind (evk fs K (L1 ++ L2))) = (if (x.1 = 1 ∨ x.1 = 2) ∧ K ≤ st.length then none else (ev1 fs x st).bind (evk fs K L1)).bind (evk fs K L2)
    by_cases c : (x.1 = 1 ∨ x.1 = 2) ∧ K ≤ st.length
    · rw [if_pos c, if_pos c]
      rfl
    · rw [if_neg c, if_neg c]
      cases ev1 fs x st with
      | none => rfl
      | some s1 => exact evk_app fs K L1 L2 s1
/-- a text of an operand: it leaves one number above those that waited, and never more than H wait above them -/
def TSG (H : Nat) (L : List (Int32 × Int32)) : Prop := ∀ (fs : Nat → Int32) (st : List Int32), ∃ v, evs fs L st = some (v :: st) ∧ ∀ K, st.length + H ≤ K → evk fs K L st = some (v :: st)
theorem TSG_le {H H2 : Nat} {L : List (Int32 × Int32)} (a : TSG H L) (h : H ≤ H2) : TSG H2 L := fun fs st => by
  obtain ⟨v, e, f⟩ := a fs st
  exact ⟨v, e, fun K hK => f K (by omega)⟩
theorem TSG_m {H : Nat} {L : List (Int32 × Int32)} (a : TSG H L) : TSG (H + 1) L := TSG_le a (Nat.le_succ H)
theorem TSG_1 {H : Nat} {x : Int32 × Int32} (hx : x.1 = 1 ∨ x.1 = 2) (hH : 1 ≤ H) : TSG H [x] := fun fs st => by
  have e : ∃ v, ev1 fs x st = some (v :: st) := by
    unfold ev1
    by_cases c : x.1 = 1
    · rw [if_pos c]
      exact ⟨_, rfl⟩
    · rw [if_neg c, if_pos (hx.resolve_left c)]
      exact ⟨_, rfl⟩
  obtain ⟨v, e⟩ := e
  refine ⟨v, ?_, fun K hK => ?_⟩
  · show (ev1 fs x st).bind (evs fs []) = _
    rw [e]
    rfl
  · show (if (x.1 = 1 ∨ x.1 = 2) ∧ K ≤ st.length then none else (ev1 fs x st).bind (evk fs K [])) = _
    rw [if_neg (fun z => by have := z.2; omega), e]
    rfl
theorem TSG_un {H : Nat} {L : List (Int32 × Int32)} {x : Int32 × Int32} (a : TSG H L) (hx : x.1 = 3 ∨ x.1 = 4) : TSG H (L ++ [x]) := fun fs st => by
  obtain ⟨v, e, f⟩ := a fs st
  have e1 : ∃ w, ev1 fs x (v :: st) = some (w :: st) := by
    unfold ev1
    by_cases c : x.1 = 3
    · rw [if_neg (by rw [c]; decide), if_neg (by rw [c]; decide), if_pos c]
      exact ⟨_, rfl⟩
    · have c4 := hx.resolve_left c
      rw [if_neg (by rw [c4]; decide), if_neg (by rw [c4]; decide), if_neg c, if_pos c4]
      exact ⟨_, rfl⟩
  obtain ⟨w, e1⟩ := e1
  have n12 : ¬ (x.1 = 1 ∨ x.1 = 2) := by
    rcases hx with h | h <;> rw [h] <;> decide
  refine ⟨w, ?_, fun K hK => ?_⟩
  · rw [evs_app, e]
    show (ev1 fs x (v :: st)).bind (evs fs []) = _
    rw [e1]
    rfl
  · rw [evk_app, f K hK]
    show (if (x.1 = 1 ∨ x.1 = 2) ∧ K ≤ (v :: st).length then none else (ev1 fs x (v :: st)).bind (evk fs K [])) = _
    rw [if_neg (fun z => n12 z.1), e1]
    rfl
theorem TSG_bin {H1 H2 H : Nat} {L1 L2 : List (Int32 × Int32)} {x : Int32 × Int32} (a1 : TSG H1 L1) (a2 : TSG H2 L2) (hx : x.1 ≠ 1 ∧ x.1 ≠ 2 ∧ x.1 ≠ 3 ∧ x.1 ≠ 4) (h1 : H1 ≤ H) (h2 : H2 + 1 ≤ H) : TSG H (L1 ++ (L2 ++ [x])) := fun fs st => by
  obtain ⟨v, e1, f1⟩ := a1 fs st
  obtain ⟨w, e2, f2⟩ := a2 fs (v :: st)
  have e3 : ∃ y, ev1 fs x (w :: v :: st) = some (y :: st) := by
    unfold ev1
    rw [if_neg hx.1, if_neg hx.2.1, if_neg hx.2.2.1, if_neg hx.2.2.2]
    exact ⟨_, rfl⟩
  obtain ⟨y, e3⟩ := e3
  have n12 : ¬ (x.1 = 1 ∨ x.1 = 2) := fun z => z.elim hx.1 hx.2.1
  refine ⟨y, ?_, fun K hK => ?_⟩
  · rw [evs_app, e1]
    show evs fs (L2 ++ [x]) (v :: st) = _
    rw [evs_app, e2]
    show (ev1 fs x (w :: v :: st)).bind (evs fs []) = _
    rw [e3]
    rfl
  · rw [evk_app, f1 K (by omega)]
    show evk fs K (L2 ++ [x]) (v :: st) = _
    rw [evk_app, f2 K (by simp only [List.length_cons]; omega)]
    show (if (x.1 = 1 ∨ x.1 = 2) ∧ K ≤ (w :: v :: st).length then none else (ev1 fs x (w :: v :: st)).bind (evk fs K [])) = _
    rw [if_neg (fun z => n12 z.1), e3]
    rfl
/-- how many may wait above an operand behind so many open brackets -/
def HH0 (o : Int32) : Nat := (5 * (6 - o.toInt)).toNat
def enc (x : Int32 × Int32) : Int32 := if x.1 = 1 then (x.2 <<< ((5 : Int32) &&& 31)) ||| (0 : Int32) else if x.1 = 2 then (x.2 <<< ((5 : Int32) &&& 31)) ||| (1 : Int32) else if x.1 = 3 then 4 else if x.1 = 4 then 5 else if x.1 = 124 then 6 else if x.1 = 38 then 7 else if x.1 = 60 then 8 else if x.1 = 61 then 9 else if x.1 = 62 then 10 else if x.1 = 43 then 11 else if x.1 = 45 then 12 else if x.1 = 42 then 13 else if x.1 = 47 then 14 else 15
/-- a token as it may stand in a text -/
def TKV (x : Int32 × Int32) : Prop := (x.1 = 1 ∧ 0 ≤ x.2.toInt ∧ x.2.toInt ≤ 9999) ∨ (x.1 = 2 ∧ 0 ≤ x.2.toInt ∧ x.2.toInt ≤ 10) ∨ ((x.1 = 3 ∨ x.1 = 4 ∨ x.1 = 124 ∨ x.1 = 38 ∨ x.1 = 60 ∨ x.1 = 61 ∨ x.1 = 62 ∨ x.1 = 43 ∨ x.1 = 45 ∨ x.1 = 42 ∨ x.1 = 47 ∨ x.1 = 37) ∧ x.2 = 0)
/-- the tokens L stand in the class's code from a on, in the reference's rows from b on -/
def CTk (cd : Nat → Int32) (a : Nat) (L : List (Int32 × Int32)) : Prop := ∀ (k : Nat) (x : Int32 × Int32), L[k]? = some x → cd (a + k) = enc x ∧ TKV x
def MTk (ac wi : Nat → Int32) (b : Nat) (L : List (Int32 × Int32)) : Prop := ∀ (k : Nat) (x : Int32 × Int32), L[k]? = some x → ac (b + k) = x.1 ∧ wi (b + k) = x.2
theorem CTk_nil {cd : Nat → Int32} {a : Nat} : CTk cd a [] := fun k x h => by
  rw [List.getElem?_nil] at h
  cases h
theorem MTk_nil {ac wi : Nat → Int32} {b : Nat} : MTk ac wi b [] := fun k x h => by
  rw [List.getElem?_nil] at h
  cases h
theorem CTk_app {cd cd2 : Nat → Int32} {a : Nat} {L L2 : List (Int32 × Int32)} (h1 : CTk cd a L) (h2 : CTk cd2 (a + L.length) L2) (hf : ∀ k, k < a + L.length → cd2 k = cd k) : CTk cd2 a (L ++ L2) := by
  intro k x hk
  by_cases c : k < L.length
  · rw [List.getElem?_append_left c] at hk
    rw [hf _ (by omega)]
    exact h1 k x hk
  · rw [List.getElem?_append_right (by omega)] at hk
    have := h2 (k - L.length) x hk
    have e : a + L.length + (k - L.length) = a + k := by omega
    rw [e] at this
    exact this
theorem MTk_app {ac wi ac2 wi2 : Nat → Int32} {b : Nat} {L L2 : List (Int32 × Int32)} (h1 : MTk ac wi b L) (h2 : MTk ac2 wi2 (b + L.length) L2) (hf : ∀ k, k < b + L.length → ac2 k = ac k ∧ wi2 k = wi k) : MTk ac2 wi2 b (L ++ L2) := by
  intro k x hk
  by_cases c : k < L.length
  · rw [List.getElem?_append_left c] at hk
    rw [(hf _ (by omega)).1, (hf _ (by omega)).2]
    exact h1 k x hk
  · rw [List.getElem?_append_right (by omega)] at hk
    have := h2 (k - L.length) x hk
    have e : b + L.length + (k - L.length) = b + k := by omega
    rw [e] at this
    exact this
theorem CTk_1 {cd : Nat → Int32} {a : Nat} {x : Int32 × Int32} {v : Int32} (hv : v = enc x) (ht : TKV x) : CTk (upd cd a v) a [x] := by
  intro k y hk
  cases k with
  | zero =>
    have hk : some x = some y := hk
    have hk := Option.some.inj hk
    subst hk
    unfold upd
    rw [if_pos (Nat.add_zero a)]
    exact ⟨hv, ht⟩
  | succ k =>
    have hk : ([] : List (Int32 × Int32))[k]? = some y := hk
    rw [List.getElem?_nil] at hk
    cases hk
theorem MTk_1 {ac wi : Nat → Int32} {b : Nat} {x : Int32 × Int32} {v w : Int32} (hv : v = x.1) (hw : w = x.2) : MTk (upd ac b v) (upd wi b w) b [x] := by
  intro k y hk
  cases k with
  | zero =>
    have hk : some x = some y := hk
    have hk := Option.some.inj hk
    subst hk
    unfold upd
    rw [if_pos (Nat.add_zero b), if_pos (Nat.add_zero b)]
    exact ⟨hv, hw⟩
  | succ k =>
    have hk : ([] : List (Int32 × Int32))[k]? = some y := hk
    rw [List.getElem?_nil] at hk
    cases hk
/-- tokens added on both sides since s0, l0 at the place a0 -/
def SEGS (s0 a0 l0 : Int) (c0 A0 W0 : Nat → Int32) (s1 a1 l1 : Int) (c1 A1 W1 : Nat → Int32) (L : List (Int32 × Int32)) : Prop := s1 = s0 + L.length ∧ l1 = l0 + L.length ∧ a0 + L.length ≤ a1 ∧ CTk c1 s0.toNat L ∧ (∀ k, k < s0.toNat → c1 k = c0 k) ∧ MTk A1 W1 (4160 + l0.toNat) L ∧ (∀ k, k < 4160 + l0.toNat → A1 k = A0 k ∧ W1 k = W0 k)
theorem SEGS_rf {s a l : Int} {c A W : Nat → Int32} : SEGS s a l c A W s a l c A W [] := ⟨by simp only [List.length_nil]; omega, by simp only [List.length_nil]; omega, by simp only [List.length_nil]; omega, CTk_nil, fun _ _ => rfl, MTk_nil, fun _ _ => ⟨rfl, rfl⟩⟩
theorem SEGS_r2 {s a a1 l : Int} {c A W : Nat → Int32} (h : a ≤ a1) : SEGS s a l c A W s a1 l c A W [] := ⟨by simp only [List.length_nil]; omega, by simp only [List.length_nil]; omega, by simp only [List.length_nil]; omega, CTk_nil, fun _ _ => rfl, MTk_nil, fun _ _ => ⟨rfl, rfl⟩⟩
theorem SEGS_tr {s0 a0 l0 s1 a1 l1 a1' s2 a2 l2 : Int} {c0 A0 W0 c1 A1 W1 c2 A2 W2 : Nat → Int32} {L1 L2 : List (Int32 × Int32)} (hs : 0 ≤ s0) (hl : 0 ≤ l0) (ha : a1 ≤ a1') (h1 : SEGS s0 a0 l0 c0 A0 W0 s1 a1 l1 c1 A1 W1 L1) (h2 : SEGS s1 a1' l1 c1 A1 W1 s2 a2 l2 c2 A2 W2 L2) : SEGS s0 a0 l0 c0 A0 W0 s2 a2 l2 c2 A2 W2 (L1 ++ L2) := by
  obtain ⟨p1, p2, p3, p4, p5, p6, p7⟩ := h1
  obtain ⟨q1, q2, q3, q4, q5, q6, q7⟩ := h2
  have e1 : s1.toNat = s0.toNat + L1.length := by omega
  have e2 : 4160 + l1.toNat = 4160 + l0.toNat + L1.length := by omega
  rw [e1] at q4 q5
  rw [e2] at q6 q7
  refine ⟨by rw [List.length_append]; omega, by rw [List.length_append]; omega, by rw [List.length_append]; omega, CTk_app p4 q4 q5, fun k hk => ?_, MTk_app p6 q6 q7, fun k hk => ?_⟩
  · rw [q5 k (by omega), p5 k hk]
  · have x := q7 k (by omega)
    have y := p7 k hk
    exact ⟨x.1.trans y.1, x.2.trans y.2⟩
theorem SEGS_em {s0 a0 l0 s1 a1 l1 : Int} {c0 A0 W0 c1 A1 W1 : Nat → Int32} {L : List (Int32 × Int32)} {x : Int32 × Int32} {i j : Nat} {v b w : Int32} {s2 l2 : Int} (hs : 0 ≤ s0) (hl : 0 ≤ l0) (h : SEGS s0 a0 l0 c0 A0 W0 s1 a1 l1 c1 A1 W1 L) (ha : a0 + L.length + 1 ≤ a1) (hv : v = enc x) (hb : b = x.1) (hw : w = x.2) (ht : TKV x) (hi : i = s1.toNat) (hj : j = 4160 + l1.toNat) (h2 : s2 = s1 + 1) (h3 : l2 = l1 + 1) : SEGS s0 a0 l0 c0 A0 W0 s2 a1 l2 (upd c1 i v) (upd A1 j b) (upd W1 j w) (L ++ [x]) := by
  have q : SEGS s1 (a0 + L.length) l1 c1 A1 W1 s2 a1 l2 (upd c1 i v) (upd A1 j b) (upd W1 j w) [x] := by
    subst hi
    subst hj
    refine ⟨by simp only [List.length_cons, List.length_nil]; omega, by simp only [List.length_cons, List.length_nil]; omega, by simp only [List.length_cons, List.length_nil]; omega, CTk_1 hv ht, fun k hk => ?_, MTk_1 hb hw, fun k hk => ?_⟩
    · unfold upd
      rw [if_neg (by omega)]
    · unfold upd
      rw [if_neg (by omega), if_neg (by omega)]
      exact ⟨rfl, rfl⟩
  have p : SEGS s0 a0 l0 c0 A0 W0 s1 (a0 + L.length) l1 c1 A1 W1 L := ⟨h.1, h.2.1, Int.le_refl _, h.2.2.2⟩
  exact SEGS_tr hs hl (Int.le_refl _) p q
theorem SEGS_sh {s0 a0 a0' l0 s1 a1 l1 : Int} {c0 A0 W0 c1 A1 W1 : Nat → Int32} {L : List (Int32 × Int32)} (h : SEGS s0 a0' l0 c0 A0 W0 s1 a1 l1 c1 A1 W1 L) (e : a0' = a0 + 1) : SEGS s0 a0 l0 c0 A0 W0 s1 a1 l1 c1 A1 W1 L ∧ a0 + L.length + 1 ≤ a1 := by
  have := h.2.2.1
  exact ⟨⟨h.1, h.2.1, by omega, h.2.2.2⟩, by omega⟩
def LPR (ts o sz a f h g o2 l : Int32) : Prop := f.toInt < 0 ∧ g.toInt < 0 ∧ h = a ∧ PB ts a ∧ o2 = o ∧ 0 ≤ o.toInt ∧ o.toInt ≤ 6 ∧ 0 ≤ sz.toInt ∧ sz.toInt ≤ a.toInt ∧ 0 ≤ l.toInt ∧ l.toInt ≤ a.toInt
/-- both failed at one place, or the reference alone: a fifth digit stands where the class goes on -/
def LBAD (ts : Int32) (tb : Nat → Int32) (a f g : Int32) : Prop := (0 ≤ f.toInt ∧ f.toInt ≤ ts.toInt ∧ g = f) ∨ (f.toInt < 0 ∧ PB ts a ∧ (48 ≤ bZ ts tb a ∧ bZ ts tb a ≤ 57) ∧ g = a)
def LOUT (ts : Int32) (tb : Nat → Int32) (kh : Nat) (o : Int32) (s0 a0 l0 : Int) (c0 A0 W0 : Nat → Int32) (R : Int32 × Int32 × Int32 × (Nat → Int32)) (S : Int32 × Int32 × Int32 × Int32 × (Nat → Int32) × (Nat → Int32)) : Prop := (LPR ts o R.1 R.2.1 R.2.2.1 S.1 S.2.1 S.2.2.1 S.2.2.2.1 ∧ ∃ L, TSG kh L ∧ SEGS s0 a0 l0 c0 A0 W0 R.1.toInt R.2.1.toInt S.2.2.2.1.toInt R.2.2.2 S.2.2.2.2.1 S.2.2.2.2.2 L) ∨ LBAD ts tb R.2.1 R.2.2.1 S.2.1
def sgn (lv : Int32) (b : Int) : Prop := (lv = 0 ∧ b = 124) ∨ (lv = 1 ∧ b = 38) ∨ (lv = 2 ∧ (b = 60 ∨ b = 61 ∨ b = 62)) ∨ (lv = 3 ∧ (b = 43 ∨ b = 45)) ∨ (lv = 4 ∧ (b = 42 ∨ b = 47 ∨ b = 37))
theorem sgn_r {lv : Int32} {b : Int} (h : sgn lv b) : 37 ≤ b ∧ b ≤ 124 ∧ ¬ (48 ≤ b ∧ b ≤ 57) := by
  unfold sgn at h
  omega
theorem sgn_tk {lv b : Int32} (h : sgn lv b.toInt) : TKV (b, 0) ∧ b ≠ 1 ∧ b ≠ 2 ∧ b ≠ 3 ∧ b ≠ 4 := by
  have hr := sgn_r h
  have n : ∀ c : Int32, c.toInt ≤ 36 → b ≠ c := fun c hc e => by
    rw [e] at hr
    omega
  refine ⟨Or.inr (Or.inr ⟨?_, rfl⟩), n 1 (by decide), n 2 (by decide), n 3 (by decide), n 4 (by decide)⟩
  have k : ∀ c : Int32, b.toInt = c.toInt → b = c := fun c hc => Int32.toInt_inj.mp hc
  show b = 3 ∨ b = 4 ∨ b = 124 ∨ b = 38 ∨ b = 60 ∨ b = 61 ∨ b = 62 ∨ b = 43 ∨ b = 45 ∨ b = 42 ∨ b = 47 ∨ b = 37
  rcases h with ⟨_, h⟩ | ⟨_, h⟩ | ⟨_, h | h | h⟩ | ⟨_, h | h⟩ | ⟨_, h | h | h⟩
  · exact Or.inr (Or.inr (Or.inl (k 124 h)))
  · exact Or.inr (Or.inr (Or.inr (Or.inl (k 38 h))))
  · exact Or.inr (Or.inr (Or.inr (Or.inr (Or.inl (k 60 h)))))
  · exact Or.inr (Or.inr (Or.inr (Or.inr (Or.inr (Or.inl (k 61 h))))))
  · exact Or.inr (Or.inr (Or.inr (Or.inr (Or.inr (Or.inr (Or.inl (k 62 h)))))))
  · exact Or.inr (Or.inr (Or.inr (Or.inr (Or.inr (Or.inr (Or.inr (Or.inl (k 43 h))))))))
  · exact Or.inr (Or.inr (Or.inr (Or.inr (Or.inr (Or.inr (Or.inr (Or.inr (Or.inl (k 45 h)))))))))
  · exact Or.inr (Or.inr (Or.inr (Or.inr (Or.inr (Or.inr (Or.inr (Or.inr (Or.inr (Or.inl (k 42 h))))))))))
  · exact Or.inr (Or.inr (Or.inr (Or.inr (Or.inr (Or.inr (Or.inr (Or.inr (Or.inr (Or.inr (Or.inl (k 47 h)))))))))))
  · exact Or.inr (Or.inr (Or.inr (Or.inr (Or.inr (Or.inr (Or.inr (Or.inr (Or.inr (Or.inr (Or.inr (k 37 h)))))))))))

set_option maxHeartbeats 4000000 in
set_option maxRecDepth 20000 in
theorem c5_accept {ts : Int32} {tb : Nat → Int32} {sz a f : Int32} {x1 r u : Int32} {n : Int} (hT : TS ts) (hp : f.toInt < 0 → PB ts a) (hn : x1.toInt = n ∧ 0 ≤ n) (h : f_X5_accept x1 ts tb sz a f = some (r, u)) : (f.toInt < 0 ∧ bZ ts tb a = n ∧ r = 1 ∧ u = a + 1 ∧ PB ts (a + 1)) ∨ ((0 ≤ f.toInt ∨ bZ ts tb a ≠ n) ∧ r = 0 ∧ u = a) := by
  unfold f_X5_accept B_X5_accept_0 at h
  by_cases c1 : 0 ≤ f
  · replace h := Option.some.inj (zk_t c1 h)
    rw [i32_le, z32_0] at c1
    exact Or.inr ⟨Or.inl c1, (congrArg Prod.fst h).symm, (congrArg Prod.snd h).symm⟩
  · replace h := zk_f c1 h
    rw [i32_le, z32_0] at c1
    replace h := zk_o2 h
    obtain ⟨r1, u1, h1, h⟩ := h
    have e := cb_byte hT h1
    by_cases c2 : r1 = x1
    · replace h := zk_t c2 h
      replace h := zk_lt h
      obtain ⟨v, ev, h⟩ := h
      replace h := Option.some.inj h
      have hb : bZ ts tb a = n := by unfold bZ; rw [← e, c2]; exact hn.1
      exact Or.inl ⟨by omega, hb, (congrArg Prod.fst h).symm, by rw [← ev]; exact (congrArg Prod.snd h).symm, PB_s hT (hp (by omega)) (by rw [hb]; exact hn.2)⟩
    · replace h := Option.some.inj (zk_f c2 h)
      have hb : bZ ts tb a ≠ n := by
        unfold bZ
        rw [← e]
        intro z
        exact c2 (Int32.toInt_inj.mp (z.trans hn.1.symm))
      exact Or.inr ⟨Or.inr hb, (congrArg Prod.fst h).symm, (congrArg Prod.snd h).symm⟩
set_option maxHeartbeats 4000000 in
set_option maxRecDepth 20000 in
theorem c5_fail  {sz a f : Int32} {u : Int32} (h : f_X5_fail sz a f = some u) : (f.toInt < 0 ∧ u = a) ∨ (0 ≤ f.toInt ∧ u = f) := by
  unfold f_X5_fail B_X5_fail_0 at h
  by_cases c1 : 0 ≤ f
  · replace h := (Option.some.inj (zk_t c1 h)).symm
    rw [i32_le, z32_0] at c1
    exact Or.inr ⟨c1, h⟩
  · replace h := (Option.some.inj (zk_f c1 h)).symm
    rw [i32_le, z32_0] at c1
    exact Or.inl ⟨by omega, h⟩
set_option maxHeartbeats 4000000 in
set_option maxRecDepth 20000 in
theorem c5_emit  {sz a f : Int32} {cd : Nat → Int32} {x1 : Int32} {R : Int32 × (Nat → Int32)} (h : f_X5_emit x1 sz a f cd = some R) : (f.toInt < 0 → 0 ≤ sz.toInt → sz.toInt ≤ 120 → R.1.toInt = sz.toInt + 1 ∧ R.1 = sz + 1 ∧ R.2 = upd cd sz.toInt.toNat x1) ∧ (0 ≤ f.toInt → R = (sz, cd)) := by
  unfold f_X5_emit B_X5_emit_0 at h
  by_cases c1 : 0 ≤ f
  · replace h := (Option.some.inj (zk_t c1 h)).symm
    rw [i32_le, z32_0] at c1
    exact ⟨fun z => by omega, fun _ => h⟩
  · replace h := zk_f c1 h
    rw [i32_le, z32_0] at c1
    refine ⟨fun _ b0 b1 => ?_, fun z => by omega⟩
    have e121 : (121 : Int32).toInt = 121 := by decide
    replace h := zk_f (show ¬ (121 : Int32) ≤ sz by rw [i32_le, e121]; omega) h
    replace h := zk_gd h
    obtain ⟨_, h⟩ := h
    replace h := zk_lt h
    obtain ⟨v1, e1, h⟩ := h
    replace h := zk_lt h
    obtain ⟨v2, e2, h⟩ := h
    replace h := Option.some.inj h
    subst e1
    subst e2
    rw [← h]
    exact ⟨i32_s (by omega), rfl, rfl⟩
set_option maxHeartbeats 4000000 in
set_option maxRecDepth 20000 in
theorem c5_open  {sz a f : Int32} {x1 : Int32} {R : Int32 × Int32 × Int32} (hf : f.toInt < 0) (h : f_X5_mayOpen x1 sz a f = some R) : (x1.toInt < 6 ∧ R = (1, a + 1, f)) ∨ (6 ≤ x1.toInt ∧ R = (0, a, a)) := by
  unfold f_X5_mayOpen B_X5_mayOpen_0 at h
  have e6 : (6 : Int32).toInt = 6 := by decide
  by_cases c1 : x1 < 6
  · replace h := zk_t c1 h
    rw [i32_lt, e6] at c1
    replace h := zk_lt h
    obtain ⟨v1, e1, h⟩ := h
    subst e1
    exact Or.inl ⟨c1, (Option.some.inj h).symm⟩
  · replace h := zk_f c1 h
    rw [i32_lt, e6] at c1
    replace h := zk_o1 h
    obtain ⟨u, a1, h⟩ := h
    rcases c5_fail a1 with ⟨_, e⟩ | ⟨e, _⟩
    · subst e
      exact Or.inr ⟨by omega, (Option.some.inj h).symm⟩
    · omega
set_option maxHeartbeats 4000000 in
set_option maxRecDepth 20000 in
theorem c5_op {ts : Int32} {tb : Nat → Int32} {sz a f : Int32} {lv r : Int32} {u : Unit} (hT : TS ts) (hl : 0 ≤ lv.toInt ∧ lv.toInt ≤ 4) (h : f_X5_operatorAt lv ts tb sz a f = some (r, u)) : (sgn lv (bZ ts tb a) ∧ r = enc (bz ts tb a, 0)) ∨ (¬ sgn lv (bZ ts tb a) ∧ r = -1) := by
  unfold f_X5_operatorAt B_X5_operatorAt_0 at h
  replace h := zk_o2 h
  obtain ⟨r1, u1, h1, h⟩ := h
  have e := cb_byte hT h1
  subst e
  have q : ∀ c : Int32, bz ts tb a ≠ c → bZ ts tb a ≠ c.toInt := fun c n z => n (Int32.toInt_inj.mp z)
  have q2 : ∀ c : Int32, bz ts tb a = c → bZ ts tb a = c.toInt := fun c z => by unfold bZ; rw [z]
  by_cases k0 : lv = (0 : Int32)
  · replace h := zk_t k0 h
    subst k0
    by_cases b124 : bz ts tb a = (124 : Int32)
    · have h : r = (6 : Int32) := (congrArg Prod.fst (Option.some.inj (zk_t b124 h))).symm
      have w := q2 _ b124
      have e9 : (124 : Int32).toInt = 124 := by decide
      rw [e9] at w
      refine Or.inl ⟨?_, ?_⟩
      · exact Or.inl ⟨rfl, w⟩
      · rw [h, b124]
        decide
    replace h := zk_f b124 h
    have h : r = (-1 : Int32) := (congrArg Prod.fst (Option.some.inj h)).symm
    have n124 := q _ b124
    have e124 : (124 : Int32).toInt = 124 := by decide
    rw [e124] at n124
    refine Or.inr ⟨fun z => ?_, h⟩
    rcases z with ⟨z1, z⟩ | ⟨z1, z⟩ | ⟨z1, z⟩ | ⟨z1, z⟩ | ⟨z1, z⟩
    · omega
    · exact absurd z1 (by decide)
    · exact absurd z1 (by decide)
    · exact absurd z1 (by decide)
    · exact absurd z1 (by decide)
  replace h := zk_f k0 h
  by_cases k1 : lv = (1 : Int32)
  · replace h := zk_t k1 h
    subst k1
    by_cases b38 : bz ts tb a = (38 : Int32)
    · have h : r = (7 : Int32) := (congrArg Prod.fst (Option.some.inj (zk_t b38 h))).symm
      have w := q2 _ b38
      have e9 : (38 : Int32).toInt = 38 := by decide
      rw [e9] at w
      refine Or.inl ⟨?_, ?_⟩
      · exact Or.inr (Or.inl ⟨rfl, w⟩)
      · rw [h, b38]
        decide
    replace h := zk_f b38 h
    have h : r = (-1 : Int32) := (congrArg Prod.fst (Option.some.inj h)).symm
    have n38 := q _ b38
    have e38 : (38 : Int32).toInt = 38 := by decide
    rw [e38] at n38
    refine Or.inr ⟨fun z => ?_, h⟩
    rcases z with ⟨z1, z⟩ | ⟨z1, z⟩ | ⟨z1, z⟩ | ⟨z1, z⟩ | ⟨z1, z⟩
    · exact absurd z1 (by decide)
    · omega
    · exact absurd z1 (by decide)
    · exact absurd z1 (by decide)
    · exact absurd z1 (by decide)
  replace h := zk_f k1 h
  by_cases k2 : lv = (2 : Int32)
  · replace h := zk_t k2 h
    subst k2
    by_cases b60 : bz ts tb a = (60 : Int32)
    · have h : r = (8 : Int32) := (congrArg Prod.fst (Option.some.inj (zk_t b60 h))).symm
      have w := q2 _ b60
      have e9 : (60 : Int32).toInt = 60 := by decide
      rw [e9] at w
      refine Or.inl ⟨?_, ?_⟩
      · exact Or.inr (Or.inr (Or.inl ⟨rfl, Or.inl w⟩))
      · rw [h, b60]
        decide
    replace h := zk_f b60 h
    by_cases b61 : bz ts tb a = (61 : Int32)
    · have h : r = (9 : Int32) := (congrArg Prod.fst (Option.some.inj (zk_t b61 h))).symm
      have w := q2 _ b61
      have e9 : (61 : Int32).toInt = 61 := by decide
      rw [e9] at w
      refine Or.inl ⟨?_, ?_⟩
      · exact Or.inr (Or.inr (Or.inl ⟨rfl, Or.inr (Or.inl w)⟩))
      · rw [h, b61]
        decide
    replace h := zk_f b61 h
    by_cases b62 : bz ts tb a = (62 : Int32)
    · have h : r = (10 : Int32) := (congrArg Prod.fst (Option.some.inj (zk_t b62 h))).symm
      have w := q2 _ b62
      have e9 : (62 : Int32).toInt = 62 := by decide
      rw [e9] at w
      refine Or.inl ⟨?_, ?_⟩
      · exact Or.inr (Or.inr (Or.inl ⟨rfl, Or.inr (Or.inr (w))⟩))
      · rw [h, b62]
        decide
    replace h := zk_f b62 h
    have h : r = (-1 : Int32) := (congrArg Prod.fst (Option.some.inj h)).symm
    have n60 := q _ b60
    have e60 : (60 : Int32).toInt = 60 := by decide
    rw [e60] at n60
    have n61 := q _ b61
    have e61 : (61 : Int32).toInt = 61 := by decide
    rw [e61] at n61
    have n62 := q _ b62
    have e62 : (62 : Int32).toInt = 62 := by decide
    rw [e62] at n62
    refine Or.inr ⟨fun z => ?_, h⟩
    rcases z with ⟨z1, z⟩ | ⟨z1, z⟩ | ⟨z1, z⟩ | ⟨z1, z⟩ | ⟨z1, z⟩
    · exact absurd z1 (by decide)
    · exact absurd z1 (by decide)
    · omega
    · exact absurd z1 (by decide)
    · exact absurd z1 (by decide)
  replace h := zk_f k2 h
  by_cases k3 : lv = (3 : Int32)
  · replace h := zk_t k3 h
    subst k3
    by_cases b43 : bz ts tb a = (43 : Int32)
    · have h : r = (11 : Int32) := (congrArg Prod.fst (Option.some.inj (zk_t b43 h))).symm
      have w := q2 _ b43
      have e9 : (43 : Int32).toInt = 43 := by decide
      rw [e9] at w
      refine Or.inl ⟨?_, ?_⟩
      · exact Or.inr (Or.inr (Or.inr (Or.inl ⟨rfl, Or.inl w⟩)))
      · rw [h, b43]
        decide
    replace h := zk_f b43 h
    by_cases b45 : bz ts tb a = (45 : Int32)
    · have h : r = (12 : Int32) := (congrArg Prod.fst (Option.some.inj (zk_t b45 h))).symm
      have w := q2 _ b45
      have e9 : (45 : Int32).toInt = 45 := by decide
      rw [e9] at w
      refine Or.inl ⟨?_, ?_⟩
      · exact Or.inr (Or.inr (Or.inr (Or.inl ⟨rfl, Or.inr (w)⟩)))
      · rw [h, b45]
        decide
    replace h := zk_f b45 h
    have h : r = (-1 : Int32) := (congrArg Prod.fst (Option.some.inj h)).symm
    have n43 := q _ b43
    have e43 : (43 : Int32).toInt = 43 := by decide
    rw [e43] at n43
    have n45 := q _ b45
    have e45 : (45 : Int32).toInt = 45 := by decide
    rw [e45] at n45
    refine Or.inr ⟨fun z => ?_, h⟩
    rcases z with ⟨z1, z⟩ | ⟨z1, z⟩ | ⟨z1, z⟩ | ⟨z1, z⟩ | ⟨z1, z⟩
    · exact absurd z1 (by decide)
    · exact absurd z1 (by decide)
    · exact absurd z1 (by decide)
    · omega
    · exact absurd z1 (by decide)
  replace h := zk_f k3 h
  have k4 : lv = (4 : Int32) := by
    rw [i32_e] at k0 k1 k2 k3 ⊢
    have e0 : (0 : Int32).toInt = 0 := by decide
    have e1 : (1 : Int32).toInt = 1 := by decide
    have e2 : (2 : Int32).toInt = 2 := by decide
    have e3 : (3 : Int32).toInt = 3 := by decide
    have e4 : (4 : Int32).toInt = 4 := by decide
    omega
  subst k4
  by_cases b42 : bz ts tb a = (42 : Int32)
  · have h : r = (13 : Int32) := (congrArg Prod.fst (Option.some.inj (zk_t b42 h))).symm
    have w := q2 _ b42
    have e9 : (42 : Int32).toInt = 42 := by decide
    rw [e9] at w
    refine Or.inl ⟨?_, ?_⟩
    · exact Or.inr (Or.inr (Or.inr (Or.inr ⟨rfl, Or.inl w⟩)))
    · rw [h, b42]
      decide
  replace h := zk_f b42 h
  by_cases b47 : bz ts tb a = (47 : Int32)
  · have h : r = (14 : Int32) := (congrArg Prod.fst (Option.some.inj (zk_t b47 h))).symm
    have w := q2 _ b47
    have e9 : (47 : Int32).toInt = 47 := by decide
    rw [e9] at w
    refine Or.inl ⟨?_, ?_⟩
    · exact Or.inr (Or.inr (Or.inr (Or.inr ⟨rfl, Or.inr (Or.inl w)⟩)))
    · rw [h, b47]
      decide
  replace h := zk_f b47 h
  by_cases b37 : bz ts tb a = (37 : Int32)
  · have h : r = (15 : Int32) := (congrArg Prod.fst (Option.some.inj (zk_t b37 h))).symm
    have w := q2 _ b37
    have e9 : (37 : Int32).toInt = 37 := by decide
    rw [e9] at w
    refine Or.inl ⟨?_, ?_⟩
    · exact Or.inr (Or.inr (Or.inr (Or.inr ⟨rfl, Or.inr (Or.inr (w))⟩)))
    · rw [h, b37]
      decide
  replace h := zk_f b37 h
  have h : r = (-1 : Int32) := (congrArg Prod.fst (Option.some.inj h)).symm
  have n42 := q _ b42
  have e42 : (42 : Int32).toInt = 42 := by decide
  rw [e42] at n42
  have n47 := q _ b47
  have e47 : (47 : Int32).toInt = 47 := by decide
  rw [e47] at n47
  have n37 := q _ b37
  have e37 : (37 : Int32).toInt = 37 := by decide
  rw [e37] at n37
  refine Or.inr ⟨fun z => ?_, h⟩
  rcases z with ⟨z1, z⟩ | ⟨z1, z⟩ | ⟨z1, z⟩ | ⟨z1, z⟩ | ⟨z1, z⟩
  · exact absurd z1 (by decide)
  · exact absurd z1 (by decide)
  · exact absurd z1 (by decide)
  · exact absurd z1 (by decide)
  · omega
