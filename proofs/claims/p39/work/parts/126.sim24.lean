
set_option maxHeartbeats 4000000 in
set_option maxRecDepth 20000 in
theorem pw_act {mod_code : Int32} {court_shoeCount : Int32} {mod_claims : Int32} {ts : Int32} {at_ : Int32} {f : Int32} {court_suitCount : Int32} {mod_doneMany : Int32} {mod_undoneMany : Int32} {mod_open : Int32} {mod_laid : Int32} {mod_isBoth : Int32} {mod_wished : Int32} {mod_bestMany : Int32} {mod_bestRow : Int32} {mod_ringDigits : Int32} {mod_traces : Int32} {mod_askedMany : Nat → Int32} {mod_endKind : Nat → Int32} {mod_undoneFrom : Nat → Int32} {mod_traced : Nat → Int32} {court_claimCount : Int32} {court_suits : Nat → Option Nat} {S_who : Nat → Int32} {S_against : Nat → Int32} {S_kind : Nat → Int32} {S_won : Nat → Int32} {S_day : Nat → Int32} {S_land : Nat → Int32} {S_undoneFrom : Nat → Int32} {S_asked : Nat → Nat → Int32} {S_askedCount : Nat → Int32} {S_askedBits : Nat → Int32} {S_first : Nat → Int32} {S_foundSo : Nat → Int32} {S_foundNot : Nat → Int32} {S_fought : Nat → Int32} {S_needed : Nat → Int32} {acts_ran : Int32} {acts_kind : Int32} {acts_number : Int32} {acts_claims : Int32} {acts_bodies : Nat → Int32} {x1 x2 x3 : Int32} {R : Int32 × Int32 × Int32 × Int32 × Int32 × (Nat → Int32)} {Q : Int32 × Int32 × (Nat → Int32)} (hn : 0 ≤ court_suitCount.toInt ∧ court_suitCount.toInt ≤ 40) (hA : WU court_suitCount S_askedCount mod_askedMany) (hU : WU court_suitCount S_undoneFrom mod_undoneFrom) (hK : WU court_suitCount S_kind mod_endKind) (hR : ∀ i, 0 ≤ (S_kind i).toInt ∧ (S_kind i).toInt ≤ 6) (h : f_X11_act x1 x2 x3 court_shoeCount court_claimCount court_suitCount court_suits acts_ran acts_kind acts_number acts_claims acts_bodies S_who S_against S_kind S_won S_day S_land S_undoneFrom S_asked S_askedCount S_askedBits S_first S_foundSo S_foundNot S_fought S_needed = some R) (k : f_X12_act x1 x2 x3 mod_code court_shoeCount mod_claims ts at_ f court_suitCount mod_doneMany mod_undoneMany mod_open mod_laid mod_isBoth mod_wished mod_bestMany mod_bestRow mod_ringDigits mod_traces mod_endKind mod_undoneFrom mod_askedMany mod_traced = some Q) : R.1 = Q.1 ∧ R.2.1 = Q.2.1 ∧ (acts_bodies = mod_traced → R.2.2.2.2.2 = Q.2.2) := by
  have hr := hR x1.toNatClampNeg
  have e : S_kind x1.toNatClampNeg = 0 ∨ S_kind x1.toNatClampNeg = 1 ∨ S_kind x1.toNatClampNeg = 2 ∨ S_kind x1.toNatClampNeg = 3 ∨ S_kind x1.toNatClampNeg = 4 ∨ S_kind x1.toNatClampNeg = 5 ∨ S_kind x1.toNatClampNeg = 6 := by
    simp only [i32_e, z32_0, z32_1, z32L_2, z32L_3, z32L_4, z32L_5, z32L_6]
    omega
  by_cases c : (S_undoneFrom x1.toNatClampNeg).toInt < 0
  · rcases e with e | e | e | e | e | e | e
    · exact pw_act0 hn hA (Or.inl ⟨c, e⟩) (fun hi => Or.inl ⟨by rw [← hU _ hi]; exact c, (hK _ hi).symm.trans e⟩) h k
    · exact pw_act1 hn hA (Or.inl ⟨c, e⟩) (fun hi => Or.inl ⟨by rw [← hU _ hi]; exact c, (hK _ hi).symm.trans e⟩) h k
    · exact pw_act2 hn hA (Or.inl ⟨c, e⟩) (fun hi => Or.inl ⟨by rw [← hU _ hi]; exact c, (hK _ hi).symm.trans e⟩) h k
    · exact pw_act3 hn hA (Or.inl ⟨c, e⟩) (fun hi => Or.inl ⟨by rw [← hU _ hi]; exact c, (hK _ hi).symm.trans e⟩) h k
    · exact pw_act4 hn hA (Or.inl ⟨c, e⟩) (fun hi => Or.inl ⟨by rw [← hU _ hi]; exact c, (hK _ hi).symm.trans e⟩) h k
    · exact pw_act5 hn hA (Or.inl ⟨c, e⟩) (fun hi => Or.inl ⟨by rw [← hU _ hi]; exact c, (hK _ hi).symm.trans e⟩) h k
    · exact pw_act6 hn hA (Or.inl ⟨c, e⟩) (fun hi => Or.inl ⟨by rw [← hU _ hi]; exact c, (hK _ hi).symm.trans e⟩) h k
  · exact pw_act5 hn hA (Or.inr ⟨by omega, rfl⟩) (fun hi => Or.inr ⟨by rw [← hU _ hi]; omega, rfl⟩) h k
theorem SZ_00 {a b c : Int32} (h1 : a = 0) (h2 : b = 0) (h3 : c = 0) : a.toInt = b.toInt + c.toInt := by
  subst h1
  subst h2
  subst h3
  decide
theorem CV_00 {sz nS nT : Int32} {so nu : Nat → Int32} (h : sz = 0) : CV sz nS nT so nu := by
  subst h
  intro k hk
  exact absurd hk (by rw [z32_0]; exact Nat.not_lt_zero k)
theorem WU_00 {n : Int32} {a b : Nat → Int32} (h : n = 0) : WU n a b := by
  subst h
  intro k hk
  exact absurd hk (by rw [z32_0]; exact Nat.not_lt_zero k)
def CIN (i : Nat) (n : Int32) (am ma as : Nat → Int32) (b : Int32) : Prop :=
  (0 ≤ n.toInt ∧ n.toInt ≤ 32) ∧ am i = n ∧ (∀ k, k < n.toInt.toNat → ma (32 * i + k) = as k) ∧ (∀ k, k < n.toInt.toNat → 0 ≤ (as k).toInt ∧ (as k).toInt ≤ 31) ∧ (∀ v, v < 32 → (zbt b v = true ↔ ∃ k, k < n.toInt.toNat ∧ (as k).toInt.toNat = v)) ∧ (∀ j k, j < n.toInt.toNat → k < n.toInt.toNat → as j = as k → j = k)
def PIN (i : Nat) (so no fo ne : Int32) (pi : Nat → Int32) : Prop := ∀ p, p < 32 → (pi (32 * i + p)).toInt = PV so no fo ne p ∧ ¬ (zbt so p = true ∧ zbt no p = true) ∧ ((zbt fo p = true ∨ zbt ne p = true) → (zbt so p = true ∨ zbt no p = true))
theorem CI_N {x1 n b : Int32} {am ma as : Nat → Int32} (h : CI x1 n am ma as b) : CIN x1.toInt.toNat n am ma as b := h
theorem PI_N {x1 so no fo ne : Int32} {pi : Nat → Int32} (h : PI x1 so no fo ne pi) : PIN x1.toInt.toNat so no fo ne pi := h
theorem CIN_m {i : Nat} {n b : Int32} {am ma as am2 ma2 : Nat → Int32} (h : CIN i n am ma as b) (e1 : am2 i = am i) (e2 : ∀ k, k < 32 → ma2 (32 * i + k) = ma (32 * i + k)) : CIN i n am2 ma2 as b := by
  obtain ⟨h1, h2, h3, h4⟩ := h
  exact ⟨h1, e1.trans h2, fun k hk => (e2 k (by omega)).trans (h3 k hk), h4⟩
theorem PIN_m {i : Nat} {so no fo ne : Int32} {pi pi2 : Nat → Int32} (h : PIN i so no fo ne pi) (e : ∀ k, k < 32 → pi2 (32 * i + k) = pi (32 * i + k)) : PIN i so no fo ne pi2 := by
  intro p hp
  rw [e p hp]
  exact h p hp
def SUQ (i : Nat) (S_who S_against S_kind S_day S_land S_askedCount S_askedBits S_first S_foundSo S_foundNot S_fought S_needed : Nat → Int32) (S_asked : Nat → Nat → Int32) (mod_suedBy mod_suedOn mod_endKind mod_suitDay mod_suitLand mod_askedMany mod_firstMany mod_asked mod_pointIs : Nat → Int32) : Prop := S_who i = mod_suedBy i ∧ S_against i = mod_suedOn i ∧ S_kind i = mod_endKind i ∧ S_day i = mod_suitDay i ∧ S_land i = mod_suitLand i ∧ ((S_kind i).toInt = 6 → mod_firstMany i = S_first i) ∧ ((S_kind i).toInt ≠ 6 → mod_firstMany i = S_askedCount i) ∧ CIN i (S_askedCount i) mod_askedMany mod_asked (S_asked i) (S_askedBits i) ∧ PIN i (S_foundSo i) (S_foundNot i) (S_fought i) (S_needed i) mod_pointIs ∧ (0 ≤ (S_day i).toInt ∧ (S_day i).toInt ≤ 9999)
def SUS (n : Int32) (S_who S_against S_kind S_day S_land S_askedCount S_askedBits S_first S_foundSo S_foundNot S_fought S_needed : Nat → Int32) (S_asked : Nat → Nat → Int32) (mod_suedBy mod_suedOn mod_endKind mod_suitDay mod_suitLand mod_askedMany mod_firstMany mod_asked mod_pointIs : Nat → Int32) : Prop := ∀ i, i < n.toInt.toNat → SUQ i S_who S_against S_kind S_day S_land S_askedCount S_askedBits S_first S_foundSo S_foundNot S_fought S_needed S_asked mod_suedBy mod_suedOn mod_endKind mod_suitDay mod_suitLand mod_askedMany mod_firstMany mod_asked mod_pointIs
theorem SUS_00 {n : Int32} {S_who S_against S_kind S_day S_land S_askedCount S_askedBits S_first S_foundSo S_foundNot S_fought S_needed : Nat → Int32} {S_asked : Nat → Nat → Int32} {mod_suedBy mod_suedOn mod_endKind mod_suitDay mod_suitLand mod_askedMany mod_firstMany mod_asked mod_pointIs : Nat → Int32} (h : n = 0) : SUS n S_who S_against S_kind S_day S_land S_askedCount S_askedBits S_first S_foundSo S_foundNot S_fought S_needed S_asked mod_suedBy mod_suedOn mod_endKind mod_suitDay mod_suitLand mod_askedMany mod_firstMany mod_asked mod_pointIs := by
  subst h
  intro k hk
  exact absurd hk (by rw [z32_0]; exact Nat.not_lt_zero k)
theorem SUQ_c {i : Nat} {S_who S_against S_kind S_day S_land S_askedCount S_askedBits S_first S_foundSo S_foundNot S_fought S_needed : Nat → Int32} {S_asked : Nat → Nat → Int32} {mod_suedBy mod_suedOn mod_endKind mod_suitDay mod_suitLand mod_askedMany mod_firstMany mod_asked mod_pointIs : Nat → Int32} {S_who2 S_against2 S_kind2 S_day2 S_land2 S_askedCount2 S_askedBits2 S_first2 S_foundSo2 S_foundNot2 S_fought2 S_needed2 : Nat → Int32} {S_asked2 : Nat → Nat → Int32} {mod_suedBy2 mod_suedOn2 mod_endKind2 mod_suitDay2 mod_suitLand2 mod_askedMany2 mod_firstMany2 mod_asked2 mod_pointIs2 : Nat → Int32} (h : SUQ i S_who S_against S_kind S_day S_land S_askedCount S_askedBits S_first S_foundSo S_foundNot S_fought S_needed S_asked mod_suedBy mod_suedOn mod_endKind mod_suitDay mod_suitLand mod_askedMany mod_firstMany mod_asked mod_pointIs) (e_S_who : S_who2 i = S_who i) (e_S_against : S_against2 i = S_against i) (e_S_kind : S_kind2 i = S_kind i) (e_S_day : S_day2 i = S_day i) (e_S_land : S_land2 i = S_land i) (e_S_askedCount : S_askedCount2 i = S_askedCount i) (e_S_askedBits : S_askedBits2 i = S_askedBits i) (e_S_first : S_first2 i = S_first i) (e_S_foundSo : S_foundSo2 i = S_foundSo i) (e_S_foundNot : S_foundNot2 i = S_foundNot i) (e_S_fought : S_fought2 i = S_fought i) (e_S_needed : S_needed2 i = S_needed i) (e_S_asked : S_asked2 i = S_asked i) (e_mod_suedBy : mod_suedBy2 i = mod_suedBy i) (e_mod_suedOn : mod_suedOn2 i = mod_suedOn i) (e_mod_endKind : mod_endKind2 i = mod_endKind i) (e_mod_suitDay : mod_suitDay2 i = mod_suitDay i) (e_mod_suitLand : mod_suitLand2 i = mod_suitLand i) (e_mod_askedMany : mod_askedMany2 i = mod_askedMany i) (e_mod_firstMany : mod_firstMany2 i = mod_firstMany i) (e_mod_asked : ∀ k, k < 32 → mod_asked2 (32 * i + k) = mod_asked (32 * i + k)) (e_mod_pointIs : ∀ k, k < 32 → mod_pointIs2 (32 * i + k) = mod_pointIs (32 * i + k)) : SUQ i S_who2 S_against2 S_kind2 S_day2 S_land2 S_askedCount2 S_askedBits2 S_first2 S_foundSo2 S_foundNot2 S_fought2 S_needed2 S_asked2 mod_suedBy2 mod_suedOn2 mod_endKind2 mod_suitDay2 mod_suitLand2 mod_askedMany2 mod_firstMany2 mod_asked2 mod_pointIs2 := by
  obtain ⟨h1, h2, h3, h4, h5, h6, h7, h8, h9, h10⟩ := h
  unfold SUQ
  rw [e_S_who, e_S_against, e_S_kind, e_S_day, e_S_land, e_S_askedCount, e_S_askedBits, e_S_first, e_S_foundSo, e_S_foundNot, e_S_fought, e_S_needed, e_S_asked, e_mod_suedBy, e_mod_suedOn, e_mod_endKind, e_mod_suitDay, e_mod_suitLand, e_mod_firstMany]
  exact ⟨h1, h2, h3, h4, h5, h6, h7, CIN_m h8 e_mod_askedMany e_mod_asked, PIN_m h9 e_mod_pointIs, h10⟩
theorem SUS_of {n : Int32} {S_who S_against S_kind S_day S_land S_askedCount S_askedBits S_first S_foundSo S_foundNot S_fought S_needed : Nat → Int32} {S_asked : Nat → Nat → Int32} {mod_suedBy mod_suedOn mod_endKind mod_suitDay mod_suitLand mod_askedMany mod_firstMany mod_asked mod_pointIs : Nat → Int32} {mod_suedBy2 mod_suedOn2 mod_endKind2 mod_suitDay2 mod_suitLand2 mod_askedMany2 mod_firstMany2 mod_asked2 : Nat → Int32} {mw mu mw2 mu2 : Nat → Int32} (hn : n.toInt ≤ 40) (h : SUS n S_who S_against S_kind S_day S_land S_askedCount S_askedBits S_first S_foundSo S_foundNot S_fought S_needed S_asked mod_suedBy mod_suedOn mod_endKind mod_suitDay mod_suitLand mod_askedMany mod_firstMany mod_asked mod_pointIs) (hf : OF mod_suedBy mod_suedOn mod_endKind mw mod_suitDay mod_suitLand mu mod_askedMany mod_firstMany mod_asked mod_suedBy2 mod_suedOn2 mod_endKind2 mw2 mod_suitDay2 mod_suitLand2 mu2 mod_askedMany2 mod_firstMany2 mod_asked2) : SUS n S_who S_against S_kind S_day S_land S_askedCount S_askedBits S_first S_foundSo S_foundNot S_fought S_needed S_asked mod_suedBy2 mod_suedOn2 mod_endKind2 mod_suitDay2 mod_suitLand2 mod_askedMany2 mod_firstMany2 mod_asked2 mod_pointIs := by
  obtain ⟨f1, f2, f3, f4, f5, f6, f7, f8, f9, f10⟩ := hf
  intro i hi
  exact SUQ_c (h i hi) rfl rfl rfl rfl rfl rfl rfl rfl rfl rfl rfl rfl rfl (f1 i (by omega)) (f2 i (by omega)) (f3 i (by omega)) (f5 i (by omega)) (f6 i (by omega)) (f8 i (by omega)) (f9 i (by omega)) (fun k hk => f10 _ (by omega)) (fun k hk => rfl)
theorem WU_of {n : Int32} {a b b2 : Nat → Int32} (hn : n.toInt ≤ 40) (h : WU n a b) (hf : ∀ j, j < 40 → b2 j = b j) : WU n a b2 := fun i hi => (h i hi).trans (hf i (by omega)).symm
theorem SUS_fault {n : Int32} {S_who S_against S_kind S_day S_land S_askedCount S_askedBits S_first S_foundSo S_foundNot S_fought S_needed : Nat → Int32} {S_asked : Nat → Nat → Int32} {mod_suedBy mod_suedOn mod_endKind mod_suitDay mod_suitLand mod_askedMany mod_firstMany mod_asked mod_pointIs : Nat → Int32} {mod_suedBy2 mod_suedOn2 mod_endKind2 mod_suitDay2 mod_suitLand2 mod_askedMany2 mod_firstMany2 mod_asked2 mod_pointIs2 mod_isWon mod_isWon2 : Nat → Int32} (h : SUS n S_who S_against S_kind S_day S_land S_askedCount S_askedBits S_first S_foundSo S_foundNot S_fought S_needed S_asked mod_suedBy mod_suedOn mod_endKind mod_suitDay mod_suitLand mod_askedMany mod_firstMany mod_asked mod_pointIs) (hf : RFR n.toInt.toNat (mod_suedBy, mod_suedOn, mod_endKind, mod_isWon, mod_suitDay, mod_suitLand, mod_askedMany, mod_firstMany, mod_asked, mod_pointIs) (mod_suedBy2, mod_suedOn2, mod_endKind2, mod_isWon2, mod_suitDay2, mod_suitLand2, mod_askedMany2, mod_firstMany2, mod_asked2, mod_pointIs2)) : SUS n S_who S_against S_kind S_day S_land S_askedCount S_askedBits S_first S_foundSo S_foundNot S_fought S_needed S_asked mod_suedBy2 mod_suedOn2 mod_endKind2 mod_suitDay2 mod_suitLand2 mod_askedMany2 mod_firstMany2 mod_asked2 mod_pointIs2 := by
  obtain ⟨f1, f2, f3, f4, f5, f6, f7, f8, f9, f10⟩ := hf
  intro i hi
  have hne : i ≠ n.toInt.toNat := by omega
  exact SUQ_c (h i hi) rfl rfl rfl rfl rfl rfl rfl rfl rfl rfl rfl rfl rfl (f1 i hne) (f2 i hne) (f3 i hne) (f5 i hne) (f6 i hne) (f7 i hne) (f8 i hne) (fun k hk => f9 _ (by omega)) (fun k hk => f10 _ (by omega))
theorem WU_fault {n : Int32} {a b b2 : Nat → Int32} (h : WU n a b) (hf : ∀ j, j ≠ n.toInt.toNat → b2 j = b j) : WU n a b2 := fun i hi => (h i hi).trans (hf i (by omega)).symm
theorem WU_new {n n2 v w : Int32} {a b a2 b2 : Nat → Int32} (hn : n2.toInt.toNat = n.toInt.toNat + 1) (h : WU n a b) (ha : a2 = va_up a n.toInt.toNat v) (hb : b2 = upd b n.toNatClampNeg w) (hv : v = w) : WU n2 a2 b2 := by
  subst ha
  subst hb
  subst hv
  intro i hi
  have e : n.toNatClampNeg = n.toInt.toNat := rfl
  unfold va_up upd
  rw [e]
  by_cases c : i = n.toInt.toNat
  · rw [if_pos c, if_pos c]
  · rw [if_neg c, if_neg c]
    exact h i (by omega)
theorem SUS_new {n n2 w1 g1 k1 v1 d1 l1 n1 b1 s1 so1 no1 fo1 ne1 : Int32} {as1 : Nat → Int32} {S_who S_against S_kind S_day S_land S_askedCount S_askedBits S_first S_foundSo S_foundNot S_fought S_needed : Nat → Int32} {S_asked : Nat → Nat → Int32} {mod_suedBy mod_suedOn mod_endKind mod_suitDay mod_suitLand mod_askedMany mod_firstMany mod_asked mod_pointIs : Nat → Int32} {S_who2 S_against2 S_kind2 S_day2 S_land2 S_askedCount2 S_askedBits2 S_first2 S_foundSo2 S_foundNot2 S_fought2 S_needed2 : Nat → Int32} {S_asked2 : Nat → Nat → Int32} {mod_suedBy2 mod_suedOn2 mod_endKind2 mod_suitDay2 mod_suitLand2 mod_askedMany2 mod_firstMany2 mod_asked2 mod_pointIs2 : Nat → Int32} {mod_isWon mod_isWon2 : Nat → Int32} (hn : n2.toInt.toNat = n.toInt.toNat + 1) (h : SUS n S_who S_against S_kind S_day S_land S_askedCount S_askedBits S_first S_foundSo S_foundNot S_fought S_needed S_asked mod_suedBy mod_suedOn mod_endKind mod_suitDay mod_suitLand mod_askedMany mod_firstMany mod_asked mod_pointIs) (hf : RFR n.toInt.toNat (mod_suedBy, mod_suedOn, mod_endKind, mod_isWon, mod_suitDay, mod_suitLand, mod_askedMany, mod_firstMany, mod_asked, mod_pointIs) (mod_suedBy2, mod_suedOn2, mod_endKind2, mod_isWon2, mod_suitDay2, mod_suitLand2, mod_askedMany2, mod_firstMany2, mod_asked2, mod_pointIs2)) (a_S_who : S_who2 = va_up S_who n.toInt.toNat w1) (a_S_against : S_against2 = va_up S_against n.toInt.toNat g1) (a_S_kind : S_kind2 = va_up S_kind n.toInt.toNat k1) (a_S_day : S_day2 = va_up S_day n.toInt.toNat d1) (a_S_land : S_land2 = va_up S_land n.toInt.toNat l1) (a_S_askedCount : S_askedCount2 = va_up S_askedCount n.toInt.toNat n1) (a_S_askedBits : S_askedBits2 = va_up S_askedBits n.toInt.toNat b1) (a_S_first : S_first2 = va_up S_first n.toInt.toNat s1) (a_S_foundSo : S_foundSo2 = va_up S_foundSo n.toInt.toNat so1) (a_S_foundNot : S_foundNot2 = va_up S_foundNot n.toInt.toNat no1) (a_S_fought : S_fought2 = va_up S_fought n.toInt.toNat fo1) (a_S_needed : S_needed2 = va_up S_needed n.toInt.toNat ne1) (a_S_asked : S_asked2 = va_up S_asked n.toInt.toNat as1) (m1 : mod_suedBy2 n.toInt.toNat = w1) (m2 : mod_suedOn2 n.toInt.toNat = g1) (m3 : mod_endKind2 n.toInt.toNat = k1) (m5 : mod_suitDay2 n.toInt.toNat = d1) (m6 : mod_suitLand2 n.toInt.toNat = l1) (m7 : k1.toInt = 6 → mod_firstMany2 n.toInt.toNat = s1) (m8 : k1.toInt ≠ 6 → mod_firstMany2 n.toInt.toNat = n1) (hC : CIN n.toInt.toNat n1 mod_askedMany2 mod_asked2 as1 b1) (hP : PIN n.toInt.toNat so1 no1 fo1 ne1 mod_pointIs2) (hd1 : 0 ≤ d1.toInt ∧ d1.toInt ≤ 9999) : SUS n2 S_who2 S_against2 S_kind2 S_day2 S_land2 S_askedCount2 S_askedBits2 S_first2 S_foundSo2 S_foundNot2 S_fought2 S_needed2 S_asked2 mod_suedBy2 mod_suedOn2 mod_endKind2 mod_suitDay2 mod_suitLand2 mod_askedMany2 mod_firstMany2 mod_asked2 mod_pointIs2 := by
  obtain ⟨f1, f2, f3, f4, f5, f6, f7, f8, f9, f10⟩ := hf
  subst a_S_who
  subst a_S_against
  subst a_S_kind
  subst a_S_day
  subst a_S_land
  subst a_S_askedCount
  subst a_S_askedBits
  subst a_S_first
  subst a_S_foundSo
  subst a_S_foundNot
  subst a_S_fought
  subst a_S_needed
  subst a_S_asked
  intro i hi
  by_cases c : i = n.toInt.toNat
  · subst c
    unfold SUQ
    rw [va_up_self, va_up_self, va_up_self, va_up_self, va_up_self, va_up_self, va_up_self, va_up_self, va_up_self, va_up_self, va_up_self, va_up_self, va_up_self]
    exact ⟨m1.symm, m2.symm, m3.symm, m5.symm, m6.symm, m7, m8, hC, hP, hd1⟩
  · exact SUQ_c (h i (by omega)) (va_up_ne _ _ c) (va_up_ne _ _ c) (va_up_ne _ _ c) (va_up_ne _ _ c) (va_up_ne _ _ c) (va_up_ne _ _ c) (va_up_ne _ _ c) (va_up_ne _ _ c) (va_up_ne _ _ c) (va_up_ne _ _ c) (va_up_ne _ _ c) (va_up_ne _ _ c) (va_up_ne _ _ c) (f1 i c) (f2 i c) (f3 i c) (f5 i c) (f6 i c) (f7 i c) (f8 i c) (fun k hk => f9 _ (by omega)) (fun k hk => f10 _ (by omega))
