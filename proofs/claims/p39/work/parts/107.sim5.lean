
set_option maxHeartbeats 4000000 in
set_option maxRecDepth 20000 in
theorem fm_83 {mod_code : Int32} {court_shoeCount : Int32} {mod_claims : Int32} {ts : Int32} {at_ : Int32} {f : Int32} {court_suitCount : Int32} {mod_doneMany : Int32} {mod_undoneMany : Int32} {mod_open : Int32} {mod_laid : Int32} {mod_isBoth : Int32} {mod_wished : Int32} {mod_bestMany : Int32} {mod_bestRow : Int32} {mod_ringDigits : Int32} {mod_traces : Int32} {tm : Nat → Int32} {mod_askedMany : Nat → Int32} {mod_asked : Nat → Int32} {mod_pointIs : Nat → Int32} {mod_endKind : Nat → Int32} {mod_isWon : Nat → Int32} {mod_firstMany : Nat → Int32} {mod_suedBy : Nat → Int32} {mod_suedOn : Nat → Int32} {mod_suitDay : Nat → Int32} {mod_suitLand : Nat → Int32} {M : Nat} {x1 : Int32} {R : Int32 × Int32 × (Nat → Int32) × (Nat → Int32) × (Nat → Int32) × (Nat → Int32) × (Nat → Int32) × (Nat → Int32) × (Nat → Int32) × (Nat → Int32) × (Nat → Int32) × (Nat → Int32)} (hf : 0 ≤ f.toInt) (h : G_X12_readSuit mod_code court_shoeCount mod_claims ts court_suitCount mod_doneMany mod_undoneMany mod_open mod_laid mod_isBoth mod_wished mod_bestMany mod_bestRow mod_ringDigits mod_traces tm M x1 at_ f mod_suedBy mod_suedOn mod_endKind mod_isWon mod_suitDay mod_suitLand mod_askedMany mod_firstMany mod_asked mod_pointIs = some R) : R.2.1 = f ∧ R.2.2 = (mod_suedBy, mod_suedOn, mod_endKind, mod_isWon, mod_suitDay, mod_suitLand, mod_askedMany, mod_firstMany, mod_asked, mod_pointIs) := by
  cases M with
  | zero => cases h
  | succ M =>
  replace h : B_X12_readSuit_83 (G_X12_readSuit mod_code court_shoeCount mod_claims ts court_suitCount mod_doneMany mod_undoneMany mod_open mod_laid mod_isBoth mod_wished mod_bestMany mod_bestRow mod_ringDigits mod_traces tm M) mod_code court_shoeCount mod_claims ts court_suitCount mod_doneMany mod_undoneMany mod_open mod_laid mod_isBoth mod_wished mod_bestMany mod_bestRow mod_ringDigits mod_traces tm x1 at_ f mod_suedBy mod_suedOn mod_endKind mod_isWon mod_suitDay mod_suitLand mod_askedMany mod_firstMany mod_asked mod_pointIs = some R := h
  unfold B_X12_readSuit_83 at h
  replace h := zk_t (by rw [i32_le, z32_0]; omega) h
  unfold B_X12_readSuit_107 at h
  replace h := zk_o3 h
  obtain ⟨mr_43, mu_44, mu_45, mh1, h⟩ := h
  obtain ⟨mq2, mq3, mq4⟩ := mb_takesP hf mh1
  replace mq2 := mq2.symm
  subst mq2
  replace mq3 := mq3.symm
  subst mq3
  replace mq4 := mq4.symm
  subst mq4
  replace h := zk_t (by decide) h
  rw [← Option.some.inj h]
  exact ⟨rfl, rfl⟩
set_option maxHeartbeats 4000000 in
set_option maxRecDepth 20000 in
theorem fq_ptsG {ts : Int32} {at_ : Int32} {f : Int32} {tb : Nat → Int32} {su_who : Int32} {su_against : Int32} {su_kind : Int32} {su_won : Int32} {su_day : Int32} {su_land : Int32} {su_undoneFrom : Int32} {su_askedCount : Int32} {su_askedBits : Int32} {su_first : Int32} {su_foundSo : Int32} {su_foundNot : Int32} {su_fought : Int32} {su_needed : Int32} {sp : Value} {na : Int32} {N : Nat} {i : Int32} {R : Int32 × Int32 × Int32 × Int32 × Int32 × Int32 × Int32} (hf : 0 ≤ f.toInt) (h : G_X8_readPoints ts tb sp su_who su_against su_kind su_won su_day su_land su_undoneFrom su_askedCount su_askedBits su_first N i at_ na f su_foundSo su_foundNot su_fought su_needed = some R) : R.2.2.1 = f := by
  cases N with
  | zero => cases h
  | succ N =>
  replace h : B_X8_readPoints_2 (G_X8_readPoints ts tb sp su_who su_against su_kind su_won su_day su_land su_undoneFrom su_askedCount su_askedBits su_first N) ts tb sp su_who su_against su_kind su_won su_day su_land su_undoneFrom su_askedCount su_askedBits su_first i at_ na f su_foundSo su_foundNot su_fought su_needed = some R := h
  unfold B_X8_readPoints_2 at h
  by_cases cc1 : (32 : Int32) < i
  · replace h := zk_t cc1 h
    have cc1n := cc1
    (try simp only [i32_lt, i32_le, i32_e, z32_0, z32_1, z32L_32] at cc1n)
    rw [← Option.some.inj h]
  · replace h := zk_f cc1 h
    have cc1n := cc1
    (try simp only [i32_lt, i32_le, i32_e, z32_0, z32_1, z32L_32] at cc1n)
    replace h := zk_o2 h
    obtain ⟨cr_2, cu_3, ch2, h⟩ := h
    obtain ⟨cq3, cq4⟩ := cb_acceptP hf ch2
    replace cq3 := cq3.symm
    subst cq3
    replace cq4 := cq4.symm
    subst cq4
    replace h := zk_t (by decide) h
    rw [← Option.some.inj h]
def PV (so no fo ne : Int32) (p : Nat) : Int := (if zbt so p = true then 1 else 0) + (if zbt no p = true then 2 else 0) + (if zbt fo p = true then 4 else 0) + (if zbt ne p = true then 8 else 0)
def PI (x1 so no fo ne : Int32) (pi : Nat → Int32) : Prop := ∀ p, p < 32 → (pi (32 * x1.toInt.toNat + p)).toInt = PV so no fo ne p ∧ ¬ (zbt so p = true ∧ zbt no p = true) ∧ ((zbt fo p = true ∨ zbt ne p = true) → (zbt so p = true ∨ zbt no p = true))
def BS (b b' : Int32) (p : Nat) (A : Bool) : Prop := ∀ q, q < 32 → zbt b' q = (zbt b q || (decide (q = p) && A))
theorem bt_or2 {a b : Int32} {k : Nat} : zbt (a ||| b) k = (zbt a k || zbt b k) := by
  unfold zbt
  rw [Int32.toBitVec_or, BitVec.getLsbD_or]
theorem bt_z {k : Nat} : zbt 0 k = false := by
  unfold zbt
  show (0#32).getLsbD k = false
  exact BitVec.getLsbD_zero
theorem BS_t {b v : Int32} (hv : 0 ≤ v.toInt ∧ v.toInt ≤ 31) : BS b (b ||| (1 <<< (v &&& 31))) v.toInt.toNat true := fun q hq => by rw [bt_or hv hq, Bool.and_true]
theorem BS_0 {b : Int32} {p : Nat} : BS b (b ||| 0) p false := fun q hq => by rw [bt_or2, bt_z, Bool.and_false]
theorem BS_u {b : Int32} {p : Nat} : BS b b p false := fun q hq => by rw [Bool.and_false, Bool.or_false]
theorem PI_add {x1 so no fo ne so' no' fo' ne' val : Int32} {pi : Nat → Int32} {p i : Nat} {A B F N : Bool} (h : PI x1 so no fo ne pi) (hp : p < 32) (hf : zbt (so ||| no) p = false) (hAB : A = !B) (h1 : BS so so' p A) (h2 : BS no no' p B) (h3 : BS fo fo' p F) (h4 : BS ne ne' p N) (hval : val.toInt = (if A = true then 1 else 0) + (if B = true then 2 else 0) + (if F = true then 4 else 0) + (if N = true then 8 else 0)) (hi : i = 32 * x1.toInt.toNat + p) : PI x1 so' no' fo' ne' (upd pi i val) := by
  intro q hq
  obtain ⟨a1, a2, a3⟩ := h q hq
  unfold upd PV
  rw [h1 q hq, h2 q hq, h3 q hq, h4 q hq]
  by_cases c : q = p
  · subst c
    rw [if_pos (by omega)]
    rw [bt_or2] at hf
    have e1 : zbt so q = false := by simpa using (Bool.or_eq_false_iff.mp hf).1
    have e2 : zbt no q = false := by simpa using (Bool.or_eq_false_iff.mp hf).2
    have e3 : zbt fo q = false := by
      by_cases c : zbt fo q = true
      · have := a3 (Or.inl c)
        rw [e1, e2] at this
        exact absurd this (by decide)
      · simpa using c
    have e4 : zbt ne q = false := by
      by_cases c : zbt ne q = true
      · have := a3 (Or.inr c)
        rw [e1, e2] at this
        exact absurd this (by decide)
      · simpa using c
    rw [e1, e2, e3, e4, hval]
    subst hAB
    cases B <;> cases F <;> cases N <;> simp
  · rw [if_neg (by omega), a1]
    have e : decide (q = p) = false := by simp [c]
    rw [e]
    simp only [Bool.false_and, Bool.or_false]
    exact ⟨rfl, a2, a3⟩
theorem PI_le {x1 so no fo ne v : Int32} {pi : Nat → Int32} (h : PI x1 so no fo ne pi) (hx : 0 ≤ x1.toInt ∧ x1.toInt ≤ 44) (hv : 0 ≤ v.toInt ∧ v.toInt ≤ 31) (hf : zbt (so ||| no) v.toInt.toNat = false) : pi ((32 : Int32) * x1 + v).toNatClampNeg ≤ 0 := by
  obtain ⟨a1, a2, a3⟩ := h v.toInt.toNat (by omega)
  rw [ix32 hx (by omega), i32_le, z32_0, a1]
  rw [bt_or2] at hf
  have e1 : zbt so v.toInt.toNat = false := by simpa using (Bool.or_eq_false_iff.mp hf).1
  have e2 : zbt no v.toInt.toNat = false := by simpa using (Bool.or_eq_false_iff.mp hf).2
  unfold PV
  rw [e1, e2] at a3 ⊢
  by_cases c : zbt fo v.toInt.toNat = true
  · exact absurd (a3 (Or.inl c)) (by decide)
  · by_cases c2 : zbt ne v.toInt.toNat = true
    · exact absurd (a3 (Or.inr c2)) (by decide)
    · rw [if_neg c, if_neg c2]
      decide
theorem PI_nle {x1 so no fo ne v : Int32} {pi : Nat → Int32} (h : PI x1 so no fo ne pi) (hx : 0 ≤ x1.toInt ∧ x1.toInt ≤ 44) (hv : 0 ≤ v.toInt ∧ v.toInt ≤ 31) (hf : zbt (so ||| no) v.toInt.toNat = true) : ¬ pi ((32 : Int32) * x1 + v).toNatClampNeg ≤ 0 := by
  obtain ⟨a1, a2, a3⟩ := h v.toInt.toNat (by omega)
  rw [ix32 hx (by omega), i32_le, z32_0, a1]
  rw [bt_or2] at hf
  unfold PV
  have h4 : ∀ c : Prop, [Decidable c] → (0 : Int) ≤ (if c then 4 else 0) := fun c _ => by split <;> omega
  have h8 : ∀ c : Prop, [Decidable c] → (0 : Int) ≤ (if c then 8 else 0) := fun c _ => by split <;> omega
  have p4 := h4 (zbt fo v.toInt.toNat = true)
  have p8 := h8 (zbt ne v.toInt.toNat = true)
  rcases (Bool.or_eq_true _ _).mp hf with e | e
  · have h2 : (0 : Int) ≤ (if zbt no v.toInt.toNat = true then 2 else 0) := by split <;> omega
    rw [if_pos e]
    omega
  · have h1 : (0 : Int) ≤ (if zbt so v.toInt.toNat = true then 1 else 0) := by split <;> omega
    rw [if_pos e]
    omega
def CG (n : Int32) (as : Nat → Int32) (b : Int32) : Prop := ∃ am ma, CI 0 n am ma as b
theorem CI_congr {x1 n b b' : Int32} {am ma as : Nat → Int32} (h : CI x1 n am ma as b) (hb : ∀ v, v < 32 → zbt b' v = zbt b v) : CI x1 n am ma as b' := by
  obtain ⟨h1, h2, h3, h4, h5, h6⟩ := h
  exact ⟨h1, h2, h3, h4, fun v hv => by rw [hb v hv]; exact h5 v hv, h6⟩
theorem CG_room {n b v : Int32} {as : Nat → Int32} (h : CG n as b) (hv : 0 ≤ v.toInt ∧ v.toInt ≤ 31) (hb : zbt b v.toInt.toNat = false) : 0 ≤ n.toInt ∧ n.toInt < 32 := by
  obtain ⟨am, ma, h⟩ := h
  exact ⟨h.1.1, CI_room h hv hb⟩
theorem CG_b {n b : Int32} {as : Nat → Int32} (h : CG n as b) : 0 ≤ n.toInt ∧ n.toInt ≤ 32 := by
  obtain ⟨am, ma, h⟩ := h
  exact h.1
theorem CG_pt {n so no so' no' v : Int32} {as : Nat → Int32} {A B : Bool} (h : CG n as (so ||| no)) (hv : 0 ≤ v.toInt ∧ v.toInt ≤ 31) (hb : zbt (so ||| no) v.toInt.toNat = false) (hAB : A = !B) (h1 : BS so so' v.toInt.toNat A) (h2 : BS no no' v.toInt.toNat B) : CG (n + 1) (upd as n.toNatClampNeg v) (so' ||| no') := by
  obtain ⟨am, ma, h⟩ := h
  refine ⟨_, _, CI_congr (CI_ask h (by decide) hv hb (w := v) rfl (i := _) rfl) (fun q hq => ?_)⟩
  rw [bt_or hv hq, bt_or2, bt_or2, h1 q hq, h2 q hq]
  subst hAB
  cases B <;> cases zbt so q <;> cases zbt no q <;> cases decide (q = v.toInt.toNat) <;> rfl
theorem CG_0 : CG 0 (fun _ => 0) (0 ||| 0) := by
  refine ⟨fun _ => 0, fun _ => 0, by decide, rfl, fun k hk => rfl, fun k hk => ?_, fun v hv => ?_, fun j k hj hk e => ?_⟩
  · exact absurd hk (by rw [z32_0]; exact Nat.not_lt_zero k)
  · rw [bt_or2, bt_z]
    constructor
    · intro z; cases z
    · rintro ⟨k, hk, _⟩
      exact absurd hk (by rw [z32_0]; exact Nat.not_lt_zero k)
  · exact absurd hj (by rw [z32_0]; exact Nat.not_lt_zero j)
def FP (x1 : Int32) (pi pi2 : Nat → Int32) : Prop := ∀ j, (j < 32 * x1.toInt.toNat ∨ 32 * x1.toInt.toNat + 32 ≤ j) → pi2 j = pi j
theorem FP_rf {x1 : Int32} {pi : Nat → Int32} : FP x1 pi pi := fun _ _ => rfl
theorem FP_tr {x1 : Int32} {pi pi2 pi3 : Nat → Int32} (h : FP x1 pi pi2) (h2 : FP x1 pi2 pi3) : FP x1 pi pi3 := fun j hj => (h2 j hj).trans (h j hj)
theorem FP_up {x1 : Int32} {pi : Nat → Int32} {z : Int32} {i p : Nat} (hi : i = 32 * x1.toInt.toNat + p) (hp : p < 32) : FP x1 pi (upd pi i z) := fun j hj => by
  unfold upd
  rw [if_neg (by omega)]
set_option maxHeartbeats 4000000 in
set_option maxRecDepth 20000 in
theorem cb_hasFound {su_who : Int32} {su_against : Int32} {su_kind : Int32} {su_won : Int32} {su_day : Int32} {su_land : Int32} {su_undoneFrom : Int32} {su_askedCount : Int32} {su_askedBits : Int32} {su_first : Int32} {su_foundSo : Int32} {su_foundNot : Int32} {su_fought : Int32} {su_needed : Int32} {v r : Int32} {u : Unit} (hv : 0 ≤ v.toInt ∧ v.toInt ≤ 31) (h : f_X7_hasFound v su_who su_against su_kind su_won su_day su_land su_undoneFrom su_askedCount su_askedBits su_first su_foundSo su_foundNot su_fought su_needed = some (r, u)) : (zbt (su_foundSo ||| su_foundNot) v.toInt.toNat = true ∧ r = 1) ∨ (zbt (su_foundSo ||| su_foundNot) v.toInt.toNat = false ∧ r = 0) := by
  unfold f_X7_hasFound B_X7_hasFound_0 at h
  by_cases c : (((su_foundSo ||| su_foundNot) >>> (v &&& 31)) &&& 1) = 0
  · replace h := (congrArg Prod.fst (Option.some.inj (zk_t c h))).symm
    exact Or.inr ⟨(bt_0 hv).mp c, h⟩
  · replace h := (congrArg Prod.fst (Option.some.inj (zk_f c h))).symm
    have c2 : ¬ zbt (su_foundSo ||| su_foundNot) v.toInt.toNat = false := fun z => c ((bt_0 hv).mpr z)
    exact Or.inl ⟨by simpa using c2, h⟩
set_option maxHeartbeats 4000000 in
set_option maxRecDepth 20000 in
theorem s3_loop {mod_code : Int32} {court_shoeCount : Int32} {mod_claims : Int32} {ts : Int32} {f : Int32} {court_suitCount : Int32} {mod_doneMany : Int32} {mod_undoneMany : Int32} {mod_open : Int32} {mod_laid : Int32} {mod_isBoth : Int32} {mod_wished : Int32} {mod_bestMany : Int32} {mod_bestRow : Int32} {mod_ringDigits : Int32} {mod_traces : Int32} {tm : Nat → Int32} {mod_askedMany : Nat → Int32} {mod_asked : Nat → Int32} {mod_endKind : Nat → Int32} {mod_isWon : Nat → Int32} {mod_firstMany : Nat → Int32} {mod_suedBy : Nat → Int32} {mod_suedOn : Nat → Int32} {mod_suitDay : Nat → Int32} {mod_suitLand : Nat → Int32} {tb : Nat → Int32} {su_who : Int32} {su_against : Int32} {su_kind : Int32} {su_won : Int32} {su_day : Int32} {su_land : Int32} {su_undoneFrom : Int32} {su_askedCount : Int32} {su_askedBits : Int32} {su_first : Int32} {sp : Value} {x1 : Int32} (hT : TS ts) (hR : TR ts tb tm) (hf : f.toInt < 0) (hx : 0 ≤ x1.toInt ∧ x1.toInt ≤ 44) : ∀ (N M : Nat) (at_ na i su_foundSo su_foundNot su_fought su_needed : Int32) (as mod_pointIs : Nat → Int32) (RC : Int32 × Int32 × Int32 × Int32 × Int32 × Int32 × Int32) (R : Int32 × Int32 × (Nat → Int32) × (Nat → Int32) × (Nat → Int32) × (Nat → Int32) × (Nat → Int32) × (Nat → Int32) × (Nat → Int32) × (Nat → Int32) × (Nat → Int32) × (Nat → Int32)), PB ts at_ → CG i as (su_foundSo ||| su_foundNot) → PI x1 su_foundSo su_foundNot su_fought su_needed mod_pointIs → G_X8_readPoints ts tb sp su_who su_against su_kind su_won su_day su_land su_undoneFrom su_askedCount su_askedBits su_first N i at_ na f su_foundSo su_foundNot su_fought su_needed = some RC → G_X12_readSuit mod_code court_shoeCount mod_claims ts court_suitCount mod_doneMany mod_undoneMany mod_open mod_laid mod_isBoth mod_wished mod_bestMany mod_bestRow mod_ringDigits mod_traces tm M x1 at_ f mod_suedBy mod_suedOn mod_endKind mod_isWon mod_suitDay mod_suitLand mod_askedMany mod_firstMany mod_asked mod_pointIs = some R → (0 ≤ RC.2.2.1.toInt ∧ R.2.1 = RC.2.2.1 ∧ RFR x1.toInt.toNat (mod_suedBy, mod_suedOn, mod_endKind, mod_isWon, mod_suitDay, mod_suitLand, mod_askedMany, mod_firstMany, mod_asked, mod_pointIs) R.2.2) ∨ (RC.2.2.1 = f ∧ PB ts RC.1 ∧ ∃ pi2, PI x1 RC.2.2.2.1 RC.2.2.2.2.1 RC.2.2.2.2.2.1 RC.2.2.2.2.2.2 pi2 ∧ FP x1 mod_pointIs pi2 ∧ ∃ g, B_X12_readSuit_107 g mod_code court_shoeCount mod_claims ts court_suitCount mod_doneMany mod_undoneMany mod_open mod_laid mod_isBoth mod_wished mod_bestMany mod_bestRow mod_ringDigits mod_traces tm x1 RC.1 f mod_suedBy mod_suedOn mod_endKind mod_isWon mod_suitDay mod_suitLand mod_askedMany mod_firstMany mod_asked pi2 = some R) := by
  intro N
  induction N with
  | zero => intro M at_ na i su_foundSo su_foundNot su_fought su_needed as mod_pointIs RC R hp hG hI h k; cases h
  | succ N ih =>
    intro M at_ na i su_foundSo su_foundNot su_fought su_needed as mod_pointIs RC R hp hG hI h k
    cases M with
    | zero => cases k
    | succ M =>
      have hG1 := CG_b hG
      have hpa := hp.1
      replace h : B_X8_readPoints_2 (G_X8_readPoints ts tb sp su_who su_against su_kind su_won su_day su_land su_undoneFrom su_askedCount su_askedBits su_first N) ts tb sp su_who su_against su_kind su_won su_day su_land su_undoneFrom su_askedCount su_askedBits su_first i at_ na f su_foundSo su_foundNot su_fought su_needed = some RC := h
      replace k : B_X12_readSuit_83 (G_X12_readSuit mod_code court_shoeCount mod_claims ts court_suitCount mod_doneMany mod_undoneMany mod_open mod_laid mod_isBoth mod_wished mod_bestMany mod_bestRow mod_ringDigits mod_traces tm M) mod_code court_shoeCount mod_claims ts court_suitCount mod_doneMany mod_undoneMany mod_open mod_laid mod_isBoth mod_wished mod_bestMany mod_bestRow mod_ringDigits mod_traces tm x1 at_ f mod_suedBy mod_suedOn mod_endKind mod_isWon mod_suitDay mod_suitLand mod_askedMany mod_firstMany mod_asked mod_pointIs = some R := k
      unfold B_X8_readPoints_2 at h
      unfold B_X12_readSuit_83 at k
      replace h := zk_f (by rw [i32_lt, z32L_32]; omega) h
      replace h := zk_o2 h
      obtain ⟨cr_2, cu_3, ch1, h⟩ := h
      rcases cb_acceptN (n := 59) hT hf hp (by decide) ch1 with ⟨ck2, cq4, cq5, ck3⟩ | ⟨ck2, cq6, cq7⟩
      · replace cq4 := cq4.symm
        subst cq4
        replace cq5 := cq5.symm
        subst cq5
        have ck3a := ck3.1
        replace h := zk_f (by decide) h
        replace h := zk_o4 h
        obtain ⟨cr_6, cu_7, cu_8, cu_9, ch8, h⟩ := h
        rcases cb_numberN2 hT hf ck3 ch8 with ⟨ck9, cq11, cq12, cq13, cq14, ck10⟩ | ⟨ck9, cq15, cq16, cq17, cq18⟩
        · replace cq11 := cq11.symm
          subst cq11
          replace cq12 := cq12.symm
          subst cq12
          replace cq13 := cq13.symm
          subst cq13
          replace cq14 := cq14.symm
          subst cq14
          have ck10a := ck10.1
          have ck10b := nmv_b2 (ts := ts) (tb := tb) (at_ + 1)
          by_cases cc19 : (32 : Int32) ≤ (nmv ts tb 2 (at_ + 1))
          · replace h := zk_t cc19 h
            have cc19n := cc19
            (try simp only [i32_lt, i32_le, i32_e, z32_0, z32_1, z32L_2, z32L_32] at cc19n)
            unfold B_X8_readPoints_42 at h
            unfold B_X8_readPoints_43 at h
            replace h := zk_o1 h
            obtain ⟨cu_16, ch20, h⟩ := h
            obtain cq21 := cb_judge0N hf ch20
            replace cq21 := cq21.symm
            subst cq21
            replace h := zk_lt h
            obtain ⟨cv_18, ce22, h⟩ := h
            subst ce22
            replace h := zk_o2 h
            obtain ⟨cr_19, cu_20, ch23, h⟩ := h
            obtain ⟨cq24, cq25⟩ := cb_acceptP (ck3).1 ch23
            replace cq24 := cq24.symm
            subst cq24
            replace cq25 := cq25.symm
            subst cq25
            replace h := zk_t (by decide) h
            replace h := zk_o2 h
            obtain ⟨cu_23, cu_24, ch26, h⟩ := h
            obtain ⟨cq27, cq28⟩ := cb_expectP (ck3).1 ch26
            replace cq27 := cq27.symm
            subst cq27
            replace cq28 := cq28.symm
            subst cq28
            replace h := zk_lt h
            obtain ⟨cv_26, ce29, h⟩ := h
            subst ce29
            unfold B_X8_readPoints_95 at h
            replace h := zk_o2 h
            obtain ⟨cr_28, cu_29, ch30, h⟩ := h
            obtain ⟨cq31, cq32⟩ := cb_acceptP (ck3).1 ch30
            replace cq31 := cq31.symm
            subst cq31
            replace cq32 := cq32.symm
            subst cq32
            replace h := zk_t (by decide) h
            unfold B_X8_readPoints_115 at h
            replace h := zk_lt h
            obtain ⟨cv_32, ce33, h⟩ := h
            subst ce33
            replace h := zk_o2 h
            obtain ⟨cr_33, cu_34, ch34, h⟩ := h
            obtain ⟨cq35, cq36⟩ := cb_acceptP (ck3).1 ch34
            replace cq35 := cq35.symm
            subst cq35
            replace cq36 := cq36.symm
            subst cq36
            replace h := zk_t (by decide) h
            unfold B_X8_readPoints_139 at h
            replace h := zk_lt h
            obtain ⟨cv_37, ce37, h⟩ := h
            subst ce37
            replace h := zk_lt h
            obtain ⟨cv_38, ce38, h⟩ := h
            subst ce38
            replace k := zk_f (by rw [i32_le, z32_0]; omega) k
            replace k := zk_o2 k
            obtain ⟨mr_35, mu_36, mh1, k⟩ := k
            rcases mb_isNext (n := 59) hT hR hp (by decide) mh1 with ⟨mk2, mq4, mq5, mk3⟩ | ⟨mk2, _, _⟩
            · replace mq4 := mq4.symm
              subst mq4
              replace mq5 := mq5.symm
              subst mq5
              have mk3a := mk3.1
              replace k := zk_f (by decide) k
              replace k := zk_o3 k
              obtain ⟨mu_39, mu_40, mu_41, mh6, k⟩ := k
              unfold f_X12_readPoint at mh6
              unfold B_X12_readPoint_0 at mh6
              obtain ⟨mr_1, mu_2, mu_3, mh7, mh6⟩ := zk_o3 mh6
              rcases mb_number2 (m := 32) hT hR hf mk3 (by decide) mh7 with ⟨mk8, mk9, _, _, _, mk10⟩ | ⟨mk8, mk9, mq11, mq12, mq13, mk10⟩ | ⟨mk8, _, _, _⟩
              · exfalso; omega
              · replace mq11 := mq11.symm
                subst mq11
                replace mq12 := mq12.symm
                subst mq12
                replace mq13 := mq13.symm
                subst mq13
                have mk10a := mk10.1
                have mk10b := nmv_b2 (ts := ts) (tb := tb) (at_ + 1)
                have mh6 := zk_f (by rw [i32_lt, z32_0]; omega) mh6
                simp only [Option.some.injEq, Prod.mk.injEq] at mh6
                obtain ⟨rfl, rfl, rfl⟩ := mh6
                first
                | (exfalso; omega)
                | (obtain ⟨e7, e7b⟩ := fm_83 (mk3).1 k
                   have e8 := fq_ptsG (mk3).1 h
                   exact Or.inl ⟨by rw [e8]; exact (mk3).1, by rw [e8]; exact e7, by rw [e7b]; exact RFR_rf⟩)
              · exact (zx_2 ck9 mk8).elim
            · exact (mk2 ck2).elim
          · replace h := zk_f cc19 h
            have cc19n := cc19
            (try simp only [i32_lt, i32_le, i32_e, z32_0, z32_1, z32L_2, z32L_32] at cc19n)
            replace h := zk_o2 h
            obtain ⟨cr_12, cu_13, ch39, h⟩ := h
            rcases cb_hasFound (by first | omega | decide) ch39 with ⟨ck40, cq41⟩ | ⟨ck40, cq42⟩
            · replace cq41 := cq41.symm
              subst cq41
              replace h := zk_f (by decide) h
              unfold B_X8_readPoints_42 at h
              unfold B_X8_readPoints_43 at h
              replace h := zk_o1 h
              obtain ⟨cu_16, ch43, h⟩ := h
              obtain cq44 := cb_judge0N hf ch43
              replace cq44 := cq44.symm
              subst cq44
              replace h := zk_lt h
              obtain ⟨cv_18, ce45, h⟩ := h
              subst ce45
              replace h := zk_o2 h
              obtain ⟨cr_19, cu_20, ch46, h⟩ := h
              obtain ⟨cq47, cq48⟩ := cb_acceptP (ck3).1 ch46
              replace cq47 := cq47.symm
              subst cq47
              replace cq48 := cq48.symm
              subst cq48
              replace h := zk_t (by decide) h
              replace h := zk_o2 h
              obtain ⟨cu_23, cu_24, ch49, h⟩ := h
              obtain ⟨cq50, cq51⟩ := cb_expectP (ck3).1 ch49
              replace cq50 := cq50.symm
              subst cq50
              replace cq51 := cq51.symm
              subst cq51
              replace h := zk_lt h
              obtain ⟨cv_26, ce52, h⟩ := h
              subst ce52
              unfold B_X8_readPoints_95 at h
              replace h := zk_o2 h
              obtain ⟨cr_28, cu_29, ch53, h⟩ := h
              obtain ⟨cq54, cq55⟩ := cb_acceptP (ck3).1 ch53
              replace cq54 := cq54.symm
              subst cq54
              replace cq55 := cq55.symm
              subst cq55
              replace h := zk_t (by decide) h
              unfold B_X8_readPoints_115 at h
              replace h := zk_lt h
              obtain ⟨cv_32, ce56, h⟩ := h
              subst ce56
              replace h := zk_o2 h
              obtain ⟨cr_33, cu_34, ch57, h⟩ := h
              obtain ⟨cq58, cq59⟩ := cb_acceptP (ck3).1 ch57
              replace cq58 := cq58.symm
              subst cq58
              replace cq59 := cq59.symm
              subst cq59
              replace h := zk_t (by decide) h
              unfold B_X8_readPoints_139 at h
              replace h := zk_lt h
              obtain ⟨cv_37, ce60, h⟩ := h
              subst ce60
              replace h := zk_lt h
              obtain ⟨cv_38, ce61, h⟩ := h
              subst ce61
              replace k := zk_f (by rw [i32_le, z32_0]; omega) k
              replace k := zk_o2 k
              obtain ⟨mr_35, mu_36, mh14, k⟩ := k
              rcases mb_isNext (n := 59) hT hR hp (by decide) mh14 with ⟨mk15, mq17, mq18, mk16⟩ | ⟨mk15, _, _⟩
              · replace mq17 := mq17.symm
                subst mq17
                replace mq18 := mq18.symm
                subst mq18
                have mk16a := mk16.1
                replace k := zk_f (by decide) k
                replace k := zk_o3 k
                obtain ⟨mu_39, mu_40, mu_41, mh19, k⟩ := k
                unfold f_X12_readPoint at mh19
                unfold B_X12_readPoint_0 at mh19
                obtain ⟨mr_1, mu_2, mu_3, mh20, mh19⟩ := zk_o3 mh19
                rcases mb_number2 (m := 32) hT hR hf mk16 (by decide) mh20 with ⟨mk21, mk22, mq24, mq25, mq26, mk23⟩ | ⟨mk21, mk22, _, _, _, mk23⟩ | ⟨mk21, _, _, _⟩
                · replace mq24 := mq24.symm
                  subst mq24
                  replace mq25 := mq25.symm
                  subst mq25
                  replace mq26 := mq26.symm
                  subst mq26
                  have mk23a := mk23.1
                  have mk23b := nmv_b2 (ts := ts) (tb := tb) (at_ + 1)
                  have mh19 := zk_t (by rw [i32_lt, z32_0]; omega) mh19
                  obtain ⟨_, mh19⟩ := zk_gd mh19
                  have mh19 := zk_f (PI_nle hI hx (by omega) ck40) mh19
                  obtain ⟨mu_18, mh27, mh19⟩ := zk_o1 mh19
                  obtain mq28 := mb_wrongAtN hf mh27
                  replace mq28 := mq28.symm
                  subst mq28
                  simp only [Option.some.injEq, Prod.mk.injEq] at mh19
                  obtain ⟨rfl, rfl, rfl⟩ := mh19
                  first
                  | (exfalso; omega)
                  | (obtain ⟨e7, e7b⟩ := fm_83 (mk16).1 k
                     have e8 := fq_ptsG (mk16).1 h
                     exact Or.inl ⟨by rw [e8]; exact (mk16).1, by rw [e8]; exact e7, by rw [e7b]; exact RFR_rf⟩)
                · exfalso; omega
                · exact (zx_2 ck9 mk21).elim
              · exact (mk15 ck2).elim
            · replace cq42 := cq42.symm
              subst cq42
              replace h := zk_t (by decide) h
              unfold B_X8_readPoints_43 at h
              replace h := zk_o1 h
              obtain ⟨cu_16, ch62, h⟩ := h
              obtain cq63 := cb_judge1 ch62
              replace cq63 := cq63.symm
              subst cq63
              replace h := zk_lt h
              obtain ⟨cv_18, ce64, h⟩ := h
              subst ce64
              replace h := zk_o2 h
              obtain ⟨cr_19, cu_20, ch65, h⟩ := h
              rcases cb_acceptN (n := 43) hT hf ck10 (by decide) ch65 with ⟨ck66, cq68, cq69, ck67⟩ | ⟨ck66, cq70, cq71⟩
              · replace cq68 := cq68.symm
                subst cq68
                replace cq69 := cq69.symm
                subst cq69
                have ck67a := ck67.1
                replace h := zk_f (by decide) h
                replace h := zk_lt h
                obtain ⟨cv_27, ce72, h⟩ := h
                subst ce72
                unfold B_X8_readPoints_95 at h
                replace h := zk_o2 h
                obtain ⟨cr_28, cu_29, ch73, h⟩ := h
                rcases cb_acceptN (n := 102) hT hf ck67 (by decide) ch73 with ⟨ck74, cq76, cq77, ck75⟩ | ⟨ck74, cq78, cq79⟩
                · replace cq76 := cq76.symm
                  subst cq76
                  replace cq77 := cq77.symm
                  subst cq77
                  have ck75a := ck75.1
                  replace h := zk_f (by decide) h
                  unfold B_X8_readPoints_115 at h
                  replace h := zk_lt h
                  obtain ⟨cv_32, ce80, h⟩ := h
                  subst ce80
                  replace h := zk_o2 h
                  obtain ⟨cr_33, cu_34, ch81, h⟩ := h
                  rcases cb_acceptN (n := 110) hT hf ck75 (by decide) ch81 with ⟨ck82, cq84, cq85, ck83⟩ | ⟨ck82, cq86, cq87⟩
                  · replace cq84 := cq84.symm
                    subst cq84
                    replace cq85 := cq85.symm
                    subst cq85
                    have ck83a := ck83.1
                    replace h := zk_f (by decide) h
                    unfold B_X8_readPoints_139 at h
                    replace h := zk_lt h
                    obtain ⟨cv_37, ce88, h⟩ := h
                    subst ce88
                    replace h := zk_lt h
                    obtain ⟨cv_38, ce89, h⟩ := h
                    subst ce89
                    have hroom := CG_room hG (by first | omega | decide) ck40
                    replace k := zk_f (by rw [i32_le, z32_0]; omega) k
                    replace k := zk_o2 k
                    obtain ⟨mr_35, mu_36, mh29, k⟩ := k
                    rcases mb_isNext (n := 59) hT hR hp (by decide) mh29 with ⟨mk30, mq32, mq33, mk31⟩ | ⟨mk30, _, _⟩
                    · replace mq32 := mq32.symm
                      subst mq32
                      replace mq33 := mq33.symm
                      subst mq33
                      have mk31a := mk31.1
                      replace k := zk_f (by decide) k
                      replace k := zk_o3 k
                      obtain ⟨mu_39, mu_40, mu_41, mh34, k⟩ := k
                      unfold f_X12_readPoint at mh34
                      unfold B_X12_readPoint_0 at mh34
                      obtain ⟨mr_1, mu_2, mu_3, mh35, mh34⟩ := zk_o3 mh34
                      rcases mb_number2 (m := 32) hT hR hf mk31 (by decide) mh35 with ⟨mk36, mk37, mq39, mq40, mq41, mk38⟩ | ⟨mk36, mk37, _, _, _, mk38⟩ | ⟨mk36, _, _, _⟩
                      · replace mq39 := mq39.symm
                        subst mq39
                        replace mq40 := mq40.symm
                        subst mq40
                        replace mq41 := mq41.symm
                        subst mq41
                        have mk38a := mk38.1
                        have mk38b := nmv_b2 (ts := ts) (tb := tb) (at_ + 1)
                        have mh34 := zk_t (by rw [i32_lt, z32_0]; omega) mh34
                        obtain ⟨_, mh34⟩ := zk_gd mh34
                        have mh34 := zk_t (PI_le hI hx (by omega) ck40) mh34
                        obtain ⟨mr_8, mu_9, mh42, mh34⟩ := zk_o2 mh34
                        obtain mk43 := mb_look hT hR mk38 mh42
                        have mh34 := zk_t ((BR_E (n := 43) mk43 (by decide)).mpr (by omega)) mh34
                        unfold B_X12_readPoint_64 at mh34
                        obtain ⟨mr_20, mu_21, mh44, mh34⟩ := zk_o2 mh34
                        obtain mk45 := mb_look hT hR mk38 mh44
                        have mh34 := zk_t ((BR_E (n := 43) mk45 (by decide)).mpr (by omega)) mh34
                        unfold B_X12_readPoint_78 at mh34
                        obtain ⟨mv_24, me46, mh34⟩ := zk_lt mh34
                        subst me46
                        obtain ⟨mr_25, mu_26, mh47, mh34⟩ := zk_o2 mh34
                        rcases mb_isNext (n := 102) hT hR ck67 (by decide) mh47 with ⟨mk48, mq50, mq51, mk49⟩ | ⟨mk48, _, _⟩
                        · replace mq50 := mq50.symm
                          subst mq50
                          replace mq51 := mq51.symm
                          subst mq51
                          have mk49a := mk49.1
                          have mh34 := zk_f (by decide) mh34
                          obtain ⟨mv_29, me52, mh34⟩ := zk_lt mh34
                          subst me52
                          unfold B_X12_readPoint_102 at mh34
                          obtain ⟨mr_30, mu_31, mh53, mh34⟩ := zk_o2 mh34
                          rcases mb_isNext (n := 110) hT hR mk49 (by decide) mh53 with ⟨mk54, mq56, mq57, mk55⟩ | ⟨mk54, _, _⟩
                          · replace mq56 := mq56.symm
                            subst mq56
                            replace mq57 := mq57.symm
                            subst mq57
                            have mk55a := mk55.1
                            have mh34 := zk_f (by decide) mh34
                            obtain ⟨mv_34, me58, mh34⟩ := zk_lt mh34
                            subst me58
                            unfold B_X12_readPoint_114 at mh34
                            obtain ⟨mv_35, me59, mh34⟩ := zk_lt mh34
                            subst me59
                            obtain ⟨_, mh34⟩ := zk_gd mh34
                            obtain ⟨mf_37, me60, mh34⟩ := zk_lt mh34
                            simp only [Option.some.injEq, Prod.mk.injEq] at mh34
                            obtain ⟨rfl, rfl, rfl⟩ := mh34
                            subst me60
                            have hv : 0 ≤ (nmv ts tb 2 (at_ + 1)).toInt ∧ (nmv ts tb 2 (at_ + 1)).toInt ≤ 31 := by omega
                            rcases ih M _ _ _ _ _ _ _ _ _ RC R ck83 (CG_pt (A := true) (B := false) hG hv ck40 rfl (BS_t hv) (BS_u)) (PI_add (A := true) (B := false) (F := true) (N := true) hI (by omega) ck40 rfl (BS_t hv) (BS_u) (BS_t hv) (BS_t hv) (by decide) (ix32 hx (by omega))) h k with q | ⟨q1, q2, pi2, q3, q4, q5⟩
                            · exact Or.inl ⟨q.1, q.2.1, RFR_rt q.2.2 ⟨fun _ _ => rfl, fun _ _ => rfl, fun _ _ => rfl, fun _ _ => rfl, fun _ _ => rfl, fun _ _ => rfl, fun _ _ => rfl, fun _ _ => rfl, fun _ _ => rfl, (FP_up (ix32 hx (by omega)) (by omega))⟩⟩
                            · exact Or.inr ⟨q1, q2, pi2, q3, FP_tr (FP_up (ix32 hx (by omega)) (by omega)) q4, q5⟩
                          · exact (mk54 ck82).elim
                        · exact (mk48 ck74).elim
                      · exfalso; omega
                      · exact (zx_2 ck9 mk36).elim
                    · exact (mk30 ck2).elim
                  · replace cq86 := cq86.symm
                    subst cq86
                    replace cq87 := cq87.symm
                    subst cq87
                    replace h := zk_t (by decide) h
                    unfold B_X8_readPoints_139 at h
                    replace h := zk_lt h
                    obtain ⟨cv_37, ce90, h⟩ := h
                    subst ce90
                    replace h := zk_lt h
                    obtain ⟨cv_38, ce91, h⟩ := h
                    subst ce91
                    have hroom := CG_room hG (by first | omega | decide) ck40
                    replace k := zk_f (by rw [i32_le, z32_0]; omega) k
                    replace k := zk_o2 k
                    obtain ⟨mr_35, mu_36, mh61, k⟩ := k
                    rcases mb_isNext (n := 59) hT hR hp (by decide) mh61 with ⟨mk62, mq64, mq65, mk63⟩ | ⟨mk62, _, _⟩
                    · replace mq64 := mq64.symm
                      subst mq64
                      replace mq65 := mq65.symm
                      subst mq65
                      have mk63a := mk63.1
                      replace k := zk_f (by decide) k
                      replace k := zk_o3 k
                      obtain ⟨mu_39, mu_40, mu_41, mh66, k⟩ := k
                      unfold f_X12_readPoint at mh66
                      unfold B_X12_readPoint_0 at mh66
                      obtain ⟨mr_1, mu_2, mu_3, mh67, mh66⟩ := zk_o3 mh66
                      rcases mb_number2 (m := 32) hT hR hf mk63 (by decide) mh67 with ⟨mk68, mk69, mq71, mq72, mq73, mk70⟩ | ⟨mk68, mk69, _, _, _, mk70⟩ | ⟨mk68, _, _, _⟩
                      · replace mq71 := mq71.symm
                        subst mq71
                        replace mq72 := mq72.symm
                        subst mq72
                        replace mq73 := mq73.symm
                        subst mq73
                        have mk70a := mk70.1
                        have mk70b := nmv_b2 (ts := ts) (tb := tb) (at_ + 1)
                        have mh66 := zk_t (by rw [i32_lt, z32_0]; omega) mh66
                        obtain ⟨_, mh66⟩ := zk_gd mh66
                        have mh66 := zk_t (PI_le hI hx (by omega) ck40) mh66
                        obtain ⟨mr_8, mu_9, mh74, mh66⟩ := zk_o2 mh66
                        obtain mk75 := mb_look hT hR mk70 mh74
                        have mh66 := zk_t ((BR_E (n := 43) mk75 (by decide)).mpr (by omega)) mh66
                        unfold B_X12_readPoint_64 at mh66
                        obtain ⟨mr_20, mu_21, mh76, mh66⟩ := zk_o2 mh66
                        obtain mk77 := mb_look hT hR mk70 mh76
                        have mh66 := zk_t ((BR_E (n := 43) mk77 (by decide)).mpr (by omega)) mh66
                        unfold B_X12_readPoint_78 at mh66
                        obtain ⟨mv_24, me78, mh66⟩ := zk_lt mh66
                        subst me78
                        obtain ⟨mr_25, mu_26, mh79, mh66⟩ := zk_o2 mh66
                        rcases mb_isNext (n := 102) hT hR ck67 (by decide) mh79 with ⟨mk80, mq82, mq83, mk81⟩ | ⟨mk80, _, _⟩
                        · replace mq82 := mq82.symm
                          subst mq82
                          replace mq83 := mq83.symm
                          subst mq83
                          have mk81a := mk81.1
                          have mh66 := zk_f (by decide) mh66
                          obtain ⟨mv_29, me84, mh66⟩ := zk_lt mh66
                          subst me84
                          unfold B_X12_readPoint_102 at mh66
                          obtain ⟨mr_30, mu_31, mh85, mh66⟩ := zk_o2 mh66
                          rcases mb_isNext (n := 110) hT hR mk81 (by decide) mh85 with ⟨mk86, _, _, mk87⟩ | ⟨mk86, mq88, mq89⟩
                          · exact (ck82 mk86).elim
                          · replace mq88 := mq88.symm
                            subst mq88
                            replace mq89 := mq89.symm
                            subst mq89
                            have mh66 := zk_t (by decide) mh66
                            unfold B_X12_readPoint_114 at mh66
                            obtain ⟨mv_35, me90, mh66⟩ := zk_lt mh66
                            subst me90
                            obtain ⟨_, mh66⟩ := zk_gd mh66
                            obtain ⟨mf_37, me91, mh66⟩ := zk_lt mh66
                            simp only [Option.some.injEq, Prod.mk.injEq] at mh66
                            obtain ⟨rfl, rfl, rfl⟩ := mh66
                            subst me91
                            have hv : 0 ≤ (nmv ts tb 2 (at_ + 1)).toInt ∧ (nmv ts tb 2 (at_ + 1)).toInt ≤ 31 := by omega
                            rcases ih M _ _ _ _ _ _ _ _ _ RC R ck75 (CG_pt (A := true) (B := false) hG hv ck40 rfl (BS_t hv) (BS_u)) (PI_add (A := true) (B := false) (F := true) (N := false) hI (by omega) ck40 rfl (BS_t hv) (BS_u) (BS_t hv) (BS_0) (by decide) (ix32 hx (by omega))) h k with q | ⟨q1, q2, pi2, q3, q4, q5⟩
                            · exact Or.inl ⟨q.1, q.2.1, RFR_rt q.2.2 ⟨fun _ _ => rfl, fun _ _ => rfl, fun _ _ => rfl, fun _ _ => rfl, fun _ _ => rfl, fun _ _ => rfl, fun _ _ => rfl, fun _ _ => rfl, fun _ _ => rfl, (FP_up (ix32 hx (by omega)) (by omega))⟩⟩
                            · exact Or.inr ⟨q1, q2, pi2, q3, FP_tr (FP_up (ix32 hx (by omega)) (by omega)) q4, q5⟩
                        · exact (mk80 ck74).elim
                      · exfalso; omega
                      · exact (zx_2 ck9 mk68).elim
                    · exact (mk62 ck2).elim
                · replace cq78 := cq78.symm
                  subst cq78
                  replace cq79 := cq79.symm
                  subst cq79
                  replace h := zk_t (by decide) h
                  unfold B_X8_readPoints_115 at h
                  replace h := zk_lt h
                  obtain ⟨cv_32, ce92, h⟩ := h
                  subst ce92
                  replace h := zk_o2 h
                  obtain ⟨cr_33, cu_34, ch93, h⟩ := h
                  rcases cb_acceptN (n := 110) hT hf ck67 (by decide) ch93 with ⟨ck94, cq96, cq97, ck95⟩ | ⟨ck94, cq98, cq99⟩
                  · replace cq96 := cq96.symm
                    subst cq96
                    replace cq97 := cq97.symm
                    subst cq97
                    have ck95a := ck95.1
                    replace h := zk_f (by decide) h
                    unfold B_X8_readPoints_139 at h
                    replace h := zk_lt h
                    obtain ⟨cv_37, ce100, h⟩ := h
                    subst ce100
                    replace h := zk_lt h
                    obtain ⟨cv_38, ce101, h⟩ := h
                    subst ce101
                    have hroom := CG_room hG (by first | omega | decide) ck40
                    replace k := zk_f (by rw [i32_le, z32_0]; omega) k
                    replace k := zk_o2 k
                    obtain ⟨mr_35, mu_36, mh92, k⟩ := k
                    rcases mb_isNext (n := 59) hT hR hp (by decide) mh92 with ⟨mk93, mq95, mq96, mk94⟩ | ⟨mk93, _, _⟩
                    · replace mq95 := mq95.symm
                      subst mq95
                      replace mq96 := mq96.symm
                      subst mq96
                      have mk94a := mk94.1
                      replace k := zk_f (by decide) k
                      replace k := zk_o3 k
                      obtain ⟨mu_39, mu_40, mu_41, mh97, k⟩ := k
                      unfold f_X12_readPoint at mh97
                      unfold B_X12_readPoint_0 at mh97
                      obtain ⟨mr_1, mu_2, mu_3, mh98, mh97⟩ := zk_o3 mh97
                      rcases mb_number2 (m := 32) hT hR hf mk94 (by decide) mh98 with ⟨mk99, mk100, mq102, mq103, mq104, mk101⟩ | ⟨mk99, mk100, _, _, _, mk101⟩ | ⟨mk99, _, _, _⟩
                      · replace mq102 := mq102.symm
                        subst mq102
                        replace mq103 := mq103.symm
                        subst mq103
                        replace mq104 := mq104.symm
                        subst mq104
                        have mk101a := mk101.1
                        have mk101b := nmv_b2 (ts := ts) (tb := tb) (at_ + 1)
                        have mh97 := zk_t (by rw [i32_lt, z32_0]; omega) mh97
                        obtain ⟨_, mh97⟩ := zk_gd mh97
                        have mh97 := zk_t (PI_le hI hx (by omega) ck40) mh97
                        obtain ⟨mr_8, mu_9, mh105, mh97⟩ := zk_o2 mh97
                        obtain mk106 := mb_look hT hR mk101 mh105
                        have mh97 := zk_t ((BR_E (n := 43) mk106 (by decide)).mpr (by omega)) mh97
                        unfold B_X12_readPoint_64 at mh97
                        obtain ⟨mr_20, mu_21, mh107, mh97⟩ := zk_o2 mh97
                        obtain mk108 := mb_look hT hR mk101 mh107
                        have mh97 := zk_t ((BR_E (n := 43) mk108 (by decide)).mpr (by omega)) mh97
                        unfold B_X12_readPoint_78 at mh97
                        obtain ⟨mv_24, me109, mh97⟩ := zk_lt mh97
                        subst me109
                        obtain ⟨mr_25, mu_26, mh110, mh97⟩ := zk_o2 mh97
                        rcases mb_isNext (n := 102) hT hR ck67 (by decide) mh110 with ⟨mk111, _, _, mk112⟩ | ⟨mk111, mq113, mq114⟩
                        · exact (ck74 mk111).elim
                        · replace mq113 := mq113.symm
                          subst mq113
                          replace mq114 := mq114.symm
                          subst mq114
                          have mh97 := zk_t (by decide) mh97
                          unfold B_X12_readPoint_102 at mh97
                          obtain ⟨mr_30, mu_31, mh115, mh97⟩ := zk_o2 mh97
                          rcases mb_isNext (n := 110) hT hR ck67 (by decide) mh115 with ⟨mk116, mq118, mq119, mk117⟩ | ⟨mk116, _, _⟩
                          · replace mq118 := mq118.symm
                            subst mq118
                            replace mq119 := mq119.symm
                            subst mq119
                            have mk117a := mk117.1
                            have mh97 := zk_f (by decide) mh97
                            obtain ⟨mv_34, me120, mh97⟩ := zk_lt mh97
                            subst me120
                            unfold B_X12_readPoint_114 at mh97
                            obtain ⟨mv_35, me121, mh97⟩ := zk_lt mh97
                            subst me121
                            obtain ⟨_, mh97⟩ := zk_gd mh97
                            obtain ⟨mf_37, me122, mh97⟩ := zk_lt mh97
                            simp only [Option.some.injEq, Prod.mk.injEq] at mh97
                            obtain ⟨rfl, rfl, rfl⟩ := mh97
                            subst me122
                            have hv : 0 ≤ (nmv ts tb 2 (at_ + 1)).toInt ∧ (nmv ts tb 2 (at_ + 1)).toInt ≤ 31 := by omega
                            rcases ih M _ _ _ _ _ _ _ _ _ RC R ck95 (CG_pt (A := true) (B := false) hG hv ck40 rfl (BS_t hv) (BS_u)) (PI_add (A := true) (B := false) (F := false) (N := true) hI (by omega) ck40 rfl (BS_t hv) (BS_u) (BS_0) (BS_t hv) (by decide) (ix32 hx (by omega))) h k with q | ⟨q1, q2, pi2, q3, q4, q5⟩
                            · exact Or.inl ⟨q.1, q.2.1, RFR_rt q.2.2 ⟨fun _ _ => rfl, fun _ _ => rfl, fun _ _ => rfl, fun _ _ => rfl, fun _ _ => rfl, fun _ _ => rfl, fun _ _ => rfl, fun _ _ => rfl, fun _ _ => rfl, (FP_up (ix32 hx (by omega)) (by omega))⟩⟩
                            · exact Or.inr ⟨q1, q2, pi2, q3, FP_tr (FP_up (ix32 hx (by omega)) (by omega)) q4, q5⟩
                          · exact (mk116 ck94).elim
                      · exfalso; omega
                      · exact (zx_2 ck9 mk99).elim
                    · exact (mk93 ck2).elim
                  · replace cq98 := cq98.symm
                    subst cq98
                    replace cq99 := cq99.symm
                    subst cq99
                    replace h := zk_t (by decide) h
                    unfold B_X8_readPoints_139 at h
                    replace h := zk_lt h
                    obtain ⟨cv_37, ce102, h⟩ := h
                    subst ce102
                    replace h := zk_lt h
                    obtain ⟨cv_38, ce103, h⟩ := h
                    subst ce103
                    have hroom := CG_room hG (by first | omega | decide) ck40
                    replace k := zk_f (by rw [i32_le, z32_0]; omega) k
                    replace k := zk_o2 k
                    obtain ⟨mr_35, mu_36, mh123, k⟩ := k
                    rcases mb_isNext (n := 59) hT hR hp (by decide) mh123 with ⟨mk124, mq126, mq127, mk125⟩ | ⟨mk124, _, _⟩
                    · replace mq126 := mq126.symm
                      subst mq126
                      replace mq127 := mq127.symm
                      subst mq127
                      have mk125a := mk125.1
                      replace k := zk_f (by decide) k
                      replace k := zk_o3 k
                      obtain ⟨mu_39, mu_40, mu_41, mh128, k⟩ := k
                      unfold f_X12_readPoint at mh128
                      unfold B_X12_readPoint_0 at mh128
                      obtain ⟨mr_1, mu_2, mu_3, mh129, mh128⟩ := zk_o3 mh128
                      rcases mb_number2 (m := 32) hT hR hf mk125 (by decide) mh129 with ⟨mk130, mk131, mq133, mq134, mq135, mk132⟩ | ⟨mk130, mk131, _, _, _, mk132⟩ | ⟨mk130, _, _, _⟩
                      · replace mq133 := mq133.symm
                        subst mq133
                        replace mq134 := mq134.symm
                        subst mq134
                        replace mq135 := mq135.symm
                        subst mq135
                        have mk132a := mk132.1
                        have mk132b := nmv_b2 (ts := ts) (tb := tb) (at_ + 1)
                        have mh128 := zk_t (by rw [i32_lt, z32_0]; omega) mh128
                        obtain ⟨_, mh128⟩ := zk_gd mh128
                        have mh128 := zk_t (PI_le hI hx (by omega) ck40) mh128
                        obtain ⟨mr_8, mu_9, mh136, mh128⟩ := zk_o2 mh128
                        obtain mk137 := mb_look hT hR mk132 mh136
                        have mh128 := zk_t ((BR_E (n := 43) mk137 (by decide)).mpr (by omega)) mh128
                        unfold B_X12_readPoint_64 at mh128
                        obtain ⟨mr_20, mu_21, mh138, mh128⟩ := zk_o2 mh128
                        obtain mk139 := mb_look hT hR mk132 mh138
                        have mh128 := zk_t ((BR_E (n := 43) mk139 (by decide)).mpr (by omega)) mh128
                        unfold B_X12_readPoint_78 at mh128
                        obtain ⟨mv_24, me140, mh128⟩ := zk_lt mh128
                        subst me140
                        obtain ⟨mr_25, mu_26, mh141, mh128⟩ := zk_o2 mh128
                        rcases mb_isNext (n := 102) hT hR ck67 (by decide) mh141 with ⟨mk142, _, _, mk143⟩ | ⟨mk142, mq144, mq145⟩
                        · exact (ck74 mk142).elim
                        · replace mq144 := mq144.symm
                          subst mq144
                          replace mq145 := mq145.symm
                          subst mq145
                          have mh128 := zk_t (by decide) mh128
                          unfold B_X12_readPoint_102 at mh128
                          obtain ⟨mr_30, mu_31, mh146, mh128⟩ := zk_o2 mh128
                          rcases mb_isNext (n := 110) hT hR ck67 (by decide) mh146 with ⟨mk147, _, _, mk148⟩ | ⟨mk147, mq149, mq150⟩
                          · exact (ck94 mk147).elim
                          · replace mq149 := mq149.symm
                            subst mq149
                            replace mq150 := mq150.symm
                            subst mq150
                            have mh128 := zk_t (by decide) mh128
                            unfold B_X12_readPoint_114 at mh128
                            obtain ⟨mv_35, me151, mh128⟩ := zk_lt mh128
                            subst me151
                            obtain ⟨_, mh128⟩ := zk_gd mh128
                            obtain ⟨mf_37, me152, mh128⟩ := zk_lt mh128
                            simp only [Option.some.injEq, Prod.mk.injEq] at mh128
                            obtain ⟨rfl, rfl, rfl⟩ := mh128
                            subst me152
                            have hv : 0 ≤ (nmv ts tb 2 (at_ + 1)).toInt ∧ (nmv ts tb 2 (at_ + 1)).toInt ≤ 31 := by omega
                            rcases ih M _ _ _ _ _ _ _ _ _ RC R ck67 (CG_pt (A := true) (B := false) hG hv ck40 rfl (BS_t hv) (BS_u)) (PI_add (A := true) (B := false) (F := false) (N := false) hI (by omega) ck40 rfl (BS_t hv) (BS_u) (BS_0) (BS_0) (by decide) (ix32 hx (by omega))) h k with q | ⟨q1, q2, pi2, q3, q4, q5⟩
                            · exact Or.inl ⟨q.1, q.2.1, RFR_rt q.2.2 ⟨fun _ _ => rfl, fun _ _ => rfl, fun _ _ => rfl, fun _ _ => rfl, fun _ _ => rfl, fun _ _ => rfl, fun _ _ => rfl, fun _ _ => rfl, fun _ _ => rfl, (FP_up (ix32 hx (by omega)) (by omega))⟩⟩
                            · exact Or.inr ⟨q1, q2, pi2, q3, FP_tr (FP_up (ix32 hx (by omega)) (by omega)) q4, q5⟩
                      · exfalso; omega
                      · exact (zx_2 ck9 mk130).elim
                    · exact (mk124 ck2).elim
              · replace cq70 := cq70.symm
                subst cq70
                replace cq71 := cq71.symm
                subst cq71
                replace h := zk_t (by decide) h
                replace h := zk_o2 h
                obtain ⟨cu_23, cu_24, ch104, h⟩ := h
                rcases cb_expectN (n := 45) hT hf ck10 (by decide) ch104 with ⟨ck105, cq107, cq108, ck106⟩ | ⟨ck105, cq109, cq110⟩
                · replace cq107 := cq107.symm
                  subst cq107
                  replace cq108 := cq108.symm
                  subst cq108
                  have ck106a := ck106.1
                  replace h := zk_lt h
                  obtain ⟨cv_26, ce111, h⟩ := h
                  subst ce111
                  unfold B_X8_readPoints_95 at h
                  replace h := zk_o2 h
                  obtain ⟨cr_28, cu_29, ch112, h⟩ := h
                  rcases cb_acceptN (n := 102) hT hf ck106 (by decide) ch112 with ⟨ck113, cq115, cq116, ck114⟩ | ⟨ck113, cq117, cq118⟩
                  · replace cq115 := cq115.symm
                    subst cq115
                    replace cq116 := cq116.symm
                    subst cq116
                    have ck114a := ck114.1
                    replace h := zk_f (by decide) h
                    unfold B_X8_readPoints_115 at h
                    replace h := zk_lt h
                    obtain ⟨cv_32, ce119, h⟩ := h
                    subst ce119
                    replace h := zk_o2 h
                    obtain ⟨cr_33, cu_34, ch120, h⟩ := h
                    rcases cb_acceptN (n := 110) hT hf ck114 (by decide) ch120 with ⟨ck121, cq123, cq124, ck122⟩ | ⟨ck121, cq125, cq126⟩
                    · replace cq123 := cq123.symm
                      subst cq123
                      replace cq124 := cq124.symm
                      subst cq124
                      have ck122a := ck122.1
                      replace h := zk_f (by decide) h
                      unfold B_X8_readPoints_139 at h
                      replace h := zk_lt h
                      obtain ⟨cv_37, ce127, h⟩ := h
                      subst ce127
                      replace h := zk_lt h
                      obtain ⟨cv_38, ce128, h⟩ := h
                      subst ce128
                      have hroom := CG_room hG (by first | omega | decide) ck40
                      replace k := zk_f (by rw [i32_le, z32_0]; omega) k
                      replace k := zk_o2 k
                      obtain ⟨mr_35, mu_36, mh153, k⟩ := k
                      rcases mb_isNext (n := 59) hT hR hp (by decide) mh153 with ⟨mk154, mq156, mq157, mk155⟩ | ⟨mk154, _, _⟩
                      · replace mq156 := mq156.symm
                        subst mq156
                        replace mq157 := mq157.symm
                        subst mq157
                        have mk155a := mk155.1
                        replace k := zk_f (by decide) k
                        replace k := zk_o3 k
                        obtain ⟨mu_39, mu_40, mu_41, mh158, k⟩ := k
                        unfold f_X12_readPoint at mh158
                        unfold B_X12_readPoint_0 at mh158
                        obtain ⟨mr_1, mu_2, mu_3, mh159, mh158⟩ := zk_o3 mh158
                        rcases mb_number2 (m := 32) hT hR hf mk155 (by decide) mh159 with ⟨mk160, mk161, mq163, mq164, mq165, mk162⟩ | ⟨mk160, mk161, _, _, _, mk162⟩ | ⟨mk160, _, _, _⟩
                        · replace mq163 := mq163.symm
                          subst mq163
                          replace mq164 := mq164.symm
                          subst mq164
                          replace mq165 := mq165.symm
                          subst mq165
                          have mk162a := mk162.1
                          have mk162b := nmv_b2 (ts := ts) (tb := tb) (at_ + 1)
                          have mh158 := zk_t (by rw [i32_lt, z32_0]; omega) mh158
                          obtain ⟨_, mh158⟩ := zk_gd mh158
                          have mh158 := zk_t (PI_le hI hx (by omega) ck40) mh158
                          obtain ⟨mr_8, mu_9, mh166, mh158⟩ := zk_o2 mh158
                          obtain mk167 := mb_look hT hR mk162 mh166
                          have mh158 := zk_f (fun z => absurd ((BR_E (n := 43) mk167 (by decide)).mp z) (by omega)) mh158
                          obtain ⟨mr_12, mu_13, mh168, mh158⟩ := zk_o2 mh158
                          obtain mk169 := mb_look hT hR mk162 mh168
                          have mh158 := zk_t ((BR_E (n := 45) mk169 (by decide)).mpr (by omega)) mh158
                          unfold B_X12_readPoint_64 at mh158
                          obtain ⟨mr_20, mu_21, mh170, mh158⟩ := zk_o2 mh158
                          obtain mk171 := mb_look hT hR mk162 mh170
                          have mh158 := zk_f (fun z => absurd ((BR_E (n := 43) mk171 (by decide)).mp z) (by omega)) mh158
                          unfold B_X12_readPoint_78 at mh158
                          obtain ⟨mv_24, me172, mh158⟩ := zk_lt mh158
                          subst me172
                          obtain ⟨mr_25, mu_26, mh173, mh158⟩ := zk_o2 mh158
                          rcases mb_isNext (n := 102) hT hR ck106 (by decide) mh173 with ⟨mk174, mq176, mq177, mk175⟩ | ⟨mk174, _, _⟩
                          · replace mq176 := mq176.symm
                            subst mq176
                            replace mq177 := mq177.symm
                            subst mq177
                            have mk175a := mk175.1
                            have mh158 := zk_f (by decide) mh158
                            obtain ⟨mv_29, me178, mh158⟩ := zk_lt mh158
                            subst me178
                            unfold B_X12_readPoint_102 at mh158
                            obtain ⟨mr_30, mu_31, mh179, mh158⟩ := zk_o2 mh158
                            rcases mb_isNext (n := 110) hT hR mk175 (by decide) mh179 with ⟨mk180, mq182, mq183, mk181⟩ | ⟨mk180, _, _⟩
                            · replace mq182 := mq182.symm
                              subst mq182
                              replace mq183 := mq183.symm
                              subst mq183
                              have mk181a := mk181.1
                              have mh158 := zk_f (by decide) mh158
                              obtain ⟨mv_34, me184, mh158⟩ := zk_lt mh158
                              subst me184
                              unfold B_X12_readPoint_114 at mh158
                              obtain ⟨mv_35, me185, mh158⟩ := zk_lt mh158
                              subst me185
                              obtain ⟨_, mh158⟩ := zk_gd mh158
                              obtain ⟨mf_37, me186, mh158⟩ := zk_lt mh158
                              simp only [Option.some.injEq, Prod.mk.injEq] at mh158
                              obtain ⟨rfl, rfl, rfl⟩ := mh158
                              subst me186
                              have hv : 0 ≤ (nmv ts tb 2 (at_ + 1)).toInt ∧ (nmv ts tb 2 (at_ + 1)).toInt ≤ 31 := by omega
                              rcases ih M _ _ _ _ _ _ _ _ _ RC R ck122 (CG_pt (A := false) (B := true) hG hv ck40 rfl (BS_u) (BS_t hv)) (PI_add (A := false) (B := true) (F := true) (N := true) hI (by omega) ck40 rfl (BS_u) (BS_t hv) (BS_t hv) (BS_t hv) (by decide) (ix32 hx (by omega))) h k with q | ⟨q1, q2, pi2, q3, q4, q5⟩
                              · exact Or.inl ⟨q.1, q.2.1, RFR_rt q.2.2 ⟨fun _ _ => rfl, fun _ _ => rfl, fun _ _ => rfl, fun _ _ => rfl, fun _ _ => rfl, fun _ _ => rfl, fun _ _ => rfl, fun _ _ => rfl, fun _ _ => rfl, (FP_up (ix32 hx (by omega)) (by omega))⟩⟩
                              · exact Or.inr ⟨q1, q2, pi2, q3, FP_tr (FP_up (ix32 hx (by omega)) (by omega)) q4, q5⟩
                            · exact (mk180 ck121).elim
                          · exact (mk174 ck113).elim
                        · exfalso; omega
                        · exact (zx_2 ck9 mk160).elim
                      · exact (mk154 ck2).elim
                    · replace cq125 := cq125.symm
                      subst cq125
                      replace cq126 := cq126.symm
                      subst cq126
                      replace h := zk_t (by decide) h
                      unfold B_X8_readPoints_139 at h
                      replace h := zk_lt h
                      obtain ⟨cv_37, ce129, h⟩ := h
                      subst ce129
                      replace h := zk_lt h
                      obtain ⟨cv_38, ce130, h⟩ := h
                      subst ce130
                      have hroom := CG_room hG (by first | omega | decide) ck40
                      replace k := zk_f (by rw [i32_le, z32_0]; omega) k
                      replace k := zk_o2 k
                      obtain ⟨mr_35, mu_36, mh187, k⟩ := k
                      rcases mb_isNext (n := 59) hT hR hp (by decide) mh187 with ⟨mk188, mq190, mq191, mk189⟩ | ⟨mk188, _, _⟩
                      · replace mq190 := mq190.symm
                        subst mq190
                        replace mq191 := mq191.symm
                        subst mq191
                        have mk189a := mk189.1
                        replace k := zk_f (by decide) k
                        replace k := zk_o3 k
                        obtain ⟨mu_39, mu_40, mu_41, mh192, k⟩ := k
                        unfold f_X12_readPoint at mh192
                        unfold B_X12_readPoint_0 at mh192
                        obtain ⟨mr_1, mu_2, mu_3, mh193, mh192⟩ := zk_o3 mh192
                        rcases mb_number2 (m := 32) hT hR hf mk189 (by decide) mh193 with ⟨mk194, mk195, mq197, mq198, mq199, mk196⟩ | ⟨mk194, mk195, _, _, _, mk196⟩ | ⟨mk194, _, _, _⟩
                        · replace mq197 := mq197.symm
                          subst mq197
                          replace mq198 := mq198.symm
                          subst mq198
                          replace mq199 := mq199.symm
                          subst mq199
                          have mk196a := mk196.1
                          have mk196b := nmv_b2 (ts := ts) (tb := tb) (at_ + 1)
                          have mh192 := zk_t (by rw [i32_lt, z32_0]; omega) mh192
                          obtain ⟨_, mh192⟩ := zk_gd mh192
                          have mh192 := zk_t (PI_le hI hx (by omega) ck40) mh192
                          obtain ⟨mr_8, mu_9, mh200, mh192⟩ := zk_o2 mh192
                          obtain mk201 := mb_look hT hR mk196 mh200
                          have mh192 := zk_f (fun z => absurd ((BR_E (n := 43) mk201 (by decide)).mp z) (by omega)) mh192
                          obtain ⟨mr_12, mu_13, mh202, mh192⟩ := zk_o2 mh192
                          obtain mk203 := mb_look hT hR mk196 mh202
                          have mh192 := zk_t ((BR_E (n := 45) mk203 (by decide)).mpr (by omega)) mh192
                          unfold B_X12_readPoint_64 at mh192
                          obtain ⟨mr_20, mu_21, mh204, mh192⟩ := zk_o2 mh192
                          obtain mk205 := mb_look hT hR mk196 mh204
                          have mh192 := zk_f (fun z => absurd ((BR_E (n := 43) mk205 (by decide)).mp z) (by omega)) mh192
                          unfold B_X12_readPoint_78 at mh192
                          obtain ⟨mv_24, me206, mh192⟩ := zk_lt mh192
                          subst me206
                          obtain ⟨mr_25, mu_26, mh207, mh192⟩ := zk_o2 mh192
                          rcases mb_isNext (n := 102) hT hR ck106 (by decide) mh207 with ⟨mk208, mq210, mq211, mk209⟩ | ⟨mk208, _, _⟩
                          · replace mq210 := mq210.symm
                            subst mq210
                            replace mq211 := mq211.symm
                            subst mq211
                            have mk209a := mk209.1
                            have mh192 := zk_f (by decide) mh192
                            obtain ⟨mv_29, me212, mh192⟩ := zk_lt mh192
                            subst me212
                            unfold B_X12_readPoint_102 at mh192
                            obtain ⟨mr_30, mu_31, mh213, mh192⟩ := zk_o2 mh192
                            rcases mb_isNext (n := 110) hT hR mk209 (by decide) mh213 with ⟨mk214, _, _, mk215⟩ | ⟨mk214, mq216, mq217⟩
                            · exact (ck121 mk214).elim
                            · replace mq216 := mq216.symm
                              subst mq216
                              replace mq217 := mq217.symm
                              subst mq217
                              have mh192 := zk_t (by decide) mh192
                              unfold B_X12_readPoint_114 at mh192
                              obtain ⟨mv_35, me218, mh192⟩ := zk_lt mh192
                              subst me218
                              obtain ⟨_, mh192⟩ := zk_gd mh192
                              obtain ⟨mf_37, me219, mh192⟩ := zk_lt mh192
                              simp only [Option.some.injEq, Prod.mk.injEq] at mh192
                              obtain ⟨rfl, rfl, rfl⟩ := mh192
                              subst me219
                              have hv : 0 ≤ (nmv ts tb 2 (at_ + 1)).toInt ∧ (nmv ts tb 2 (at_ + 1)).toInt ≤ 31 := by omega
                              rcases ih M _ _ _ _ _ _ _ _ _ RC R ck114 (CG_pt (A := false) (B := true) hG hv ck40 rfl (BS_u) (BS_t hv)) (PI_add (A := false) (B := true) (F := true) (N := false) hI (by omega) ck40 rfl (BS_u) (BS_t hv) (BS_t hv) (BS_0) (by decide) (ix32 hx (by omega))) h k with q | ⟨q1, q2, pi2, q3, q4, q5⟩
                              · exact Or.inl ⟨q.1, q.2.1, RFR_rt q.2.2 ⟨fun _ _ => rfl, fun _ _ => rfl, fun _ _ => rfl, fun _ _ => rfl, fun _ _ => rfl, fun _ _ => rfl, fun _ _ => rfl, fun _ _ => rfl, fun _ _ => rfl, (FP_up (ix32 hx (by omega)) (by omega))⟩⟩
                              · exact Or.inr ⟨q1, q2, pi2, q3, FP_tr (FP_up (ix32 hx (by omega)) (by omega)) q4, q5⟩
                          · exact (mk208 ck113).elim
                        · exfalso; omega
                        · exact (zx_2 ck9 mk194).elim
                      · exact (mk188 ck2).elim
                  · replace cq117 := cq117.symm
                    subst cq117
                    replace cq118 := cq118.symm
                    subst cq118
                    replace h := zk_t (by decide) h
                    unfold B_X8_readPoints_115 at h
                    replace h := zk_lt h
                    obtain ⟨cv_32, ce131, h⟩ := h
                    subst ce131
                    replace h := zk_o2 h
                    obtain ⟨cr_33, cu_34, ch132, h⟩ := h
                    rcases cb_acceptN (n := 110) hT hf ck106 (by decide) ch132 with ⟨ck133, cq135, cq136, ck134⟩ | ⟨ck133, cq137, cq138⟩
                    · replace cq135 := cq135.symm
                      subst cq135
                      replace cq136 := cq136.symm
                      subst cq136
                      have ck134a := ck134.1
                      replace h := zk_f (by decide) h
                      unfold B_X8_readPoints_139 at h
                      replace h := zk_lt h
                      obtain ⟨cv_37, ce139, h⟩ := h
                      subst ce139
                      replace h := zk_lt h
                      obtain ⟨cv_38, ce140, h⟩ := h
                      subst ce140
                      have hroom := CG_room hG (by first | omega | decide) ck40
                      replace k := zk_f (by rw [i32_le, z32_0]; omega) k
                      replace k := zk_o2 k
                      obtain ⟨mr_35, mu_36, mh220, k⟩ := k
                      rcases mb_isNext (n := 59) hT hR hp (by decide) mh220 with ⟨mk221, mq223, mq224, mk222⟩ | ⟨mk221, _, _⟩
                      · replace mq223 := mq223.symm
                        subst mq223
                        replace mq224 := mq224.symm
                        subst mq224
                        have mk222a := mk222.1
                        replace k := zk_f (by decide) k
                        replace k := zk_o3 k
                        obtain ⟨mu_39, mu_40, mu_41, mh225, k⟩ := k
                        unfold f_X12_readPoint at mh225
                        unfold B_X12_readPoint_0 at mh225
                        obtain ⟨mr_1, mu_2, mu_3, mh226, mh225⟩ := zk_o3 mh225
                        rcases mb_number2 (m := 32) hT hR hf mk222 (by decide) mh226 with ⟨mk227, mk228, mq230, mq231, mq232, mk229⟩ | ⟨mk227, mk228, _, _, _, mk229⟩ | ⟨mk227, _, _, _⟩
                        · replace mq230 := mq230.symm
                          subst mq230
                          replace mq231 := mq231.symm
                          subst mq231
                          replace mq232 := mq232.symm
                          subst mq232
                          have mk229a := mk229.1
                          have mk229b := nmv_b2 (ts := ts) (tb := tb) (at_ + 1)
                          have mh225 := zk_t (by rw [i32_lt, z32_0]; omega) mh225
                          obtain ⟨_, mh225⟩ := zk_gd mh225
                          have mh225 := zk_t (PI_le hI hx (by omega) ck40) mh225
                          obtain ⟨mr_8, mu_9, mh233, mh225⟩ := zk_o2 mh225
                          obtain mk234 := mb_look hT hR mk229 mh233
                          have mh225 := zk_f (fun z => absurd ((BR_E (n := 43) mk234 (by decide)).mp z) (by omega)) mh225
                          obtain ⟨mr_12, mu_13, mh235, mh225⟩ := zk_o2 mh225
                          obtain mk236 := mb_look hT hR mk229 mh235
                          have mh225 := zk_t ((BR_E (n := 45) mk236 (by decide)).mpr (by omega)) mh225
                          unfold B_X12_readPoint_64 at mh225
                          obtain ⟨mr_20, mu_21, mh237, mh225⟩ := zk_o2 mh225
                          obtain mk238 := mb_look hT hR mk229 mh237
                          have mh225 := zk_f (fun z => absurd ((BR_E (n := 43) mk238 (by decide)).mp z) (by omega)) mh225
                          unfold B_X12_readPoint_78 at mh225
                          obtain ⟨mv_24, me239, mh225⟩ := zk_lt mh225
                          subst me239
                          obtain ⟨mr_25, mu_26, mh240, mh225⟩ := zk_o2 mh225
                          rcases mb_isNext (n := 102) hT hR ck106 (by decide) mh240 with ⟨mk241, _, _, mk242⟩ | ⟨mk241, mq243, mq244⟩
                          · exact (ck113 mk241).elim
                          · replace mq243 := mq243.symm
                            subst mq243
                            replace mq244 := mq244.symm
                            subst mq244
                            have mh225 := zk_t (by decide) mh225
                            unfold B_X12_readPoint_102 at mh225
                            obtain ⟨mr_30, mu_31, mh245, mh225⟩ := zk_o2 mh225
                            rcases mb_isNext (n := 110) hT hR ck106 (by decide) mh245 with ⟨mk246, mq248, mq249, mk247⟩ | ⟨mk246, _, _⟩
                            · replace mq248 := mq248.symm
                              subst mq248
                              replace mq249 := mq249.symm
                              subst mq249
                              have mk247a := mk247.1
                              have mh225 := zk_f (by decide) mh225
                              obtain ⟨mv_34, me250, mh225⟩ := zk_lt mh225
                              subst me250
                              unfold B_X12_readPoint_114 at mh225
                              obtain ⟨mv_35, me251, mh225⟩ := zk_lt mh225
                              subst me251
                              obtain ⟨_, mh225⟩ := zk_gd mh225
                              obtain ⟨mf_37, me252, mh225⟩ := zk_lt mh225
                              simp only [Option.some.injEq, Prod.mk.injEq] at mh225
                              obtain ⟨rfl, rfl, rfl⟩ := mh225
                              subst me252
                              have hv : 0 ≤ (nmv ts tb 2 (at_ + 1)).toInt ∧ (nmv ts tb 2 (at_ + 1)).toInt ≤ 31 := by omega
                              rcases ih M _ _ _ _ _ _ _ _ _ RC R ck134 (CG_pt (A := false) (B := true) hG hv ck40 rfl (BS_u) (BS_t hv)) (PI_add (A := false) (B := true) (F := false) (N := true) hI (by omega) ck40 rfl (BS_u) (BS_t hv) (BS_0) (BS_t hv) (by decide) (ix32 hx (by omega))) h k with q | ⟨q1, q2, pi2, q3, q4, q5⟩
                              · exact Or.inl ⟨q.1, q.2.1, RFR_rt q.2.2 ⟨fun _ _ => rfl, fun _ _ => rfl, fun _ _ => rfl, fun _ _ => rfl, fun _ _ => rfl, fun _ _ => rfl, fun _ _ => rfl, fun _ _ => rfl, fun _ _ => rfl, (FP_up (ix32 hx (by omega)) (by omega))⟩⟩
                              · exact Or.inr ⟨q1, q2, pi2, q3, FP_tr (FP_up (ix32 hx (by omega)) (by omega)) q4, q5⟩
                            · exact (mk246 ck133).elim
                        · exfalso; omega
                        · exact (zx_2 ck9 mk227).elim
                      · exact (mk221 ck2).elim
                    · replace cq137 := cq137.symm
                      subst cq137
                      replace cq138 := cq138.symm
                      subst cq138
                      replace h := zk_t (by decide) h
                      unfold B_X8_readPoints_139 at h
                      replace h := zk_lt h
                      obtain ⟨cv_37, ce141, h⟩ := h
                      subst ce141
                      replace h := zk_lt h
                      obtain ⟨cv_38, ce142, h⟩ := h
                      subst ce142
                      have hroom := CG_room hG (by first | omega | decide) ck40
                      replace k := zk_f (by rw [i32_le, z32_0]; omega) k
                      replace k := zk_o2 k
                      obtain ⟨mr_35, mu_36, mh253, k⟩ := k
                      rcases mb_isNext (n := 59) hT hR hp (by decide) mh253 with ⟨mk254, mq256, mq257, mk255⟩ | ⟨mk254, _, _⟩
                      · replace mq256 := mq256.symm
                        subst mq256
                        replace mq257 := mq257.symm
                        subst mq257
                        have mk255a := mk255.1
                        replace k := zk_f (by decide) k
                        replace k := zk_o3 k
                        obtain ⟨mu_39, mu_40, mu_41, mh258, k⟩ := k
                        unfold f_X12_readPoint at mh258
                        unfold B_X12_readPoint_0 at mh258
                        obtain ⟨mr_1, mu_2, mu_3, mh259, mh258⟩ := zk_o3 mh258
                        rcases mb_number2 (m := 32) hT hR hf mk255 (by decide) mh259 with ⟨mk260, mk261, mq263, mq264, mq265, mk262⟩ | ⟨mk260, mk261, _, _, _, mk262⟩ | ⟨mk260, _, _, _⟩
                        · replace mq263 := mq263.symm
                          subst mq263
                          replace mq264 := mq264.symm
                          subst mq264
                          replace mq265 := mq265.symm
                          subst mq265
                          have mk262a := mk262.1
                          have mk262b := nmv_b2 (ts := ts) (tb := tb) (at_ + 1)
                          have mh258 := zk_t (by rw [i32_lt, z32_0]; omega) mh258
                          obtain ⟨_, mh258⟩ := zk_gd mh258
                          have mh258 := zk_t (PI_le hI hx (by omega) ck40) mh258
                          obtain ⟨mr_8, mu_9, mh266, mh258⟩ := zk_o2 mh258
                          obtain mk267 := mb_look hT hR mk262 mh266
                          have mh258 := zk_f (fun z => absurd ((BR_E (n := 43) mk267 (by decide)).mp z) (by omega)) mh258
                          obtain ⟨mr_12, mu_13, mh268, mh258⟩ := zk_o2 mh258
                          obtain mk269 := mb_look hT hR mk262 mh268
                          have mh258 := zk_t ((BR_E (n := 45) mk269 (by decide)).mpr (by omega)) mh258
                          unfold B_X12_readPoint_64 at mh258
                          obtain ⟨mr_20, mu_21, mh270, mh258⟩ := zk_o2 mh258
                          obtain mk271 := mb_look hT hR mk262 mh270
                          have mh258 := zk_f (fun z => absurd ((BR_E (n := 43) mk271 (by decide)).mp z) (by omega)) mh258
                          unfold B_X12_readPoint_78 at mh258
                          obtain ⟨mv_24, me272, mh258⟩ := zk_lt mh258
                          subst me272
                          obtain ⟨mr_25, mu_26, mh273, mh258⟩ := zk_o2 mh258
                          rcases mb_isNext (n := 102) hT hR ck106 (by decide) mh273 with ⟨mk274, _, _, mk275⟩ | ⟨mk274, mq276, mq277⟩
                          · exact (ck113 mk274).elim
                          · replace mq276 := mq276.symm
                            subst mq276
                            replace mq277 := mq277.symm
                            subst mq277
                            have mh258 := zk_t (by decide) mh258
                            unfold B_X12_readPoint_102 at mh258
                            obtain ⟨mr_30, mu_31, mh278, mh258⟩ := zk_o2 mh258
                            rcases mb_isNext (n := 110) hT hR ck106 (by decide) mh278 with ⟨mk279, _, _, mk280⟩ | ⟨mk279, mq281, mq282⟩
                            · exact (ck133 mk279).elim
                            · replace mq281 := mq281.symm
                              subst mq281
                              replace mq282 := mq282.symm
                              subst mq282
                              have mh258 := zk_t (by decide) mh258
                              unfold B_X12_readPoint_114 at mh258
                              obtain ⟨mv_35, me283, mh258⟩ := zk_lt mh258
                              subst me283
                              obtain ⟨_, mh258⟩ := zk_gd mh258
                              obtain ⟨mf_37, me284, mh258⟩ := zk_lt mh258
                              simp only [Option.some.injEq, Prod.mk.injEq] at mh258
                              obtain ⟨rfl, rfl, rfl⟩ := mh258
                              subst me284
                              have hv : 0 ≤ (nmv ts tb 2 (at_ + 1)).toInt ∧ (nmv ts tb 2 (at_ + 1)).toInt ≤ 31 := by omega
                              rcases ih M _ _ _ _ _ _ _ _ _ RC R ck106 (CG_pt (A := false) (B := true) hG hv ck40 rfl (BS_u) (BS_t hv)) (PI_add (A := false) (B := true) (F := false) (N := false) hI (by omega) ck40 rfl (BS_u) (BS_t hv) (BS_0) (BS_0) (by decide) (ix32 hx (by omega))) h k with q | ⟨q1, q2, pi2, q3, q4, q5⟩
                              · exact Or.inl ⟨q.1, q.2.1, RFR_rt q.2.2 ⟨fun _ _ => rfl, fun _ _ => rfl, fun _ _ => rfl, fun _ _ => rfl, fun _ _ => rfl, fun _ _ => rfl, fun _ _ => rfl, fun _ _ => rfl, fun _ _ => rfl, (FP_up (ix32 hx (by omega)) (by omega))⟩⟩
                              · exact Or.inr ⟨q1, q2, pi2, q3, FP_tr (FP_up (ix32 hx (by omega)) (by omega)) q4, q5⟩
                        · exfalso; omega
                        · exact (zx_2 ck9 mk260).elim
                      · exact (mk254 ck2).elim
                · replace cq109 := cq109.symm
                  subst cq109
                  replace cq110 := cq110.symm
                  subst cq110
                  replace h := zk_lt h
                  obtain ⟨cv_26, ce143, h⟩ := h
                  subst ce143
                  unfold B_X8_readPoints_95 at h
                  replace h := zk_o2 h
                  obtain ⟨cr_28, cu_29, ch144, h⟩ := h
                  obtain ⟨cq145, cq146⟩ := cb_acceptP (ck10).1 ch144
                  replace cq145 := cq145.symm
                  subst cq145
                  replace cq146 := cq146.symm
                  subst cq146
                  replace h := zk_t (by decide) h
                  unfold B_X8_readPoints_115 at h
                  replace h := zk_lt h
                  obtain ⟨cv_32, ce147, h⟩ := h
                  subst ce147
                  replace h := zk_o2 h
                  obtain ⟨cr_33, cu_34, ch148, h⟩ := h
                  obtain ⟨cq149, cq150⟩ := cb_acceptP (ck10).1 ch148
                  replace cq149 := cq149.symm
                  subst cq149
                  replace cq150 := cq150.symm
                  subst cq150
                  replace h := zk_t (by decide) h
                  unfold B_X8_readPoints_139 at h
                  replace h := zk_lt h
                  obtain ⟨cv_37, ce151, h⟩ := h
                  subst ce151
                  replace h := zk_lt h
                  obtain ⟨cv_38, ce152, h⟩ := h
                  subst ce152
                  have hroom := CG_room hG (by first | omega | decide) ck40
                  replace k := zk_f (by rw [i32_le, z32_0]; omega) k
                  replace k := zk_o2 k
                  obtain ⟨mr_35, mu_36, mh285, k⟩ := k
                  rcases mb_isNext (n := 59) hT hR hp (by decide) mh285 with ⟨mk286, mq288, mq289, mk287⟩ | ⟨mk286, _, _⟩
                  · replace mq288 := mq288.symm
                    subst mq288
                    replace mq289 := mq289.symm
                    subst mq289
                    have mk287a := mk287.1
                    replace k := zk_f (by decide) k
                    replace k := zk_o3 k
                    obtain ⟨mu_39, mu_40, mu_41, mh290, k⟩ := k
                    unfold f_X12_readPoint at mh290
                    unfold B_X12_readPoint_0 at mh290
                    obtain ⟨mr_1, mu_2, mu_3, mh291, mh290⟩ := zk_o3 mh290
                    rcases mb_number2 (m := 32) hT hR hf mk287 (by decide) mh291 with ⟨mk292, mk293, mq295, mq296, mq297, mk294⟩ | ⟨mk292, mk293, _, _, _, mk294⟩ | ⟨mk292, _, _, _⟩
                    · replace mq295 := mq295.symm
                      subst mq295
                      replace mq296 := mq296.symm
                      subst mq296
                      replace mq297 := mq297.symm
                      subst mq297
                      have mk294a := mk294.1
                      have mk294b := nmv_b2 (ts := ts) (tb := tb) (at_ + 1)
                      have mh290 := zk_t (by rw [i32_lt, z32_0]; omega) mh290
                      obtain ⟨_, mh290⟩ := zk_gd mh290
                      have mh290 := zk_t (PI_le hI hx (by omega) ck40) mh290
                      obtain ⟨mr_8, mu_9, mh298, mh290⟩ := zk_o2 mh290
                      obtain mk299 := mb_look hT hR mk294 mh298
                      have mh290 := zk_f (fun z => absurd ((BR_E (n := 43) mk299 (by decide)).mp z) (by omega)) mh290
                      obtain ⟨mr_12, mu_13, mh300, mh290⟩ := zk_o2 mh290
                      obtain mk301 := mb_look hT hR mk294 mh300
                      have mh290 := zk_f (fun z => absurd ((BR_E (n := 45) mk301 (by decide)).mp z) (by omega)) mh290
                      obtain ⟨mu_16, mh302, mh290⟩ := zk_o1 mh290
                      obtain mq303 := mb_wrongN hf mh302
                      replace mq303 := mq303.symm
                      subst mq303
                      simp only [Option.some.injEq, Prod.mk.injEq] at mh290
                      obtain ⟨rfl, rfl, rfl⟩ := mh290
                      first
                      | (exfalso; omega)
                      | (obtain ⟨e7, e7b⟩ := fm_83 (mk294).1 k
                         have e8 := fq_ptsG (mk294).1 h
                         exact Or.inl ⟨by rw [e8]; exact (mk294).1, by rw [e8]; exact e7, by rw [e7b]; exact RFR_rf⟩)
                    · exfalso; omega
                    · exact (zx_2 ck9 mk292).elim
                  · exact (mk286 ck2).elim
        · replace cq15 := cq15.symm
          subst cq15
          replace cq16 := cq16.symm
          subst cq16
          replace cq17 := cq17.symm
          subst cq17
          replace cq18 := cq18.symm
          subst cq18
          replace h := zk_f (by decide) h
          replace h := zk_o2 h
          obtain ⟨cr_12, cu_13, ch153, h⟩ := h
          rcases cb_hasFound (by first | omega | decide) ch153 with ⟨ck154, cq155⟩ | ⟨ck154, cq156⟩
          · replace cq155 := cq155.symm
            subst cq155
            replace h := zk_f (by decide) h
            unfold B_X8_readPoints_42 at h
            unfold B_X8_readPoints_43 at h
            replace h := zk_o1 h
            obtain ⟨cu_16, ch157, h⟩ := h
            obtain cq158 := cb_judgeP (ck3).1 ch157
            replace cq158 := cq158.symm
            subst cq158
            replace h := zk_lt h
            obtain ⟨cv_18, ce159, h⟩ := h
            subst ce159
            replace h := zk_o2 h
            obtain ⟨cr_19, cu_20, ch160, h⟩ := h
            obtain ⟨cq161, cq162⟩ := cb_acceptP (ck3).1 ch160
            replace cq161 := cq161.symm
            subst cq161
            replace cq162 := cq162.symm
            subst cq162
            replace h := zk_t (by decide) h
            replace h := zk_o2 h
            obtain ⟨cu_23, cu_24, ch163, h⟩ := h
            obtain ⟨cq164, cq165⟩ := cb_expectP (ck3).1 ch163
            replace cq164 := cq164.symm
            subst cq164
            replace cq165 := cq165.symm
            subst cq165
            replace h := zk_lt h
            obtain ⟨cv_26, ce166, h⟩ := h
            subst ce166
            unfold B_X8_readPoints_95 at h
            replace h := zk_o2 h
            obtain ⟨cr_28, cu_29, ch167, h⟩ := h
            obtain ⟨cq168, cq169⟩ := cb_acceptP (ck3).1 ch167
            replace cq168 := cq168.symm
            subst cq168
            replace cq169 := cq169.symm
            subst cq169
            replace h := zk_t (by decide) h
            unfold B_X8_readPoints_115 at h
            replace h := zk_lt h
            obtain ⟨cv_32, ce170, h⟩ := h
            subst ce170
            replace h := zk_o2 h
            obtain ⟨cr_33, cu_34, ch171, h⟩ := h
            obtain ⟨cq172, cq173⟩ := cb_acceptP (ck3).1 ch171
            replace cq172 := cq172.symm
            subst cq172
            replace cq173 := cq173.symm
            subst cq173
            replace h := zk_t (by decide) h
            unfold B_X8_readPoints_139 at h
            replace h := zk_lt h
            obtain ⟨cv_37, ce174, h⟩ := h
            subst ce174
            replace h := zk_lt h
            obtain ⟨cv_38, ce175, h⟩ := h
            subst ce175
            replace k := zk_f (by rw [i32_le, z32_0]; omega) k
            replace k := zk_o2 k
            obtain ⟨mr_35, mu_36, mh304, k⟩ := k
            rcases mb_isNext (n := 59) hT hR hp (by decide) mh304 with ⟨mk305, mq307, mq308, mk306⟩ | ⟨mk305, _, _⟩
            · replace mq307 := mq307.symm
              subst mq307
              replace mq308 := mq308.symm
              subst mq308
              have mk306a := mk306.1
              replace k := zk_f (by decide) k
              replace k := zk_o3 k
              obtain ⟨mu_39, mu_40, mu_41, mh309, k⟩ := k
              unfold f_X12_readPoint at mh309
              unfold B_X12_readPoint_0 at mh309
              obtain ⟨mr_1, mu_2, mu_3, mh310, mh309⟩ := zk_o3 mh309
              rcases mb_number2 (m := 32) hT hR hf mk306 (by decide) mh310 with ⟨mk311, mk312, _, _, _, mk313⟩ | ⟨mk311, mk312, _, _, _, mk313⟩ | ⟨mk311, mq314, mq315, mq316⟩
              · exact (zx_2 mk311 ck9).elim
              · exact (zx_2 mk311 ck9).elim
              · replace mq314 := mq314.symm
                subst mq314
                replace mq315 := mq315.symm
                subst mq315
                replace mq316 := mq316.symm
                subst mq316
                have mh309 := zk_f (by rw [i32_lt, z32_0]; omega) mh309
                simp only [Option.some.injEq, Prod.mk.injEq] at mh309
                obtain ⟨rfl, rfl, rfl⟩ := mh309
                first
                | (exfalso; omega)
                | (obtain ⟨e7, e7b⟩ := fm_83 (mk306).1 k
                   have e8 := fq_ptsG (mk306).1 h
                   exact Or.inl ⟨by rw [e8]; exact (mk306).1, by rw [e8]; exact e7, by rw [e7b]; exact RFR_rf⟩)
            · exact (mk305 ck2).elim
          · replace cq156 := cq156.symm
            subst cq156
            replace h := zk_t (by decide) h
            unfold B_X8_readPoints_43 at h
            replace h := zk_o1 h
            obtain ⟨cu_16, ch176, h⟩ := h
            obtain cq177 := cb_judgeP (ck3).1 ch176
            replace cq177 := cq177.symm
            subst cq177
            replace h := zk_lt h
            obtain ⟨cv_18, ce178, h⟩ := h
            subst ce178
            replace h := zk_o2 h
            obtain ⟨cr_19, cu_20, ch179, h⟩ := h
            obtain ⟨cq180, cq181⟩ := cb_acceptP (ck3).1 ch179
            replace cq180 := cq180.symm
            subst cq180
            replace cq181 := cq181.symm
            subst cq181
            replace h := zk_t (by decide) h
            replace h := zk_o2 h
            obtain ⟨cu_23, cu_24, ch182, h⟩ := h
            obtain ⟨cq183, cq184⟩ := cb_expectP (ck3).1 ch182
            replace cq183 := cq183.symm
            subst cq183
            replace cq184 := cq184.symm
            subst cq184
            replace h := zk_lt h
            obtain ⟨cv_26, ce185, h⟩ := h
            subst ce185
            unfold B_X8_readPoints_95 at h
            replace h := zk_o2 h
            obtain ⟨cr_28, cu_29, ch186, h⟩ := h
            obtain ⟨cq187, cq188⟩ := cb_acceptP (ck3).1 ch186
            replace cq187 := cq187.symm
            subst cq187
            replace cq188 := cq188.symm
            subst cq188
            replace h := zk_t (by decide) h
            unfold B_X8_readPoints_115 at h
            replace h := zk_lt h
            obtain ⟨cv_32, ce189, h⟩ := h
            subst ce189
            replace h := zk_o2 h
            obtain ⟨cr_33, cu_34, ch190, h⟩ := h
            obtain ⟨cq191, cq192⟩ := cb_acceptP (ck3).1 ch190
            replace cq191 := cq191.symm
            subst cq191
            replace cq192 := cq192.symm
            subst cq192
            replace h := zk_t (by decide) h
            unfold B_X8_readPoints_139 at h
            replace h := zk_lt h
            obtain ⟨cv_37, ce193, h⟩ := h
            subst ce193
            replace h := zk_lt h
            obtain ⟨cv_38, ce194, h⟩ := h
            subst ce194
            have hroom := CG_room hG (by first | omega | decide) ck154
            replace k := zk_f (by rw [i32_le, z32_0]; omega) k
            replace k := zk_o2 k
            obtain ⟨mr_35, mu_36, mh317, k⟩ := k
            rcases mb_isNext (n := 59) hT hR hp (by decide) mh317 with ⟨mk318, mq320, mq321, mk319⟩ | ⟨mk318, _, _⟩
            · replace mq320 := mq320.symm
              subst mq320
              replace mq321 := mq321.symm
              subst mq321
              have mk319a := mk319.1
              replace k := zk_f (by decide) k
              replace k := zk_o3 k
              obtain ⟨mu_39, mu_40, mu_41, mh322, k⟩ := k
              unfold f_X12_readPoint at mh322
              unfold B_X12_readPoint_0 at mh322
              obtain ⟨mr_1, mu_2, mu_3, mh323, mh322⟩ := zk_o3 mh322
              rcases mb_number2 (m := 32) hT hR hf mk319 (by decide) mh323 with ⟨mk324, mk325, _, _, _, mk326⟩ | ⟨mk324, mk325, _, _, _, mk326⟩ | ⟨mk324, mq327, mq328, mq329⟩
              · exact (zx_2 mk324 ck9).elim
              · exact (zx_2 mk324 ck9).elim
              · replace mq327 := mq327.symm
                subst mq327
                replace mq328 := mq328.symm
                subst mq328
                replace mq329 := mq329.symm
                subst mq329
                have mh322 := zk_f (by rw [i32_lt, z32_0]; omega) mh322
                simp only [Option.some.injEq, Prod.mk.injEq] at mh322
                obtain ⟨rfl, rfl, rfl⟩ := mh322
                first
                | (exfalso; omega)
                | (obtain ⟨e7, e7b⟩ := fm_83 (mk319).1 k
                   have e8 := fq_ptsG (mk319).1 h
                   exact Or.inl ⟨by rw [e8]; exact (mk319).1, by rw [e8]; exact e7, by rw [e7b]; exact RFR_rf⟩)
            · exact (mk318 ck2).elim
      · replace cq6 := cq6.symm
        subst cq6
        replace cq7 := cq7.symm
        subst cq7
        replace h := zk_t (by decide) h
        replace k := zk_f (by rw [i32_le, z32_0]; omega) k
        replace k := zk_o2 k
        obtain ⟨mr_35, mu_36, mh330, k⟩ := k
        rcases mb_isNext (n := 59) hT hR hp (by decide) mh330 with ⟨mk331, _, _, mk332⟩ | ⟨mk331, mq333, mq334⟩
        · exact (ck2 mk331).elim
        · replace mq333 := mq333.symm
          subst mq333
          replace mq334 := mq334.symm
          subst mq334
          replace k := zk_t (by decide) k
          replace h := Option.some.inj h
          rw [← h]
          first | (exfalso; omega) | exact Or.inr ⟨rfl, hp, mod_pointIs, hI, FP_rf, _, k⟩
