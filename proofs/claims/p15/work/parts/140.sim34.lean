
theorem bw_0 : ∀ y : Fin 8, bt 0 (Int32.ofNat y.val) = 0 := by decide +kernel
set_option maxHeartbeats 4000000 in
set_option maxRecDepth 20000 in
theorem lh_eq {mod_code : Int32} {court_shoeCount : Int32} {mod_claims : Int32} {ts : Int32} {court_suitCount : Int32} {mod_doneMany : Int32} {mod_undoneMany : Int32} {mod_isBoth : Int32} {mod_wished : Int32} {mod_bestMany : Int32} {mod_bestRow : Int32} {mod_ringDigits : Int32} {mod_traces : Int32} {court_claimCount : Int32} {inq_day : Int32} {inq_land : Int32} {inq_shoeLeftOut : Int32} {court_laws : Nat → Option Nat} {inq_names : Nat → Int32} {L_n : Nat → Nat} {L_code : Nat → Nat → Int32} {inq_stack : Nat → Int32} {n : Nat} {x1 x2 r2 : Int32} {hh g o l : Int32} {fs sk ac wi lm te le b1 b2 : Nat → Int32} {R : Int32 × Int32 × (Nat → Int32) × (Nat → Int32)} (hl : 0 ≤ x1.toInt ∧ x1.toInt ≤ 7) (h2 : 0 ≤ x2.toInt ∧ x2.toInt ≤ 7) (hL : ∀ p, p < 32 → LAWR L_code L_n ac wi lm te le p) (h : f_X3_landsHeeded n x1 court_shoeCount court_claimCount court_suitCount court_laws inq_day inq_land inq_shoeLeftOut inq_names inq_stack L_n L_code = some R) (k : f_X12_heeds x1 x2 mod_code court_shoeCount mod_claims ts hh g court_suitCount mod_doneMany mod_undoneMany o l mod_isBoth mod_wished mod_bestMany mod_bestRow mod_ringDigits mod_traces ac wi lm te le fs sk = some (r2, b1, b2)) : (0 ≤ R.1.toInt ∧ R.1.toInt < 256) ∧ (bt R.1 x2 = 0 ↔ r2 = 0) ∧ (r2 = 0 ∨ r2 = 1) := by
  unfold f_X3_landsHeeded B_X3_landsHeeded_0 at h
  replace h := zk_o1 h
  obtain ⟨a, ha, h⟩ := h
  replace h := zk_lt h
  obtain ⟨_, rfl, h⟩ := h
  replace h := zk_lt h
  obtain ⟨_, rfl, h⟩ := h
  replace h := zk_lt h
  obtain ⟨_, rfl, h⟩ := h
  have e3 : (3 : Int32).toNatClampNeg = 3 := by decide
  obtain ⟨q1, q2⟩ := lh_loop _ _ _ _ _ _ (by decide) (by decide) (by decide) (by decide) (fun i hi c => by
    unfold HF
    refine upd_c rfl (Eq.trans ?_ (upd_n (by rw [e3]; exact c)).symm)
    exact upd_c rfl (upd_c rfl (fc_fill ha i hi))) h
  obtain ⟨j, hj⟩ : ∃ j : Nat, x2.toInt = (j : Int) := ⟨x2.toInt.toNat, by omega⟩
  have ej := i32_o hj
  obtain ⟨m1, m2, m3, m4, m5, m6, m7⟩ := (q2 j (by omega)).2 (by rw [z32_0]; omega)
  rw [← ej] at m5 m7
  obtain ⟨t1, t2⟩ := he_eq m5 hl hL m6 k
  have b0 : bt 0 x2 = 0 := by
    rw [ej]
    exact bw_0 ⟨j, by omega⟩
  exact ⟨q1, ⟨fun z => t1.mp (m7.mp z).1, fun z => m7.mpr ⟨t1.mpr z, b0⟩⟩, t2⟩
theorem LLC_cp {cd cd2 : Nat → Int32} : ∀ (Ls : List (List (Int32 × Int32) × List (Int32 × Int32))) (a e : Nat), LLC cd a Ls e → (∀ k, k < e → cd2 k = cd k) → LLC cd2 a Ls e
  | [], _, _, h, _ => h
  | x :: t, a, e, h, hf => by
    have q := LLC_le t _ e h.2
    exact ⟨LNC_fr h.1 (fun k _ k2 => hf k (by omega)), LLC_cp t _ e h.2 hf⟩
theorem LAWR_g {Lc Lc2 : Nat → Nat → Int32} {Ln Ln2 : Nat → Nat} {ac wi lm te le ac2 wi2 lm2 te2 le2 : Nat → Int32} {p : Nat} (h : LAWR Lc Ln ac wi lm te le p) (hc : Lc2 p = Lc p) (hn : Ln2 p = Ln p) (h1 : ∀ k, 130 * p ≤ k → k < 130 * p + 130 → ac2 k = ac k ∧ wi2 k = wi k) (h2 : ∀ i, 61 * p ≤ i → i < 61 * p + 61 → te2 i = te i ∧ le2 i = le i) (h3 : lm2 p = lm p) : LAWR Lc2 Ln2 ac2 wi2 lm2 te2 le2 p := by
  obtain ⟨Ls, e, a1, a2, a3, a4⟩ := h
  refine ⟨Ls, e, a1, by rw [hc, hn]; exact a2, by rw [hn]; exact a3, ?_⟩
  rcases a4 with ⟨b1, b2⟩ | ⟨b1, b2, b3, b4, b5⟩
  · exact Or.inl ⟨by rw [h3]; exact b1, b2⟩
  · exact Or.inr ⟨by rw [h3]; exact b1, b2, b3, b4, LLM_cp Ls _ _ _ _ b5 (fun k hk => h1 _ (by omega) (by omega)) (fun i hi => h2 _ (by omega) (by omega))⟩
theorem LAWR_B {Lc : Nat → Nat → Int32} {Ln : Nat → Nat} {ac wi lm te le ac2 wi2 lm2 te2 le2 : Nat → Int32} (h : ∀ p, p < 32 → LAWR Lc Ln ac wi lm te le p) (f : FRB ac wi lm te le ac2 wi2 lm2 te2 le2) : ∀ p, p < 32 → LAWR Lc Ln ac2 wi2 lm2 te2 le2 p := fun p hp => LAWR_g (h p hp) rfl rfl (fun k _ k2 => f.1 k (by omega)) (fun i _ i2 => f.2.1 i (by omega)) (f.2.2 p hp)
theorem LAWR_U {Lc : Nat → Nat → Int32} {Ln : Nat → Nat} {ac wi lm te le ac2 wi2 lm2 te2 le2 : Nat → Int32} {P n : Nat} {cd : Nat → Int32} {Ls : List (List (Int32 × Int32) × List (Int32 × Int32))} {e : Nat} (h : ∀ p, p < 32 → LAWR Lc Ln ac wi lm te le p) (f : FRL P ac wi lm te le ac2 wi2 lm2 te2 le2) (hS : ∀ ln ∈ Ls, LNS ln) (hC : LLC cd 0 Ls n) (hn : n ≤ 121) (k1 : 1 ≤ Ls.length) (k2 : Ls.length ≤ 61) (ke : e ≤ 120) (hM : LLM ac2 wi2 te2 le2 (130 * P) (61 * P) 0 Ls e) (hl : (lm2 P).toInt = (Ls.length : Int)) : ∀ p, p < 32 → LAWR (va_up Lc P (va_cpy cd (fun _ => 0) 0 0 n)) (va_up Ln P n) ac2 wi2 lm2 te2 le2 p := by
  intro p hp
  by_cases c : p = P
  · subst c
    have e1 : va_up Lc p (va_cpy cd (fun _ => 0) 0 0 n) p = va_cpy cd (fun _ => 0) 0 0 n := if_pos rfl
    have e2 : va_up Ln p n p = n := if_pos rfl
    refine ⟨Ls, e, hS, ?_, by rw [e2]; exact hn, Or.inr ⟨hl, k1, k2, ke, hM⟩⟩
    rw [e1, e2]
    refine LLC_cp Ls 0 n hC (fun k hk => ?_)
    unfold va_cpy
    rw [if_pos ⟨Nat.zero_le k, by omega⟩, Nat.zero_add, Nat.sub_zero]
  · exact LAWR_g (h p hp) (if_neg c) (if_neg c) (fun k q1 q2 => f.1 k (by omega) (by omega)) (fun i q1 q2 => f.2.1 i (by omega) (by omega)) (f.2.2 p hp c)
theorem lw_n1 {f : Int32} (h : 0 ≤ f.toInt) (z : (-100 : Int32) - f = 1) : False := by
  have e := congrArg Int32.toInt z
  have hl := Int32.toInt_lt f
  rw [Int32.toInt_sub, show (-100 : Int32).toInt = -100 from by decide, show (1 : Int32).toInt = 1 from by decide, Int.bmod_def] at e
  split at e <;> omega
def tkb (x : Int32 × Int32) : Bool := (decide (x.1 = 1) && decide (0 ≤ x.2.toInt) && decide (x.2.toInt ≤ 9999)) || (decide (x.1 = 2) && decide (0 ≤ x.2.toInt) && decide (x.2.toInt ≤ 10)) || ((decide (x.1 = 124) || decide (x.1 = 38) || decide (x.1 = 60) || decide (x.1 = 61)) && decide (x.2 = 0))
theorem tkb_v {x : Int32 × Int32} (h : tkb x = true) : TKV x := by
  unfold tkb at h
  simp only [Bool.or_eq_true, Bool.and_eq_true, decide_eq_true_eq] at h
  rcases h with (⟨⟨h1, h2⟩, h3⟩ | ⟨⟨h1, h2⟩, h3⟩) | ⟨h1, h2⟩
  · exact Or.inl ⟨h1, h2, h3⟩
  · exact Or.inr (Or.inl ⟨h1, h2, h3⟩)
  · refine Or.inr (Or.inr ⟨?_, h2⟩)
    rcases h1 with ((h1 | h1) | h1) | h1
    · exact Or.inr (Or.inr (Or.inl h1))
    · exact Or.inr (Or.inr (Or.inr (Or.inl h1)))
    · exact Or.inr (Or.inr (Or.inr (Or.inr (Or.inl h1))))
    · exact Or.inr (Or.inr (Or.inr (Or.inr (Or.inr (Or.inl h1)))))
def ctb (cd : Nat → Int32) : Nat → List (Int32 × Int32) → Bool
  | _, [] => true
  | a, x :: t => decide (cd a = enc x) && tkb x && ctb cd (a + 1) t
theorem CTk_c {cd : Nat → Int32} {a : Nat} {x : Int32 × Int32} {t : List (Int32 × Int32)} (h1 : cd a = enc x) (h2 : TKV x) (h3 : CTk cd (a + 1) t) : CTk cd a (x :: t) := by
  intro k y hk
  cases k with
  | zero =>
    have hk : some x = some y := hk
    have hk := Option.some.inj hk
    subst hk
    exact ⟨h1, h2⟩
  | succ k =>
    have q := h3 k y hk
    have e : a + 1 + k = a + (k + 1) := by omega
    rw [e] at q
    exact q
theorem ctb_k {cd : Nat → Int32} : ∀ (L : List (Int32 × Int32)) (a : Nat), ctb cd a L = true → CTk cd a L
  | [], _, _ => CTk_nil
  | x :: t, a, h => by
    have h : (decide (cd a = enc x) && tkb x && ctb cd (a + 1) t) = true := h
    simp only [Bool.and_eq_true, decide_eq_true_eq] at h
    exact CTk_c h.1.1 (tkb_v h.1.2) (ctb_k t (a + 1) h.2)
def lub (u : Nat) (cd : Nat → Int32) (n : Nat) : Bool := match LU u with
  | [ln] => decide (ln.1.length = 0) && ctb cd 0 ln.2 && decide (cd ln.2.length = 2) && decide (n = ln.2.length + 1) && decide (n ≤ 121)
  | _ => false
theorem lut_0 : TSG 36 ([((2 : Int32), (5 : Int32)), ((2 : Int32), (0 : Int32)), ((1 : Int32), (1 : Int32)), ((61 : Int32), (0 : Int32)), ((38 : Int32), (0 : Int32)), ((2 : Int32), (5 : Int32)), ((2 : Int32), (0 : Int32)), ((1 : Int32), (6 : Int32)), ((61 : Int32), (0 : Int32)), ((38 : Int32), (0 : Int32)), ((124 : Int32), (0 : Int32)), ((2 : Int32), (5 : Int32)), ((2 : Int32), (0 : Int32)), ((1 : Int32), (3 : Int32)), ((61 : Int32), (0 : Int32)), ((38 : Int32), (0 : Int32)), ((124 : Int32), (0 : Int32))] : List (Int32 × Int32)) := TSG_le (H := 4) (TSG_bin (H1 := 4) (H2 := 3) (H := 4) (x := ((124 : Int32), (0 : Int32))) (TSG_bin (H1 := 3) (H2 := 3) (H := 4) (x := ((124 : Int32), (0 : Int32))) (TSG_bin (H1 := 1) (H2 := 2) (H := 3) (x := ((38 : Int32), (0 : Int32))) (TSG_1 (H := 1) (x := ((2 : Int32), (5 : Int32))) (Or.inr rfl) (Nat.le_refl 1)) (TSG_bin (H1 := 1) (H2 := 1) (H := 2) (x := ((61 : Int32), (0 : Int32))) (TSG_1 (H := 1) (x := ((2 : Int32), (0 : Int32))) (Or.inr rfl) (Nat.le_refl 1)) (TSG_1 (H := 1) (x := ((1 : Int32), (1 : Int32))) (Or.inl rfl) (Nat.le_refl 1)) (by decide) (by decide) (by decide)) (by decide) (by decide) (by decide)) (TSG_bin (H1 := 1) (H2 := 2) (H := 3) (x := ((38 : Int32), (0 : Int32))) (TSG_1 (H := 1) (x := ((2 : Int32), (5 : Int32))) (Or.inr rfl) (Nat.le_refl 1)) (TSG_bin (H1 := 1) (H2 := 1) (H := 2) (x := ((61 : Int32), (0 : Int32))) (TSG_1 (H := 1) (x := ((2 : Int32), (0 : Int32))) (Or.inr rfl) (Nat.le_refl 1)) (TSG_1 (H := 1) (x := ((1 : Int32), (6 : Int32))) (Or.inl rfl) (Nat.le_refl 1)) (by decide) (by decide) (by decide)) (by decide) (by decide) (by decide)) (by decide) (by decide) (by decide)) (TSG_bin (H1 := 1) (H2 := 2) (H := 3) (x := ((38 : Int32), (0 : Int32))) (TSG_1 (H := 1) (x := ((2 : Int32), (5 : Int32))) (Or.inr rfl) (Nat.le_refl 1)) (TSG_bin (H1 := 1) (H2 := 1) (H := 2) (x := ((61 : Int32), (0 : Int32))) (TSG_1 (H := 1) (x := ((2 : Int32), (0 : Int32))) (Or.inr rfl) (Nat.le_refl 1)) (TSG_1 (H := 1) (x := ((1 : Int32), (3 : Int32))) (Or.inl rfl) (Nat.le_refl 1)) (by decide) (by decide) (by decide)) (by decide) (by decide) (by decide)) (by decide) (by decide) (by decide)) (by decide)
theorem lus_0 : ∀ ln ∈ LU 0, LNS ln := fun ln hm => by
  have hm : ln ∈ [(([] : List (Int32 × Int32)), ([((2 : Int32), (5 : Int32)), ((2 : Int32), (0 : Int32)), ((1 : Int32), (1 : Int32)), ((61 : Int32), (0 : Int32)), ((38 : Int32), (0 : Int32)), ((2 : Int32), (5 : Int32)), ((2 : Int32), (0 : Int32)), ((1 : Int32), (6 : Int32)), ((61 : Int32), (0 : Int32)), ((38 : Int32), (0 : Int32)), ((124 : Int32), (0 : Int32)), ((2 : Int32), (5 : Int32)), ((2 : Int32), (0 : Int32)), ((1 : Int32), (3 : Int32)), ((61 : Int32), (0 : Int32)), ((38 : Int32), (0 : Int32)), ((124 : Int32), (0 : Int32))] : List (Int32 × Int32)))] := hm
  have e := List.mem_singleton.mp hm
  subst e
  exact ⟨lut_0, Or.inl rfl⟩
theorem lut_1 : TSG 36 ([((2 : Int32), (9 : Int32)), ((2 : Int32), (10 : Int32)), ((38 : Int32), (0 : Int32))] : List (Int32 × Int32)) := TSG_le (H := 2) (TSG_bin (H1 := 1) (H2 := 1) (H := 2) (x := ((38 : Int32), (0 : Int32))) (TSG_1 (H := 1) (x := ((2 : Int32), (9 : Int32))) (Or.inr rfl) (Nat.le_refl 1)) (TSG_1 (H := 1) (x := ((2 : Int32), (10 : Int32))) (Or.inr rfl) (Nat.le_refl 1)) (by decide) (by decide) (by decide)) (by decide)
theorem lus_1 : ∀ ln ∈ LU 1, LNS ln := fun ln hm => by
  have hm : ln ∈ [(([] : List (Int32 × Int32)), ([((2 : Int32), (9 : Int32)), ((2 : Int32), (10 : Int32)), ((38 : Int32), (0 : Int32))] : List (Int32 × Int32)))] := hm
  have e := List.mem_singleton.mp hm
  subst e
  exact ⟨lut_1, Or.inl rfl⟩
theorem lut_2 : TSG 36 ([((2 : Int32), (10 : Int32)), ((1 : Int32), (3 : Int32)), ((60 : Int32), (0 : Int32))] : List (Int32 × Int32)) := TSG_le (H := 2) (TSG_bin (H1 := 1) (H2 := 1) (H := 2) (x := ((60 : Int32), (0 : Int32))) (TSG_1 (H := 1) (x := ((2 : Int32), (10 : Int32))) (Or.inr rfl) (Nat.le_refl 1)) (TSG_1 (H := 1) (x := ((1 : Int32), (3 : Int32))) (Or.inl rfl) (Nat.le_refl 1)) (by decide) (by decide) (by decide)) (by decide)
theorem lus_2 : ∀ ln ∈ LU 2, LNS ln := fun ln hm => by
  have hm : ln ∈ [(([] : List (Int32 × Int32)), ([((2 : Int32), (10 : Int32)), ((1 : Int32), (3 : Int32)), ((60 : Int32), (0 : Int32))] : List (Int32 × Int32)))] := hm
  have e := List.mem_singleton.mp hm
  subst e
  exact ⟨lut_2, Or.inl rfl⟩
theorem lut_3 : TSG 36 ([((1 : Int32), (1 : Int32))] : List (Int32 × Int32)) := TSG_le (H := 1) (TSG_1 (H := 1) (x := ((1 : Int32), (1 : Int32))) (Or.inl rfl) (Nat.le_refl 1)) (by decide)
theorem lus_3 : ∀ ln ∈ LU 3, LNS ln := fun ln hm => by
  have hm : ln ∈ [(([] : List (Int32 × Int32)), ([((1 : Int32), (1 : Int32))] : List (Int32 × Int32)))] := hm
  have e := List.mem_singleton.mp hm
  subst e
  exact ⟨lut_3, Or.inl rfl⟩
theorem lub_c {u n : Nat} {cd : Nat → Int32} (h : lub u cd n = true) : LLC cd 0 (LU u) n ∧ n ≤ 121 := by
  unfold lub at h
  match e : LU u with
  | [] =>
    rw [e] at h
    cases h
  | [ln] =>
    rw [e] at h
    simp only [Bool.and_eq_true, decide_eq_true_eq] at h
    obtain ⟨⟨⟨⟨h1, h2⟩, h3⟩, h4⟩, h5⟩ := h
    refine ⟨⟨Or.inl ⟨List.length_eq_zero_iff.mp h1, ctb_k _ 0 h2, by rw [Nat.zero_add]; exact h3⟩, ?_⟩, h5⟩
    show 0 + lnl ln = n
    unfold lnl
    rw [if_pos h1, h4, Nat.zero_add]
  | _ :: _ :: _ =>
    rw [e] at h
    cases h
theorem LAWR_0 {Lc : Nat → Nat → Int32} {Ln : Nat → Nat} {ac wi lm te le : Nat → Int32} {p u n : Nat} {cd : Nat → Int32} (hu : p / 8 = u) (hc : Lc p = va_cpy cd (fun _ => 0) 0 0 n) (hn : Ln p = n) (h : lub u cd n = true) (hS : ∀ ln ∈ LU u, LNS ln) (h0 : (lm p).toInt = 0) : LAWR Lc Ln ac wi lm te le p := by
  obtain ⟨h1, h2⟩ := lub_c h
  refine ⟨LU u, 0, hS, ?_, by rw [hn]; exact h2, Or.inl ⟨h0, by rw [hu]⟩⟩
  rw [hc, hn]
  refine LLC_cp _ 0 n h1 (fun k hk => ?_)
  unfold va_cpy
  rw [if_pos ⟨Nat.zero_le k, by omega⟩, Nat.zero_add, Nat.sub_zero]
