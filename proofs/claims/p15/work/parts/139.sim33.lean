
set_option maxHeartbeats 4000000 in
set_option maxRecDepth 20000 in
theorem c1_146 {mod_code : Int32} {court_shoeCount : Int32} {mod_claims : Int32} {court_suitCount : Int32} {mod_doneMany : Int32} {mod_undoneMany : Int32} {mod_isBoth : Int32} {mod_wished : Int32} {mod_bestMany : Int32} {mod_bestRow : Int32} {mod_ringDigits : Int32} {mod_traces : Int32} {tm : Nat → Int32}  : ∀ (n : Nat) (x2 x3 ts he g o l : Int32) (ac wi lm te le : Nat → Int32) (S : Int32 × Int32 × Int32 × Int32 × Int32 × Int32 × (Nat → Int32) × (Nat → Int32) × (Nat → Int32) × (Nat → Int32) × (Nat → Int32)), (G_X12_law mod_code court_shoeCount mod_claims court_suitCount mod_doneMany mod_undoneMany mod_isBoth mod_wished mod_bestMany mod_bestRow mod_ringDigits mod_traces tm n).2.1 x2 x3 ts he g o l ac wi lm te le = some S → S.1 = 1 := by
  intro n
  induction n with
  | zero =>
    intro x2 x3 ts he g o l ac wi lm te le S h
    cases h
  | succ n ih =>
    intro x2 x3 ts he g o l ac wi lm te le S h
    replace h : B_X12_law_146 (G_X12_law mod_code court_shoeCount mod_claims court_suitCount mod_doneMany mod_undoneMany mod_isBoth mod_wished mod_bestMany mod_bestRow mod_ringDigits mod_traces tm n).1 (G_X12_law mod_code court_shoeCount mod_claims court_suitCount mod_doneMany mod_undoneMany mod_isBoth mod_wished mod_bestMany mod_bestRow mod_ringDigits mod_traces tm n).2.1 (G_X12_law mod_code court_shoeCount mod_claims court_suitCount mod_doneMany mod_undoneMany mod_isBoth mod_wished mod_bestMany mod_bestRow mod_ringDigits mod_traces tm n).2.2 mod_code court_shoeCount mod_claims court_suitCount mod_doneMany mod_undoneMany mod_isBoth mod_wished mod_bestMany mod_bestRow mod_ringDigits mod_traces tm x2 x3 ts he g o l ac wi lm te le = some S := h
    unfold B_X12_law_146 at h
    by_cases cc1 : l ≤ x3
    · replace h := zk_t cc1 h
      have cc1n := cc1
      (try simp only [i32_lt, i32_le, i32_e, z32_0, z32_1] at cc1n)
      replace h := zk_lt h
      obtain ⟨cv2, ce3, h⟩ := h
      subst ce3
      replace h := zk_gd h
      obtain ⟨_, h⟩ := h
      replace h := zk_lt h
      obtain ⟨cv4, ce5, h⟩ := h
      subst ce5
      exact c1_219 n _ _ _ _ _ _ _ _ _ _ _ _ _ h
    · replace h := zk_f cc1 h
      have cc1n := cc1
      (try simp only [i32_lt, i32_le, i32_e, z32_0, z32_1] at cc1n)
      replace h := zk_gd h
      obtain ⟨_, h⟩ := h
      replace h := zk_lt h
      obtain ⟨cv6, ce7, h⟩ := h
      subst ce7
      replace h := zk_gd h
      obtain ⟨_, h⟩ := h
      replace h := zk_lt h
      obtain ⟨cv8, ce9, h⟩ := h
      subst ce9
      replace h := zk_gd h
      obtain ⟨_, h⟩ := h
      replace h := zk_lt h
      obtain ⟨cv10, ce11, h⟩ := h
      subst ce11
      replace h := zk_gd h
      obtain ⟨_, h⟩ := h
      replace h := zk_lt h
      obtain ⟨cv12, ce13, h⟩ := h
      subst ce13
      replace h := zk_lt h
      obtain ⟨cv14, ce15, h⟩ := h
      subst ce15
      exact ih _ _ _ _ _ _ _ _ _ _ _ _ _ h
theorem FRB_rf {ac wi lm te le : Nat → Int32} : FRB ac wi lm te le ac wi lm te le := ⟨fun _ _ => ⟨rfl, rfl⟩, fun _ _ => ⟨rfl, rfl⟩, fun _ _ => rfl⟩
set_option maxHeartbeats 4000000 in
set_option maxRecDepth 20000 in
theorem fr_111 {mod_code : Int32} {court_shoeCount : Int32} {mod_claims : Int32} {ts : Int32} {court_suitCount : Int32} {mod_doneMany : Int32} {mod_undoneMany : Int32} {mod_isBoth : Int32} {mod_wished : Int32} {mod_bestMany : Int32} {mod_bestRow : Int32} {mod_ringDigits : Int32} {mod_traces : Int32} {tm : Nat → Int32} {n : Nat} {x1 : Int32} {he g o l : Int32} {ac wi lm te le : Nat → Int32} {S : Int32 × Int32 × Int32 × Int32 × Int32 × Int32 × (Nat → Int32) × (Nat → Int32) × (Nat → Int32) × (Nat → Int32) × (Nat → Int32)} (hn : ¬ S.1 = 1) (h : B_X12_law_111 (G_X12_law mod_code court_shoeCount mod_claims court_suitCount mod_doneMany mod_undoneMany mod_isBoth mod_wished mod_bestMany mod_bestRow mod_ringDigits mod_traces tm n).1 (G_X12_law mod_code court_shoeCount mod_claims court_suitCount mod_doneMany mod_undoneMany mod_isBoth mod_wished mod_bestMany mod_bestRow mod_ringDigits mod_traces tm n).2.1 (G_X12_law mod_code court_shoeCount mod_claims court_suitCount mod_doneMany mod_undoneMany mod_isBoth mod_wished mod_bestMany mod_bestRow mod_ringDigits mod_traces tm n).2.2 mod_code court_shoeCount mod_claims court_suitCount mod_doneMany mod_undoneMany mod_isBoth mod_wished mod_bestMany mod_bestRow mod_ringDigits mod_traces tm x1 ts he g o l ac wi lm te le = some S) : FRB ac wi lm te le S.2.2.2.2.2.2.1 S.2.2.2.2.2.2.2.1 S.2.2.2.2.2.2.2.2.1 S.2.2.2.2.2.2.2.2.2.1 S.2.2.2.2.2.2.2.2.2.2 := by
  unfold B_X12_law_111 at h
  by_cases c : g < 0
  · replace h := zk_t c h
    replace h := zk_lt h
    obtain ⟨v, _, h⟩ := h
    exact absurd (c1_146 _ _ _ _ _ _ _ _ _ _ _ _ _ _ h) hn
  · rw [← Option.some.inj (zk_f c h)]
    exact FRB_rf
set_option maxHeartbeats 4000000 in
set_option maxRecDepth 20000 in
theorem fr_89 {mod_code : Int32} {court_shoeCount : Int32} {mod_claims : Int32} {ts : Int32} {court_suitCount : Int32} {mod_doneMany : Int32} {mod_undoneMany : Int32} {mod_isBoth : Int32} {mod_wished : Int32} {mod_bestMany : Int32} {mod_bestRow : Int32} {mod_ringDigits : Int32} {mod_traces : Int32} {tm : Nat → Int32} {n : Nat} {x1 : Int32} {he g o l : Int32} {ac wi lm te le : Nat → Int32} {S : Int32 × Int32 × Int32 × Int32 × Int32 × Int32 × (Nat → Int32) × (Nat → Int32) × (Nat → Int32) × (Nat → Int32) × (Nat → Int32)} (hn : ¬ S.1 = 1) (h : B_X12_law_89 (G_X12_law mod_code court_shoeCount mod_claims court_suitCount mod_doneMany mod_undoneMany mod_isBoth mod_wished mod_bestMany mod_bestRow mod_ringDigits mod_traces tm n).1 (G_X12_law mod_code court_shoeCount mod_claims court_suitCount mod_doneMany mod_undoneMany mod_isBoth mod_wished mod_bestMany mod_bestRow mod_ringDigits mod_traces tm n).2.1 (G_X12_law mod_code court_shoeCount mod_claims court_suitCount mod_doneMany mod_undoneMany mod_isBoth mod_wished mod_bestMany mod_bestRow mod_ringDigits mod_traces tm n).2.2 mod_code court_shoeCount mod_claims court_suitCount mod_doneMany mod_undoneMany mod_isBoth mod_wished mod_bestMany mod_bestRow mod_ringDigits mod_traces tm x1 ts he g o l ac wi lm te le = some S) : FRB ac wi lm te le S.2.2.2.2.2.2.1 S.2.2.2.2.2.2.2.1 S.2.2.2.2.2.2.2.2.1 S.2.2.2.2.2.2.2.2.2.1 S.2.2.2.2.2.2.2.2.2.2 := by
  unfold B_X12_law_89 at h
  by_cases c : 0 ≤ g
  · exact fr_111 hn (zk_t c h)
  · replace h := zk_f c h
    by_cases c2 : ts ≤ he
    · exact fr_111 hn (zk_t c2 h)
    · replace h := zk_f c2 h
      replace h := zk_o1 h
      obtain ⟨u, _, h⟩ := h
      exact fr_111 hn h
set_option maxHeartbeats 4000000 in
set_option maxRecDepth 20000 in
theorem fr_56 {mod_code : Int32} {court_shoeCount : Int32} {mod_claims : Int32} {ts : Int32} {court_suitCount : Int32} {mod_doneMany : Int32} {mod_undoneMany : Int32} {mod_isBoth : Int32} {mod_wished : Int32} {mod_bestMany : Int32} {mod_bestRow : Int32} {mod_ringDigits : Int32} {mod_traces : Int32} {tm : Nat → Int32} {x1 : Int32} : ∀ (n : Nat) (he g o l : Int32) (ac wi lm te le : Nat → Int32) (S : Int32 × Int32 × Int32 × Int32 × Int32 × Int32 × (Nat → Int32) × (Nat → Int32) × (Nat → Int32) × (Nat → Int32) × (Nat → Int32)), 0 ≤ l.toInt → 0 ≤ (lm 32).toInt → ¬ S.1 = 1 → (G_X12_law mod_code court_shoeCount mod_claims court_suitCount mod_doneMany mod_undoneMany mod_isBoth mod_wished mod_bestMany mod_bestRow mod_ringDigits mod_traces tm n).1 x1 ts he g o l ac wi lm te le = some S → FRB ac wi lm te le S.2.2.2.2.2.2.1 S.2.2.2.2.2.2.2.1 S.2.2.2.2.2.2.2.2.1 S.2.2.2.2.2.2.2.2.2.1 S.2.2.2.2.2.2.2.2.2.2 := by
  intro n
  induction n with
  | zero =>
    intro he g o l ac wi lm te le S _ _ _ h
    cases h
  | succ n ih =>
    intro he g o l ac wi lm te le S hl hm hn h
    replace h : B_X12_law_56 (G_X12_law mod_code court_shoeCount mod_claims court_suitCount mod_doneMany mod_undoneMany mod_isBoth mod_wished mod_bestMany mod_bestRow mod_ringDigits mod_traces tm n).1 (G_X12_law mod_code court_shoeCount mod_claims court_suitCount mod_doneMany mod_undoneMany mod_isBoth mod_wished mod_bestMany mod_bestRow mod_ringDigits mod_traces tm n).2.1 (G_X12_law mod_code court_shoeCount mod_claims court_suitCount mod_doneMany mod_undoneMany mod_isBoth mod_wished mod_bestMany mod_bestRow mod_ringDigits mod_traces tm n).2.2 mod_code court_shoeCount mod_claims court_suitCount mod_doneMany mod_undoneMany mod_isBoth mod_wished mod_bestMany mod_bestRow mod_ringDigits mod_traces tm x1 ts he g o l ac wi lm te le = some S := h
    unfold B_X12_law_56 at h
    by_cases c : 0 ≤ g
    · exact fr_89 hn (zk_t c h)
    · replace h := zk_f c h
      replace h := zk_o2 h
      obtain ⟨r19, w20, c1, h⟩ := h
      by_cases c2 : r19 = 59
      · replace h := zk_t c2 h
        replace h := zk_lt h
        obtain ⟨v23, rfl, h⟩ := h
        replace h := zk_o9 h
        obtain ⟨y1, y2, y3, y4, y5, y6, y7, y8, y9, b1, h⟩ := h
        obtain ⟨q1, q2, q3⟩ := fr_line hl hm b1
        exact FRB_tr q3 (ih _ _ _ _ _ _ _ _ _ S q1 q2 hn h)
      · exact fr_89 hn (zk_f c2 h)
set_option maxHeartbeats 4000000 in
set_option maxRecDepth 20000 in
theorem fr_law {mod_code : Int32} {court_shoeCount : Int32} {mod_claims : Int32} {ts : Int32} {court_suitCount : Int32} {mod_doneMany : Int32} {mod_undoneMany : Int32} {mod_isBoth : Int32} {mod_wished : Int32} {mod_bestMany : Int32} {mod_bestRow : Int32} {mod_ringDigits : Int32} {mod_traces : Int32} {tm : Nat → Int32} {n : Nat} {x1 : Int32} {he g o l : Int32} {ac wi lm te le : Nat → Int32} {S : Int32 × Int32 × Int32 × Int32 × Int32 × Int32 × (Nat → Int32) × (Nat → Int32) × (Nat → Int32) × (Nat → Int32) × (Nat → Int32)} (hn : ¬ S.1 = 1) (h : f_X12_law n x1 mod_code court_shoeCount mod_claims ts he g court_suitCount mod_doneMany mod_undoneMany o l mod_isBoth mod_wished mod_bestMany mod_bestRow mod_ringDigits mod_traces tm ac wi lm te le = some S) : FRB ac wi lm te le S.2.2.2.2.2.2.1 S.2.2.2.2.2.2.2.1 S.2.2.2.2.2.2.2.2.1 S.2.2.2.2.2.2.2.2.2.1 S.2.2.2.2.2.2.2.2.2.2 := by
  have e32 : (32 : Int32).toNatClampNeg = 32 := by decide
  unfold f_X12_law B_X12_law_0 at h
  by_cases c1 : x1 < 0
  · rw [← Option.some.inj (zk_t c1 h)]
    exact FRB_rf
  replace h := zk_f c1 h
  by_cases c2 : (3 : Int32) < x1 / (10 : Int32)
  · rw [← Option.some.inj (zk_t c2 h)]
    exact FRB_rf
  replace h := zk_f c2 h
  replace h := zk_o2 h
  obtain ⟨r3, w3, c3, h⟩ := h
  by_cases c4 : r3 = 0
  · rw [← Option.some.inj (zk_t c4 h)]
    exact FRB_rf
  replace h := zk_f c4 h
  replace h := zk_lt h
  obtain ⟨f7, e7, h⟩ := h
  rw [e32] at e7
  replace h := zk_o9 h
  obtain ⟨y1, y2, y3, y4, y5, y6, y7, y8, y9, b1, h⟩ := h
  obtain ⟨q1, q2, q3⟩ := fr_line (show 0 ≤ (0 : Int32).toInt by decide) (by rw [e7, upd_at rfl]; decide) b1
  have q := FRB_tr q3 (fr_56 _ _ _ _ _ _ _ _ _ _ S q1 q2 hn h)
  exact ⟨q.1, q.2.1, fun i hi => by rw [q.2.2 i hi, e7]; exact upd_n (by omega)⟩
theorem upd_c {f g : Nat → Int32} {k i : Nat} {v w : Int32} (hv : v = w) (h : f i = g i) : upd f k v i = upd g k w i := by
  subst hv
  unfold upd
  by_cases c : i = k
  · rw [if_pos c, if_pos c]
  · rw [if_neg c, if_neg c]
    exact h
set_option maxHeartbeats 4000000 in
set_option maxRecDepth 20000 in
theorem fc_loop  {v : Int32} : ∀ (n : Nat) (x2 x3 : Int32) (nm R : Nat → Int32), x3.toInt = 11 → 0 ≤ x2.toInt → x2.toInt ≤ 11 → G_J7_fill_53178 11 n v x2 x3 nm = some R → (∀ k, x2.toInt.toNat ≤ k → k < 11 → R k = v) ∧ (∀ k, k < x2.toInt.toNat → R k = nm k) := by
  intro n
  induction n with
  | zero =>
    intro x2 x3 nm R _ _ _ h
    cases h
  | succ n ih =>
    intro x2 x3 nm R h3 h0 h1 h
    replace h : B_J7_fill_53178_5 (G_J7_fill_53178 11 n) 11 v x2 x3 nm = some R := h
    unfold B_J7_fill_53178_5 at h
    by_cases c : x3 ≤ x2
    · replace h := Option.some.inj (zk_t c h)
      rw [i32_le] at c
      subst h
      exact ⟨fun k k1 k2 => by exfalso; omega, fun k _ => rfl⟩
    · replace h := zk_f c h
      rw [i32_le] at c
      replace h := zk_gd h
      obtain ⟨_, h⟩ := h
      replace h := zk_lt h
      obtain ⟨f1, e1, h⟩ := h
      replace h := zk_lt h
      obtain ⟨f2, e2, h⟩ := h
      subst e1
      subst e2
      have s3 := i32_s (a := x2) (by omega)
      obtain ⟨q1, q2⟩ := ih _ _ _ _ h3 (by omega) (by omega) h
      refine ⟨fun k k1 k2 => ?_, fun k k1 => ?_⟩
      · by_cases ck : k = x2.toInt.toNat
        · rw [q2 k (by omega)]
          exact upd_at (ck.trans tcn.symm)
        · exact q1 k (by omega) k2
      · rw [q2 k (by omega)]
        exact upd_n (by rw [tcn]; omega)
set_option maxHeartbeats 4000000 in
set_option maxRecDepth 20000 in
theorem fc_fill  {n : Nat} {v : Int32} {nm R : Nat → Int32} (h : f_J7_fill_53178 n v nm 11 = some R) : ∀ k, k < 11 → R k = v := by
  unfold f_J7_fill_53178 B_J7_fill_53178_0 at h
  replace h := zk_lt h
  obtain ⟨w, e, h⟩ := h
  subst e
  exact fun k hk => (fc_loop _ _ _ _ _ (by decide) (by decide) (by decide) h).1 k (by rw [z32_0]; exact Nat.zero_le _) hk
set_option maxHeartbeats 4000000 in
set_option maxRecDepth 20000 in
theorem cf_loop {mod_code : Int32} {court_shoeCount : Int32} {mod_claims : Int32} {ts : Int32} {court_suitCount : Int32} {mod_doneMany : Int32} {mod_undoneMany : Int32} {mod_isBoth : Int32} {mod_wished : Int32} {mod_bestMany : Int32} {mod_bestRow : Int32} {mod_ringDigits : Int32} {mod_traces : Int32} {hh g o l : Int32} : ∀ (n : Nat) (x2 : Int32) (nm R : Nat → Int32), 0 ≤ x2.toInt → x2.toInt ≤ 11 → G_X12_clearFacts mod_code court_shoeCount mod_claims ts hh g court_suitCount mod_doneMany mod_undoneMany o l mod_isBoth mod_wished mod_bestMany mod_bestRow mod_ringDigits mod_traces n x2 nm = some R → (∀ k, x2.toInt.toNat ≤ k → k < 11 → R k = 0) ∧ (∀ k, k < x2.toInt.toNat → R k = nm k) := by
  have e11 : (11 : Int32).toInt = 11 := by decide
  intro n
  induction n with
  | zero =>
    intro x2 nm R _ _ h
    cases h
  | succ n ih =>
    intro x2 nm R h0 h1 h
    replace h : B_X12_clearFacts_2 (G_X12_clearFacts mod_code court_shoeCount mod_claims ts hh g court_suitCount mod_doneMany mod_undoneMany o l mod_isBoth mod_wished mod_bestMany mod_bestRow mod_ringDigits mod_traces n) mod_code court_shoeCount mod_claims ts hh g court_suitCount mod_doneMany mod_undoneMany o l mod_isBoth mod_wished mod_bestMany mod_bestRow mod_ringDigits mod_traces x2 nm = some R := h
    unfold B_X12_clearFacts_2 at h
    by_cases c : (11 : Int32) ≤ x2
    · replace h := Option.some.inj (zk_t c h)
      rw [i32_le] at c
      subst h
      exact ⟨fun k k1 k2 => by exfalso; omega, fun k _ => rfl⟩
    · replace h := zk_f c h
      rw [i32_le] at c
      replace h := zk_gd h
      obtain ⟨_, h⟩ := h
      replace h := zk_lt h
      obtain ⟨f1, e1, h⟩ := h
      replace h := zk_lt h
      obtain ⟨f2, e2, h⟩ := h
      subst e1
      subst e2
      have s3 := i32_s (a := x2) (by omega)
      obtain ⟨q1, q2⟩ := ih _ _ _ (by omega) (by omega) h
      refine ⟨fun k k1 k2 => ?_, fun k k1 => ?_⟩
      · by_cases ck : k = x2.toInt.toNat
        · rw [q2 k (by omega)]
          exact upd_at (ck.trans tcn.symm)
        · exact q1 k (by omega) k2
      · rw [q2 k (by omega)]
        exact upd_n (by rw [tcn]; omega)
set_option maxHeartbeats 4000000 in
set_option maxRecDepth 20000 in
theorem cf_fill {mod_code : Int32} {court_shoeCount : Int32} {mod_claims : Int32} {ts : Int32} {court_suitCount : Int32} {mod_doneMany : Int32} {mod_undoneMany : Int32} {mod_isBoth : Int32} {mod_wished : Int32} {mod_bestMany : Int32} {mod_bestRow : Int32} {mod_ringDigits : Int32} {mod_traces : Int32} {hh g o l : Int32} {n : Nat} {nm R : Nat → Int32} (h : f_X12_clearFacts n mod_code court_shoeCount mod_claims ts hh g court_suitCount mod_doneMany mod_undoneMany o l mod_isBoth mod_wished mod_bestMany mod_bestRow mod_ringDigits mod_traces nm = some R) : ∀ k, k < 11 → R k = 0 := by
  unfold f_X12_clearFacts B_X12_clearFacts_0 at h
  exact fun k hk => (cf_loop _ _ _ _ (by decide) (by decide) h).1 k (by rw [z32_0]; exact Nat.zero_le _) hk
set_option maxHeartbeats 4000000 in
set_option maxRecDepth 20000 in
theorem kd_eq {mod_code : Int32} {court_shoeCount : Int32} {mod_claims : Int32} {ts : Int32} {court_suitCount : Int32} {mod_doneMany : Int32} {mod_undoneMany : Int32} {mod_isBoth : Int32} {mod_wished : Int32} {mod_bestMany : Int32} {mod_bestRow : Int32} {mod_ringDigits : Int32} {mod_traces : Int32} {mod_endKind : Nat → Int32} {mod_undoneFrom : Nat → Int32} {su_who : Int32} {su_against : Int32} {su_kind : Int32} {su_won : Int32} {su_day : Int32} {su_land : Int32} {su_undoneFrom : Int32} {su_askedCount : Int32} {su_askedBits : Int32} {su_first : Int32} {su_foundSo : Int32} {su_foundNot : Int32} {su_fought : Int32} {su_needed : Int32} {x1 x2 r1 r2 : Int32} {u1 u2 : Unit} {hh g o l : Int32} {j : Nat} (hj : x1.toInt = (j : Int)) (e1 : mod_endKind j = su_kind) (e2 : mod_undoneFrom j = su_undoneFrom) (h : f_X7_kindOn x2 su_who su_against su_kind su_won su_day su_land su_undoneFrom su_askedCount su_askedBits su_first su_foundSo su_foundNot su_fought su_needed = some (r1, u1)) (k : f_X12_kindOn x1 x2 mod_code court_shoeCount mod_claims ts hh g court_suitCount mod_doneMany mod_undoneMany o l mod_isBoth mod_wished mod_bestMany mod_bestRow mod_ringDigits mod_traces mod_endKind mod_undoneFrom = some (r2, u2)) : r1 = r2 := by
  have ex : x1.toNatClampNeg = j := tnc hj
  unfold f_X7_kindOn B_X7_kindOn_0 at h
  unfold f_X12_kindOn B_X12_kindOn_0 B_X12_kindOn_23 at k
  rw [ex, e1, e2] at k
  replace k := zk_gd k
  obtain ⟨_, k⟩ := k
  by_cases c : su_undoneFrom < 0
  · replace k := zk_gd (zk_t c k)
    obtain ⟨_, k⟩ := k
    replace h := zk_t c h
    exact (Prod.mk.inj (Option.some.inj h)).1.symm.trans (Prod.mk.inj (Option.some.inj k)).1
  · replace k := zk_gd (zk_f c k)
    obtain ⟨_, k⟩ := k
    replace h := zk_f c h
    by_cases c2 : x2 < su_undoneFrom
    · replace k := zk_gd (zk_t c2 k)
      obtain ⟨_, k⟩ := k
      replace h := zk_t c2 h
      exact (Prod.mk.inj (Option.some.inj h)).1.symm.trans (Prod.mk.inj (Option.some.inj k)).1
    · replace h := zk_f c2 h
      replace k := zk_f c2 k
      exact (Prod.mk.inj (Option.some.inj h)).1.symm.trans (Prod.mk.inj (Option.some.inj k)).1
set_option maxHeartbeats 4000000 in
set_option maxRecDepth 20000 in
theorem nj_eq {mod_code : Int32} {court_shoeCount : Int32} {mod_claims : Int32} {ts : Int32} {court_suitCount : Int32} {mod_doneMany : Int32} {mod_undoneMany : Int32} {mod_isBoth : Int32} {mod_wished : Int32} {mod_bestMany : Int32} {mod_bestRow : Int32} {mod_ringDigits : Int32} {mod_traces : Int32} {mod_endKind : Nat → Int32} {mod_isWon : Nat → Int32} {mod_suitDay : Nat → Int32} {mod_suitLand : Nat → Int32} {mod_undoneFrom : Nat → Int32} {su_who : Int32} {su_against : Int32} {su_kind : Int32} {su_won : Int32} {su_day : Int32} {su_land : Int32} {su_undoneFrom : Int32} {su_askedCount : Int32} {su_askedBits : Int32} {su_first : Int32} {su_foundSo : Int32} {su_foundNot : Int32} {su_fought : Int32} {su_needed : Int32} {inq_day : Int32} {inq_land : Int32} {inq_shoeLeftOut : Int32} {inq_names : Nat → Int32} {x1 : Int32} {hh g o l : Int32} {fs nm2 fs2 : Nat → Int32} {j : Nat} (hj : x1.toInt = (j : Int)) (e1 : mod_endKind j = su_kind) (e2 : mod_undoneFrom j = su_undoneFrom) (e3 : mod_isWon j = su_won) (e4 : mod_suitDay j = su_day) (e5 : mod_suitLand j = su_land) (h : f_X3_nameJudgment inq_day inq_land inq_shoeLeftOut inq_names su_who su_against su_kind su_won su_day su_land su_undoneFrom su_askedCount su_askedBits su_first su_foundSo su_foundNot su_fought su_needed = some nm2) (k : f_X12_findSuit x1 inq_day inq_land mod_code court_shoeCount mod_claims ts hh g court_suitCount mod_doneMany mod_undoneMany o l mod_isBoth mod_wished mod_bestMany mod_bestRow mod_ringDigits mod_traces mod_endKind mod_isWon mod_suitDay mod_suitLand mod_undoneFrom fs = some fs2) : ∀ i, i < 11 → nm2 i = fs2 i := by
  have ex : x1.toNatClampNeg = j := tnc hj
  unfold f_X3_nameJudgment B_X3_nameJudgment_0 at h
  unfold f_X12_findSuit B_X12_findSuit_0 at k
  replace h := zk_o1 h
  obtain ⟨a, ha, h⟩ := h
  replace h := zk_o2 h
  obtain ⟨r, u, hr, h⟩ := h
  replace h := zk_lt h
  obtain ⟨_, rfl, h⟩ := h
  replace h := zk_lt h
  obtain ⟨_, rfl, h⟩ := h
  replace h := zk_lt h
  obtain ⟨_, rfl, h⟩ := h
  replace h := zk_lt h
  obtain ⟨_, rfl, h⟩ := h
  replace h := zk_lt h
  obtain ⟨_, rfl, h⟩ := h
  replace h := zk_lt h
  obtain ⟨_, rfl, h⟩ := h
  replace h := Option.some.inj h
  replace k := zk_o1 k
  obtain ⟨b, hb, k⟩ := k
  replace k := zk_o2 k
  obtain ⟨r2, u2, hr2, k⟩ := k
  replace k := zk_lt k
  obtain ⟨_, rfl, k⟩ := k
  replace k := zk_gd k
  obtain ⟨_, k⟩ := k
  replace k := zk_lt k
  obtain ⟨_, rfl, k⟩ := k
  replace k := zk_lt k
  obtain ⟨_, rfl, k⟩ := k
  replace k := zk_gd k
  obtain ⟨_, k⟩ := k
  replace k := zk_lt k
  obtain ⟨_, rfl, k⟩ := k
  replace k := zk_lt k
  obtain ⟨_, rfl, k⟩ := k
  replace k := zk_gd k
  obtain ⟨_, k⟩ := k
  replace k := zk_lt k
  obtain ⟨_, rfl, k⟩ := k
  replace k := zk_lt k
  obtain ⟨_, rfl, k⟩ := k
  replace k := zk_lt k
  obtain ⟨_, rfl, k⟩ := k
  replace k := Option.some.inj k
  have er := kd_eq hj e1 e2 hr hr2
  intro i hi
  rw [← h, ← k]
  exact upd_c rfl (upd_c (by rw [ex, e5]) (upd_c (by rw [ex, e4]) (upd_c (by rw [ex, e3]) (upd_c er ((fc_fill ha i hi).trans (cf_fill hb i hi).symm)))))
set_option maxHeartbeats 4000000 in
set_option maxRecDepth 20000 in
theorem ct_eq {mod_code : Int32} {court_shoeCount : Int32} {mod_claims : Int32} {ts : Int32} {court_suitCount : Int32} {mod_doneMany : Int32} {mod_undoneMany : Int32} {mod_isBoth : Int32} {mod_wished : Int32} {mod_bestMany : Int32} {mod_bestRow : Int32} {mod_ringDigits : Int32} {mod_traces : Int32} {mod_endKind : Nat → Int32} {mod_isWon : Nat → Int32} {mod_suitDay : Nat → Int32} {mod_suitLand : Nat → Int32} {mod_undoneFrom : Nat → Int32} {court_claimCount : Int32} {su_who : Int32} {su_against : Int32} {su_kind : Int32} {su_won : Int32} {su_day : Int32} {su_land : Int32} {su_undoneFrom : Int32} {su_askedCount : Int32} {su_askedBits : Int32} {su_first : Int32} {su_foundSo : Int32} {su_foundNot : Int32} {su_fought : Int32} {su_needed : Int32} {inq_day : Int32} {inq_land : Int32} {inq_shoeLeftOut : Int32} {court_laws : Nat → Option Nat} {inq_names : Nat → Int32} {L_n : Nat → Nat} {L_code : Nat → Nat → Int32} {inq_stack : Nat → Int32} {x1 r1 r2 : Int32} {hh g o l : Int32} {fs sk ac wi lm te le a1 a2 b1 b2 : Nat → Int32} {j : Nat} (hj : x1.toInt = (j : Int)) (e1 : mod_endKind j = su_kind) (e2 : mod_undoneFrom j = su_undoneFrom) (e3 : mod_isWon j = su_won) (e4 : mod_suitDay j = su_day) (e5 : mod_suitLand j = su_land) (hl : 0 ≤ inq_land.toInt ∧ inq_land.toInt ≤ 7) (hL : ∀ p, p < 32 → LAWR L_code L_n ac wi lm te le p) (h : f_X3_isCounting court_shoeCount court_claimCount court_suitCount court_laws inq_day inq_land inq_shoeLeftOut inq_names inq_stack su_who su_against su_kind su_won su_day su_land su_undoneFrom su_askedCount su_askedBits su_first su_foundSo su_foundNot su_fought su_needed L_n L_code = some (r1, a1, a2)) (k : f_X12_doesCount x1 inq_day inq_land mod_code court_shoeCount mod_claims ts hh g court_suitCount mod_doneMany mod_undoneMany o l mod_isBoth mod_wished mod_bestMany mod_bestRow mod_ringDigits mod_traces mod_endKind mod_isWon mod_suitDay mod_suitLand mod_undoneFrom ac wi lm te le fs sk = some (r2, b1, b2)) : r1 = r2 ∧ (r2 = 0 ∨ r2 = 1) := by
  have ex : x1.toNatClampNeg = j := tnc hj
  unfold f_X3_isCounting B_X3_isCounting_0 at h
  unfold f_X12_doesCount B_X12_doesCount_0 at k
  rw [ex, e4, e5] at k
  replace k := zk_gd k
  obtain ⟨_, k⟩ := k
  by_cases c : su_day ≤ inq_day
  · replace k := zk_gd (zk_t c k)
    obtain ⟨_, k⟩ := k
    replace h := zk_t c h
    by_cases c2 : su_land = inq_land
    · replace h := (Prod.mk.inj (Option.some.inj (zk_t c2 h))).1
      replace k := (Prod.mk.inj (Option.some.inj (zk_t c2 k))).1
      exact ⟨h.symm.trans k, Or.inr k.symm⟩
    · replace h := zk_o1 (zk_f c2 h)
      obtain ⟨nm2, hn, h⟩ := h
      replace k := zk_o1 (zk_f c2 k)
      obtain ⟨fs2, hf, k⟩ := k
      replace h := zk_o2 h
      obtain ⟨v1, w1, hv, h⟩ := h
      replace k := zk_o2 k
      obtain ⟨v2, w2, kv, k⟩ := k
      obtain ⟨q1, q2⟩ := lw_eq (by decide) hl hL (nj_eq hj e1 e2 e3 e4 e5 hn hf) hv kv
      replace k := zk_gd k
      obtain ⟨_, k⟩ := k
      replace k := (Prod.mk.inj (Option.some.inj k)).1
      by_cases c3 : v1 = 0
      · replace h := (Prod.mk.inj (Option.some.inj (zk_t c3 h))).1
        have z := q1.mp c3
        exact ⟨h.symm.trans (z.symm.trans k), Or.inl (k.symm.trans z)⟩
      · replace h := (Prod.mk.inj (Option.some.inj (zk_f c3 h))).1
        have z : v2 = 1 := q2.resolve_left (fun z => c3 (q1.mpr z))
        exact ⟨h.symm.trans (z.symm.trans k), Or.inr (k.symm.trans z)⟩
  · replace h := (Prod.mk.inj (Option.some.inj (zk_f c h))).1
    replace k := (Prod.mk.inj (Option.some.inj (zk_f c k))).1
    exact ⟨h.symm.trans k, Or.inl k.symm⟩
set_option maxHeartbeats 4000000 in
set_option maxRecDepth 20000 in
theorem pc_isDay  {x r1 r2 : Int32} {u1 u2 : Unit} (h : f_X11_isDay x = some (r1, u1)) (k : f_X12_isDay x = some (r2, u2)) : r1 = r2 ∧ (¬ r2 = 0 → 0 ≤ x.toInt ∧ x.toInt ≤ 9999) := by
  have c0 : (0 : Int32).toInt = 0 := by decide
  have cM : (10000 : Int32).toInt = 10000 := by decide
  have c9 : (9999 : Int32).toInt = 9999 := by decide
  unfold f_X11_isDay B_X11_isDay_0 at h
  unfold f_X12_isDay B_X12_isDay_0 at k
  rw [pe_in] at k
  replace k := zk_o2 k
  obtain ⟨a, u, e, k⟩ := k
  replace k := zk_gd k
  obtain ⟨_, k⟩ := k
  have e := (Prod.mk.inj (Option.some.inj e)).1
  replace k := (Prod.mk.inj (Option.some.inj k)).1
  by_cases c : x < 0
  · replace h := (Prod.mk.inj (Option.some.inj (zk_t c h))).1
    rw [if_pos (Or.inl c)] at e
    exact ⟨h.symm.trans (e.trans k), fun z => absurd (k.symm.trans e.symm) z⟩
  · replace h := zk_f c h
    rw [Int32.lt_iff_toInt_lt, c0] at c
    by_cases c2 : (10000 : Int32) ≤ x
    · replace h := (Prod.mk.inj (Option.some.inj (zk_t c2 h))).1
      rw [i32_le, cM] at c2
      rw [if_pos (Or.inr (by rw [Int32.lt_iff_toInt_lt, c9]; omega))] at e
      exact ⟨h.symm.trans (e.trans k), fun z => absurd (k.symm.trans e.symm) z⟩
    · replace h := (Prod.mk.inj (Option.some.inj (zk_f c2 h))).1
      rw [i32_le, cM] at c2
      rw [if_neg (by rw [Int32.lt_iff_toInt_lt, Int32.lt_iff_toInt_lt, c0, c9]; omega)] at e
      exact ⟨h.symm.trans (e.trans k), fun _ => ⟨by omega, by omega⟩⟩
set_option maxHeartbeats 4000000 in
set_option maxRecDepth 20000 in
theorem pc_isLand  {x r1 r2 : Int32} {u1 u2 : Unit} (h : f_X11_isLand x = some (r1, u1)) (k : f_X12_isLand x = some (r2, u2)) : r1 = r2 ∧ (¬ r2 = 0 → 0 ≤ x.toInt ∧ x.toInt ≤ 7) := by
  have c0 : (0 : Int32).toInt = 0 := by decide
  have cM : (8 : Int32).toInt = 8 := by decide
  have c9 : (7 : Int32).toInt = 7 := by decide
  unfold f_X11_isLand B_X11_isLand_0 at h
  unfold f_X12_isLand B_X12_isLand_0 at k
  rw [pe_in] at k
  replace k := zk_o2 k
  obtain ⟨a, u, e, k⟩ := k
  replace k := zk_gd k
  obtain ⟨_, k⟩ := k
  have e := (Prod.mk.inj (Option.some.inj e)).1
  replace k := (Prod.mk.inj (Option.some.inj k)).1
  by_cases c : x < 0
  · replace h := (Prod.mk.inj (Option.some.inj (zk_t c h))).1
    rw [if_pos (Or.inl c)] at e
    exact ⟨h.symm.trans (e.trans k), fun z => absurd (k.symm.trans e.symm) z⟩
  · replace h := zk_f c h
    rw [Int32.lt_iff_toInt_lt, c0] at c
    by_cases c2 : (8 : Int32) ≤ x
    · replace h := (Prod.mk.inj (Option.some.inj (zk_t c2 h))).1
      rw [i32_le, cM] at c2
      rw [if_pos (Or.inr (by rw [Int32.lt_iff_toInt_lt, c9]; omega))] at e
      exact ⟨h.symm.trans (e.trans k), fun z => absurd (k.symm.trans e.symm) z⟩
    · replace h := (Prod.mk.inj (Option.some.inj (zk_f c2 h))).1
      rw [i32_le, cM] at c2
      rw [if_neg (by rw [Int32.lt_iff_toInt_lt, Int32.lt_iff_toInt_lt, c0, c9]; omega)] at e
      exact ⟨h.symm.trans (e.trans k), fun _ => ⟨by omega, by omega⟩⟩
set_option maxHeartbeats 4000000 in
set_option maxRecDepth 20000 in
theorem pc_at {mod_code : Int32} {court_shoeCount : Int32} {mod_claims : Int32} {ts : Int32} {court_suitCount : Int32} {mod_doneMany : Int32} {mod_undoneMany : Int32} {mod_isBoth : Int32} {mod_wished : Int32} {mod_bestMany : Int32} {mod_bestRow : Int32} {mod_ringDigits : Int32} {mod_traces : Int32} {court_claimCount : Int32} {court_suits : Nat → Option Nat} {S_who : Nat → Int32} {S_against : Nat → Int32} {S_kind : Nat → Int32} {S_won : Nat → Int32} {S_day : Nat → Int32} {S_land : Nat → Int32} {S_undoneFrom : Nat → Int32} {S_asked : Nat → Nat → Int32} {S_askedCount : Nat → Int32} {S_askedBits : Nat → Int32} {S_first : Nat → Int32} {S_foundSo : Nat → Int32} {S_foundNot : Nat → Int32} {S_fought : Nat → Int32} {S_needed : Nat → Int32} {x r1 r2 : Int32} {u1 u2 : Unit} {hh g o l : Int32} (hN2 : 0 ≤ court_suitCount.toInt ∧ court_suitCount.toInt ≤ 45) (h : f_X2_suitAt x court_shoeCount court_claimCount court_suitCount court_suits S_who S_against S_kind S_won S_day S_land S_undoneFrom S_asked S_askedCount S_askedBits S_first S_foundSo S_foundNot S_fought S_needed = some (r1, u1)) (k : f_X12_isSuit x mod_code court_shoeCount mod_claims ts hh g court_suitCount mod_doneMany mod_undoneMany o l mod_isBoth mod_wished mod_bestMany mod_bestRow mod_ringDigits mod_traces = some (r2, u2)) : (r1 = -1 ∧ r2 = 0) ∨ (r1 = x ∧ r2 = 1 ∧ 0 ≤ x.toInt ∧ x.toInt < court_suitCount.toInt) := by
  have c0 : (0 : Int32).toInt = 0 := by decide
  have c1 : (1 : Int32).toInt = 1 := by decide
  have cd : (court_suitCount - 1).toInt = court_suitCount.toInt - 1 := by
    rw [i32_d (by omega) (by rw [c1]; omega), c1]
  unfold f_X2_suitAt B_X2_suitAt_0 at h
  unfold f_X12_isSuit B_X12_isSuit_0 at k
  rw [pe_in] at k
  replace k := zk_o2 k
  obtain ⟨a, u, e, k⟩ := k
  replace k := zk_gd k
  obtain ⟨_, k⟩ := k
  have e := (Prod.mk.inj (Option.some.inj e)).1
  replace k := (Prod.mk.inj (Option.some.inj k)).1
  by_cases c : x < 0
  · replace h := (Prod.mk.inj (Option.some.inj (zk_t c h))).1
    rw [if_pos (Or.inl c)] at e
    exact Or.inl ⟨h.symm, k.symm.trans e.symm⟩
  · replace h := zk_f c h
    rw [Int32.lt_iff_toInt_lt, c0] at c
    by_cases c2 : court_suitCount ≤ x
    · replace h := (Prod.mk.inj (Option.some.inj (zk_t c2 h))).1
      rw [i32_le] at c2
      rw [if_pos (Or.inr (by rw [Int32.lt_iff_toInt_lt, cd]; omega))] at e
      exact Or.inl ⟨h.symm, k.symm.trans e.symm⟩
    · replace h := zk_gd (zk_f c2 h)
      obtain ⟨_, h⟩ := h
      replace h := zk_gd h
      obtain ⟨_, h⟩ := h
      replace h := zk_gd h
      obtain ⟨_, h⟩ := h
      replace h := (Prod.mk.inj (Option.some.inj h)).1
      rw [i32_le] at c2
      rw [if_neg (by rw [Int32.lt_iff_toInt_lt, Int32.lt_iff_toInt_lt, c0, cd]; omega)] at e
      exact Or.inr ⟨h.symm, k.symm.trans e.symm, by omega, by omega⟩
set_option maxHeartbeats 4000000 in
set_option maxRecDepth 20000 in
theorem tt_eq {inq_day : Int32} {inq_land : Int32} {inq_shoeLeftOut : Int32} {inq_judgedShoes : Nat → Int64} {inq_bindingShoes : Nat → Int64} {y z a b c : Int32} {d e : Nat → Int64} (h : f_X3_turnTo y z inq_day inq_land inq_shoeLeftOut inq_judgedShoes inq_bindingShoes = some (a, b, c, d, e)) : a = y ∧ b = z := by
  unfold f_X3_turnTo B_X3_turnTo_0 at h
  replace h := zk_o1 h
  obtain ⟨_, _, h⟩ := h
  replace h := zk_o1 h
  obtain ⟨_, _, h⟩ := h
  replace h := Option.some.inj h
  exact ⟨(Prod.mk.inj h).1.symm, (Prod.mk.inj (Prod.mk.inj h).2).1.symm⟩
set_option maxHeartbeats 4000000 in
set_option maxRecDepth 20000 in
theorem pc_eq {mod_code : Int32} {court_shoeCount : Int32} {mod_claims : Int32} {ts : Int32} {court_suitCount : Int32} {mod_doneMany : Int32} {mod_undoneMany : Int32} {mod_isBoth : Int32} {mod_wished : Int32} {mod_bestMany : Int32} {mod_bestRow : Int32} {mod_ringDigits : Int32} {mod_traces : Int32} {mod_endKind : Nat → Int32} {mod_isWon : Nat → Int32} {mod_suitDay : Nat → Int32} {mod_suitLand : Nat → Int32} {mod_undoneFrom : Nat → Int32} {court_claimCount : Int32} {court_suits : Nat → Option Nat} {S_who : Nat → Int32} {S_against : Nat → Int32} {S_kind : Nat → Int32} {S_won : Nat → Int32} {S_day : Nat → Int32} {S_land : Nat → Int32} {S_undoneFrom : Nat → Int32} {S_asked : Nat → Nat → Int32} {S_askedCount : Nat → Int32} {S_askedBits : Nat → Int32} {S_first : Nat → Int32} {S_foundSo : Nat → Int32} {S_foundNot : Nat → Int32} {S_fought : Nat → Int32} {S_needed : Nat → Int32} {inq_day : Int32} {inq_land : Int32} {inq_shoeLeftOut : Int32} {inq_judgedShoes : Nat → Int64} {inq_bindingShoes : Nat → Int64} {court_laws : Nat → Option Nat} {inq_names : Nat → Int32} {L_n : Nat → Nat} {L_code : Nat → Nat → Int32} {inq_stack : Nat → Int32} {x1 x2 x3 : Int32} {hh g o l : Int32} {fs sk ac wi lm te le : Nat → Int32} {R : Int32 × Int32 × Int32 × Int32 × (Nat → Int32) × (Nat → Int32) × (Nat → Int64) × (Nat → Int64)} {K : Int32 × (Nat → Int32) × (Nat → Int32)} (hN2 : 0 ≤ court_suitCount.toInt ∧ court_suitCount.toInt ≤ 45) (hS : ∀ j : Nat, (j : Int) < court_suitCount.toInt → mod_endKind j = S_kind j ∧ mod_undoneFrom j = S_undoneFrom j ∧ mod_isWon j = S_won j ∧ mod_suitDay j = S_day j ∧ mod_suitLand j = S_land j) (hL : ∀ p, p < 32 → LAWR L_code L_n ac wi lm te le p) (h : f_X11_counts x1 x2 x3 court_shoeCount court_claimCount court_suitCount court_suits court_laws inq_day inq_land inq_shoeLeftOut inq_names inq_stack inq_judgedShoes inq_bindingShoes S_who S_against S_kind S_won S_day S_land S_undoneFrom S_asked S_askedCount S_askedBits S_first S_foundSo S_foundNot S_fought S_needed L_n L_code = some R) (k : f_X12_counts x1 x2 x3 mod_code court_shoeCount mod_claims ts hh g court_suitCount mod_doneMany mod_undoneMany o l mod_isBoth mod_wished mod_bestMany mod_bestRow mod_ringDigits mod_traces mod_endKind mod_isWon mod_suitDay mod_suitLand mod_undoneFrom ac wi lm te le fs sk = some K) : R.1 = K.1 := by
  unfold f_X11_counts B_X11_counts_0 at h
  unfold f_X12_counts B_X12_counts_0 at k
  replace h := zk_o2 h
  obtain ⟨a1, _, q1, h⟩ := h
  replace k := zk_o2 k
  obtain ⟨b1, _, p1, k⟩ := k
  rcases pc_at hN2 q1 p1 with ⟨z1, z2⟩ | ⟨z1, z2, z3, z4⟩
  · replace h := zk_t (by rw [z1]; decide) h
    replace k := zk_t z2 k
    rw [← Option.some.inj h, ← Option.some.inj k]
  · replace h := zk_f (by rw [z1, Int32.lt_iff_toInt_lt, z32_0]; omega) h
    replace k := zk_f (by rw [z2]; decide) k
    replace h := zk_o2 h
    obtain ⟨a2, _, q2, h⟩ := h
    replace k := zk_o2 k
    obtain ⟨b2, _, p2, k⟩ := k
    obtain ⟨d1, d2⟩ := pc_isDay q2 p2
    by_cases c : a2 = 0
    · replace h := zk_t c h
      replace k := zk_t (d1.symm.trans c) k
      rw [← Option.some.inj h, ← Option.some.inj k]
    · replace h := zk_f c h
      replace k := zk_f (fun z => c (d1.trans z)) k
      replace h := zk_o2 h
      obtain ⟨a3, _, q3, h⟩ := h
      replace k := zk_o2 k
      obtain ⟨b3, _, p3, k⟩ := k
      obtain ⟨f1, f2⟩ := pc_isLand q3 p3
      by_cases c3 : a3 = 0
      · replace h := zk_t c3 h
        replace k := zk_t (f1.symm.trans c3) k
        rw [← Option.some.inj h, ← Option.some.inj k]
      · replace h := zk_f c3 h
        replace k := zk_f (fun z => c3 (f1.trans z)) k
        have hl := f2 (fun z => c3 (f1.trans z))
        replace h := zk_o5 h
        obtain ⟨y1, y2, y3, y4, y5, ht, h⟩ := h
        obtain ⟨t1, t2⟩ := tt_eq ht
        replace h := zk_gd h
        obtain ⟨_, h⟩ := h
        replace h := zk_o3 h
        obtain ⟨v1, w1, w2, hv, h⟩ := h
        replace k := zk_o3 k
        obtain ⟨v2, w3, w4, kv, k⟩ := k
        rw [z1, t1, t2] at hv
        have hj : x1.toInt = ((x1.toNatClampNeg : Nat) : Int) := by
          rw [tcn]
          omega
        obtain ⟨s1, s2, s3, s4, s5⟩ := hS x1.toNatClampNeg (by omega)
        obtain ⟨r1, r2⟩ := ct_eq hj s1 s2 s3 s4 s5 hl hL hv kv
        by_cases c4 : v1 = 0
        · replace h := zk_t c4 h
          replace k := zk_t (r1.symm.trans c4) k
          rw [← Option.some.inj h, ← Option.some.inj k]
        · replace h := zk_f c4 h
          replace k := zk_f (fun z => c4 (r1.trans z)) k
          rw [← Option.some.inj h, ← Option.some.inj k]
/-- the facts under which a land's law is asked whether it heeds another land -/
def HF (x y : Int32) : Nat → Int32 := upd (upd (upd (upd (fun _ => (0 : Int32)) (0 : Int32).toNatClampNeg (1 : Int32)) (1 : Int32).toNatClampNeg (1 : Int32)) (3 : Int32).toNatClampNeg y) (4 : Int32).toNatClampNeg x
set_option maxHeartbeats 4000000 in
set_option maxRecDepth 20000 in
theorem he_eq {mod_code : Int32} {court_shoeCount : Int32} {mod_claims : Int32} {ts : Int32} {court_suitCount : Int32} {mod_doneMany : Int32} {mod_undoneMany : Int32} {mod_isBoth : Int32} {mod_wished : Int32} {mod_bestMany : Int32} {mod_bestRow : Int32} {mod_ringDigits : Int32} {mod_traces : Int32} {court_claimCount : Int32} {inq_day : Int32} {inq_shoeLeftOut : Int32} {court_laws : Nat → Option Nat} {L_n : Nat → Nat} {L_code : Nat → Nat → Int32} {inq_stack : Nat → Int32} {x1 x2 r1 r2 : Int32} {hh g o l : Int32} {nm u1 fs sk ac wi lm te le b1 b2 : Nat → Int32} (hn : ∀ i, i < 11 → nm i = HF x1 x2 i) (hl : 0 ≤ x1.toInt ∧ x1.toInt ≤ 7) (hL : ∀ p, p < 32 → LAWR L_code L_n ac wi lm te le p) (h : f_X3_lawGives 3 court_shoeCount court_claimCount court_suitCount court_laws inq_day x1 inq_shoeLeftOut nm inq_stack L_n L_code = some (r1, u1)) (k : f_X12_heeds x1 x2 mod_code court_shoeCount mod_claims ts hh g court_suitCount mod_doneMany mod_undoneMany o l mod_isBoth mod_wished mod_bestMany mod_bestRow mod_ringDigits mod_traces ac wi lm te le fs sk = some (r2, b1, b2)) : (r1 = 0 ↔ r2 = 0) ∧ (r2 = 0 ∨ r2 = 1) := by
  unfold f_X12_heeds B_X12_heeds_0 at k
  replace k := zk_o1 k
  obtain ⟨a, ha, k⟩ := k
  replace k := zk_lt k
  obtain ⟨_, rfl, k⟩ := k
  replace k := zk_lt k
  obtain ⟨_, rfl, k⟩ := k
  replace k := zk_lt k
  obtain ⟨_, rfl, k⟩ := k
  replace k := zk_lt k
  obtain ⟨_, rfl, k⟩ := k
  replace k := zk_o2 k
  obtain ⟨r, w, kv, k⟩ := k
  replace k := zk_gd k
  obtain ⟨_, k⟩ := k
  replace k := (Prod.mk.inj (Option.some.inj k)).1
  rw [← k]
  exact lw_eq (by decide) hl hL (fun i hi => (hn i hi).trans (upd_c rfl (upd_c rfl (upd_c rfl (upd_c rfl (cf_fill ha i hi).symm))))) h kv
def bt (w y : Int32) : Int32 := (w >>> (y &&& 31)) &&& (1 : Int32)
set_option maxRecDepth 100000 in
theorem bw_or : ∀ (w : Fin 256) (x y : Fin 8), bt (Int32.ofNat w.val ||| ((1 : Int32) <<< (Int32.ofNat x.val &&& 31))) (Int32.ofNat y.val) = (if x = y then 1 else bt (Int32.ofNat w.val) (Int32.ofNat y.val)) := by decide +kernel
set_option maxRecDepth 100000 in
theorem bw_lt : ∀ (w : Fin 256) (x : Fin 8), 0 ≤ (Int32.ofNat w.val ||| ((1 : Int32) <<< (Int32.ofNat x.val &&& 31))).toInt ∧ (Int32.ofNat w.val ||| ((1 : Int32) <<< (Int32.ofNat x.val &&& 31))).toInt < 256 := by decide +kernel
theorem i32_o {a : Int32} {k : Nat} (h : a.toInt = (k : Int)) : a = Int32.ofNat k := by
  apply Int32.toInt_inj.mp
  have := Int32.toInt_lt a
  rw [h, Int32.toInt_ofNat_of_lt (by omega)]
theorem HF_3 {x1 y : Int32} {i : Nat} {nm : Nat → Int32} (h : ∀ i, i < 11 → i ≠ 3 → nm i = HF x1 0 i) (hi : i < 11) : upd nm (3 : Int32).toNatClampNeg y i = HF x1 y i := by
  have e3 : (3 : Int32).toNatClampNeg = 3 := by decide
  have e4 : (4 : Int32).toNatClampNeg = 4 := by decide
  by_cases c : i = 3
  · subst c
    unfold HF upd
    rw [e3, e4, if_pos rfl, if_neg (by decide), if_pos rfl]
  · rw [upd_n (by rw [e3]; exact c), h i hi c]
    unfold HF
    exact upd_c rfl ((upd_n (by rw [e3]; exact c)).trans (upd_n (by rw [e3]; exact c)).symm)
set_option maxHeartbeats 4000000 in
set_option maxRecDepth 20000 in
theorem lh_loop {court_shoeCount : Int32} {court_suitCount : Int32} {court_claimCount : Int32} {inq_day : Int32} {inq_shoeLeftOut : Int32} {court_laws : Nat → Option Nat} {L_n : Nat → Nat} {L_code : Nat → Nat → Int32} {x1 : Int32} : ∀ (n : Nat) (W x3 : Int32) (nm sk : Nat → Int32) (R : Int32 × Int32 × (Nat → Int32) × (Nat → Int32)), 0 ≤ x3.toInt → x3.toInt ≤ 8 → 0 ≤ W.toInt → W.toInt < 256 → (∀ i, i < 11 → i ≠ 3 → nm i = HF x1 0 i) → G_X3_landsHeeded court_shoeCount court_claimCount court_suitCount court_laws inq_day inq_shoeLeftOut L_n L_code n W x3 x1 nm sk = some R → (0 ≤ R.1.toInt ∧ R.1.toInt < 256) ∧ ∀ y : Nat, y < 8 → ((y : Int) < x3.toInt → bt R.1 (Int32.ofNat y) = bt W (Int32.ofNat y)) ∧ (x3.toInt ≤ y → ∃ (nm2 st2 u : Nat → Int32) (r : Int32), (∀ i, i < 11 → nm2 i = HF x1 (Int32.ofNat y) i) ∧ f_X3_lawGives 3 court_shoeCount court_claimCount court_suitCount court_laws inq_day x1 inq_shoeLeftOut nm2 st2 L_n L_code = some (r, u) ∧ (bt R.1 (Int32.ofNat y) = 0 ↔ r = 0 ∧ bt W (Int32.ofNat y) = 0)) := by
  have e8 : (8 : Int32).toInt = 8 := by decide
  intro n
  induction n with
  | zero =>
    intro W x3 nm sk R _ _ _ _ _ h
    cases h
  | succ n ih =>
    intro W x3 nm sk R h0 h1 w0 w1 hn h
    replace h : B_X3_landsHeeded_38 (G_X3_landsHeeded court_shoeCount court_claimCount court_suitCount court_laws inq_day inq_shoeLeftOut L_n L_code n) court_shoeCount court_claimCount court_suitCount court_laws inq_day inq_shoeLeftOut L_n L_code W x3 x1 nm sk = some R := h
    unfold B_X3_landsHeeded_38 at h
    by_cases c : (8 : Int32) ≤ x3
    · replace h := Option.some.inj (zk_t c h)
      rw [i32_le, e8] at c
      subst h
      exact ⟨⟨w0, w1⟩, fun y hy => ⟨fun _ => rfl, fun k => by exfalso; omega⟩⟩
    · replace h := zk_f c h
      rw [i32_le, e8] at c
      replace h := zk_lt h
      obtain ⟨nm2, en, h⟩ := h
      replace h := zk_o2 h
      obtain ⟨r, u, hv, h⟩ := h
      have hn2 : ∀ i, i < 11 → nm2 i = HF x1 x3 i := fun i hi => by rw [en]; exact HF_3 hn hi
      have hn3 : ∀ i, i < 11 → i ≠ 3 → nm2 i = HF x1 0 i := fun i hi c3 => by
        rw [en, upd_n (by exact c3)]
        exact hn i hi c3
      obtain ⟨j, hj⟩ : ∃ j : Nat, x3.toInt = (j : Int) := ⟨x3.toInt.toNat, by omega⟩
      obtain ⟨w, hw⟩ : ∃ w : Nat, W.toInt = (w : Int) := ⟨W.toInt.toNat, by omega⟩
      have ej := i32_o hj
      have ew := i32_o hw
      have s3 := i32_s (a := x3) (by omega)
      have b1 := bw_lt ⟨w, by omega⟩ ⟨j, by omega⟩
      have b2 := bw_or ⟨w, by omega⟩ ⟨j, by omega⟩
      by_cases c2 : r = 0
      · replace h := zk_t c2 h
        unfold B_X3_landsHeeded_67 at h
        replace h := zk_lt h
        obtain ⟨_, e1, h⟩ := h
        replace h := zk_lt h
        obtain ⟨_, e2, h⟩ := h
        have e0 : W ||| (0 : Int32) = W := Int32.or_zero
        rw [e0] at e1
        subst e1
        subst e2
        obtain ⟨q1, q2⟩ := ih _ _ _ _ _ (by omega) (by omega) w0 w1 hn3 h
        refine ⟨q1, fun y hy => ⟨fun k => (q2 y hy).1 (by omega), fun k => ?_⟩⟩
        by_cases cy : y = j
        · subst cy
          exact ⟨nm2, sk, u, r, by rw [← ej]; exact hn2, hv, by rw [(q2 y hy).1 (by omega)]; exact ⟨fun z => ⟨c2, z⟩, fun z => z.2⟩⟩
        · exact (q2 y hy).2 (by omega)
      · replace h := zk_f c2 h
        unfold B_X3_landsHeeded_67 at h
        replace h := zk_lt h
        obtain ⟨_, e1, h⟩ := h
        replace h := zk_lt h
        obtain ⟨_, e2, h⟩ := h
        rw [ew, ej] at e1
        subst e1
        subst e2
        obtain ⟨q1, q2⟩ := ih _ _ _ _ _ (by omega) (by omega) b1.1 b1.2 hn3 h
        refine ⟨q1, fun y hy => ⟨fun k => ?_, fun k => ?_⟩⟩
        · have b3 := b2 ⟨y, hy⟩
          rw [if_neg (fun z => by have := congrArg Fin.val z; simp only at this; omega)] at b3
          have b4 : bt W (Int32.ofNat y) = bt (Int32.ofNat w) (Int32.ofNat y) := congrArg (fun a => bt a (Int32.ofNat y)) ew
          exact ((q2 y hy).1 (by omega)).trans (b3.trans b4.symm)
        · have b3 := b2 ⟨y, hy⟩
          by_cases cy : y = j
          · subst cy
            rw [if_pos rfl] at b3
            refine ⟨nm2, sk, u, r, by rw [← ej]; exact hn2, hv, ?_⟩
            rw [(q2 y hy).1 (by omega)]
            exact ⟨fun z => absurd (b3.symm.trans z) (by decide), fun z => absurd z.1 c2⟩
          · rw [if_neg (fun z => by have := congrArg Fin.val z; simp only at this; omega)] at b3
            obtain ⟨m1, m2, m3, m4, m5, m6, m7⟩ := (q2 y hy).2 (by omega)
            have b4 : bt W (Int32.ofNat y) = bt (Int32.ofNat w) (Int32.ofNat y) := congrArg (fun a => bt a (Int32.ofNat y)) ew
            exact ⟨m1, m2, m3, m4, m5, m6, m7.trans ⟨fun z => ⟨z.1, b4.trans (b3.symm.trans z.2)⟩, fun z => ⟨z.1, b3.trans (b4.symm.trans z.2)⟩⟩⟩
