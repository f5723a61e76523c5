
def LLC (cd : Nat → Int32) : Nat → List (List (Int32 × Int32) × List (Int32 × Int32)) → Nat → Prop
  | a, [], e => a = e
  | a, ln :: t, e => LNC cd a ln ∧ LLC cd (a + lnl ln) t e
def LLM (ac wi te le : Nat → Int32) (b : Nat) : Nat → Nat → List (List (Int32 × Int32) × List (Int32 × Int32)) → Nat → Prop
  | _, l, [], e => l = e
  | r, l, ln :: t, e => LNM ac wi te le b r l ln ∧ LLM ac wi te le b (r + 1) (l + ln.1.length + ln.2.length) t e
theorem LLC_le {cd : Nat → Int32} : ∀ (Ls : List (List (Int32 × Int32) × List (Int32 × Int32))) (a e : Nat), LLC cd a Ls e → a ≤ e
  | [], a, e, h => Nat.le_of_eq h
  | x :: t, a, e, h => by
    have := LLC_le t _ e h.2
    omega
theorem LLM_le {ac wi te le : Nat → Int32} {b : Nat} : ∀ (Ls : List (List (Int32 × Int32) × List (Int32 × Int32))) (r l e : Nat), LLM ac wi te le b r l Ls e → l ≤ e
  | [], r, l, e, h => Nat.le_of_eq h
  | x :: t, r, l, e, h => by
    have := LLM_le t _ _ e h.2
    omega
theorem LNC_fr {cd cd2 : Nat → Int32} {a : Nat} {ln : List (Int32 × Int32) × List (Int32 × Int32)} (h : LNC cd a ln) (hf : ∀ k, a ≤ k → k < a + lnl ln → cd2 k = cd k) : LNC cd2 a ln := by
  unfold lnl at hf
  rcases h with ⟨h1, h2, h3⟩ | ⟨h1, h2, h3, h4, h5⟩
  · rw [if_pos (show ln.1.length = 0 by rw [h1]; rfl)] at hf
    exact Or.inl ⟨h1, CTk_fr h2 (fun k k1 k2 => hf k (by omega) (by omega)), by rw [hf _ (by omega) (by omega)]; exact h3⟩
  · rw [if_neg (show ¬ ln.1.length = 0 by omega)] at hf
    exact Or.inr ⟨h1, CTk_fr h2 (fun k k1 k2 => hf k (by omega) (by omega)), by rw [hf _ (by omega) (by omega)]; exact h3, CTk_fr h4 (fun k k1 k2 => hf k (by omega) (by omega)), by rw [hf _ (by omega) (by omega)]; exact h5⟩
theorem LNM_fr {ac wi te le ac2 wi2 te2 le2 : Nat → Int32} {b b2 r r2 l : Nat} {ln : List (Int32 × Int32) × List (Int32 × Int32)} (h : LNM ac wi te le b r l ln) (hf : ∀ k, l ≤ k → k < l + ln.1.length + ln.2.length → ac2 (b2 + k) = ac (b + k) ∧ wi2 (b2 + k) = wi (b + k)) (h2 : te2 r2 = te r ∧ le2 r2 = le r) : LNM ac2 wi2 te2 le2 b2 r2 l ln := by
  obtain ⟨q1, q2, q3⟩ := h
  refine ⟨fun k x hk => ?_, by rw [h2.1]; exact q2, by rw [h2.2]; exact q3⟩
  have hl := (List.getElem?_eq_some_iff.mp hk).1
  rw [List.length_append] at hl
  have := q1 k x hk
  have e := hf (l + k) (by omega) (by omega)
  rw [← Nat.add_assoc, ← Nat.add_assoc] at e
  rw [e.1, e.2]
  exact this
theorem LLC_sn {cd cd2 : Nat → Int32} {ln : List (Int32 × Int32) × List (Int32 × Int32)} : ∀ (Ls : List (List (Int32 × Int32) × List (Int32 × Int32))) (a e : Nat), LLC cd a Ls e → (∀ k, k < e → cd2 k = cd k) → LNC cd2 e ln → LLC cd2 a (Ls ++ [ln]) (e + lnl ln)
  | [], a, e, h, _, hl => by
    have h : a = e := h
    subst h
    exact ⟨hl, rfl⟩
  | x :: t, a, e, h, hf, hl => by
    have q := LLC_le t _ e h.2
    exact ⟨LNC_fr h.1 (fun k _ k2 => hf k (by omega)), LLC_sn t _ e h.2 hf hl⟩
theorem LLM_sn {ac wi te le ac2 wi2 te2 le2 : Nat → Int32} {b q : Nat} {ln : List (Int32 × Int32) × List (Int32 × Int32)} : ∀ (Ls : List (List (Int32 × Int32) × List (Int32 × Int32))) (r l e : Nat), q = r + Ls.length → LLM ac wi te le b r l Ls e → (∀ k, k < b + e → ac2 k = ac k ∧ wi2 k = wi k) → (∀ i, i < q → te2 i = te i ∧ le2 i = le i) → LNM ac2 wi2 te2 le2 b q e ln → LLM ac2 wi2 te2 le2 b r l (Ls ++ [ln]) (e + ln.1.length + ln.2.length)
  | [], r, l, e, hq, h, _, _, hl => by
    have h : l = e := h
    have hq : q = r := hq
    subst h
    subst hq
    exact ⟨hl, rfl⟩
  | x :: t, r, l, e, hq, h, hf, hg, hl => by
    have z := LLM_le t _ _ e h.2
    have hq : q = r + (t.length + 1) := hq
    exact ⟨LNM_fr h.1 (fun k _ k2 => hf (b + k) (by omega)) (hg r (by omega)), LLM_sn t (r + 1) _ e (by omega) h.2 hf hg hl⟩
theorem LLM_cp {ac wi te le ac2 wi2 te2 le2 : Nat → Int32} {b b2 : Nat} : ∀ (Ls : List (List (Int32 × Int32) × List (Int32 × Int32))) (r r2 l e : Nat), LLM ac wi te le b r l Ls e → (∀ k, k < e → ac2 (b2 + k) = ac (b + k) ∧ wi2 (b2 + k) = wi (b + k)) → (∀ i, i < Ls.length → te2 (r2 + i) = te (r + i) ∧ le2 (r2 + i) = le (r + i)) → LLM ac2 wi2 te2 le2 b2 r2 l Ls e
  | [], _, _, l, e, h, _, _ => h
  | x :: t, r, r2, l, e, h, hf, hg => by
    have z := LLM_le t _ _ e h.2
    refine ⟨LNM_fr h.1 (fun k _ k2 => hf k (by omega)) (hg 0 (Nat.succ_pos _)), LLM_cp t (r + 1) (r2 + 1) _ e h.2 hf (fun i hi => ?_)⟩
    have := hg (i + 1) (Nat.succ_lt_succ hi)
    have e1 : r2 + (i + 1) = r2 + 1 + i := by omega
    have e2 : r + (i + 1) = r + 1 + i := by omega
    rw [e1, e2] at this
    exact this
theorem LLM_b {ac wi te le : Nat → Int32} {b : Nat} : ∀ (Ls : List (List (Int32 × Int32) × List (Int32 × Int32))) (r l e : Nat), LLM ac wi te le b r l Ls e → ∀ i, i < Ls.length → (0 ≤ (te (r + i)).toInt ∧ (te (r + i)).toInt ≤ e) ∧ (0 ≤ (le (r + i)).toInt ∧ (le (r + i)).toInt ≤ e)
  | [], _, _, _, _, i, hi => absurd hi (Nat.not_lt_zero i)
  | x :: t, r, l, e, h, i, hi => by
    have z := LLM_le t _ _ e h.2
    obtain ⟨_, q2, q3⟩ := h.1
    cases i with
    | zero =>
      show (0 ≤ (te r).toInt ∧ (te r).toInt ≤ e) ∧ (0 ≤ (le r).toInt ∧ (le r).toInt ≤ e)
      rw [q2, q3]
      omega
    | succ i =>
      have := LLM_b t (r + 1) _ e h.2 i (Nat.lt_of_succ_lt_succ hi)
      have e1 : r + 1 + i = r + (i + 1) := by omega
      rw [e1] at this
      exact this
theorem LLM_tk {ac wi te le : Nat → Int32} {b : Nat} : ∀ (Ls : List (List (Int32 × Int32) × List (Int32 × Int32))) (r l e : Nat), LLM ac wi te le b r l Ls e → ∀ k, l ≤ k → k < e → ∃ ln ∈ Ls, ∃ x ∈ ln.1 ++ ln.2, ac (b + k) = x.1
  | [], _, l, e, h, k, k1, k2 => by
    have h : l = e := h
    omega
  | x :: t, r, l, e, h, k, k1, k2 => by
    by_cases c : k < l + x.1.length + x.2.length
    · have hl : k - l < (x.1 ++ x.2).length := by
        rw [List.length_append]
        omega
      have q := h.1.1 (k - l) ((x.1 ++ x.2)[k - l]) (List.getElem?_eq_getElem hl)
      have e1 : b + l + (k - l) = b + k := by omega
      rw [e1] at q
      exact ⟨x, List.mem_cons_self .., (x.1 ++ x.2)[k - l], List.getElem_mem hl, q.1⟩
    · obtain ⟨ln, h1, h2⟩ := LLM_tk t _ _ e h.2 k (by omega) k2
      exact ⟨ln, List.mem_cons_of_mem _ h1, h2⟩
theorem ix130 {x y : Int32} (hx : 0 ≤ x.toInt ∧ x.toInt ≤ 32) (hy : 0 ≤ y.toInt ∧ y.toInt ≤ 200) : (((130 : Int32) * x) + y).toNatClampNeg = 130 * x.toInt.toNat + y.toInt.toNat := by
  have e0 : (130 : Int32).toInt = 130 := by decide
  have e : ((130 : Int32) * x).toInt = 130 * x.toInt := by
    rw [Int32.toInt_mul, e0]
    exact zi_bm2 (by omega) (by omega)
  show (((130 : Int32) * x) + y).toInt.toNat = _
  rw [i32_a (by omega) (by omega), e]
  omega
theorem ix61 {x y : Int32} (hx : 0 ≤ x.toInt ∧ x.toInt ≤ 32) (hy : 0 ≤ y.toInt ∧ y.toInt ≤ 200) : (((61 : Int32) * x) + y).toNatClampNeg = 61 * x.toInt.toNat + y.toInt.toNat := by
  have e0 : (61 : Int32).toInt = 61 := by decide
  have e : ((61 : Int32) * x).toInt = 61 * x.toInt := by
    rw [Int32.toInt_mul, e0]
    exact zi_bm2 (by omega) (by omega)
  show (((61 : Int32) * x) + y).toInt.toNat = _
  rw [i32_a (by omega) (by omega), e]
  omega
theorem ixC {c y : Int32} {n : Nat} (hc : c.toInt = n) (hn : n ≤ 5000) (hy : 0 ≤ y.toInt ∧ y.toInt ≤ 200) : (c + y).toNatClampNeg = n + y.toInt.toNat := by
  show (c + y).toInt.toNat = _
  rw [i32_a (by omega) (by omega), hc]
  omega
set_option maxHeartbeats 4000000 in
set_option maxRecDepth 20000 in
theorem cp219 {mod_code : Int32} {court_shoeCount : Int32} {mod_claims : Int32} {court_suitCount : Int32} {mod_doneMany : Int32} {mod_undoneMany : Int32} {mod_isBoth : Int32} {mod_wished : Int32} {mod_bestMany : Int32} {mod_bestRow : Int32} {mod_ringDigits : Int32} {mod_traces : Int32} {tm : Nat → Int32} {x2 : Int32} {he g o l : Int32} {ac wi lm : Nat → Int32} {cnt : Nat} (h2 : 0 ≤ x2.toInt ∧ x2.toInt ≤ 31) (hm : (lm x2.toInt.toNat).toInt = cnt) (hc : cnt ≤ 61) : ∀ (n : Nat) (x3 ts : Int32) (te le : Nat → Int32) (S : Int32 × Int32 × Int32 × Int32 × Int32 × Int32 × (Nat → Int32) × (Nat → Int32) × (Nat → Int32) × (Nat → Int32) × (Nat → Int32)), 0 ≤ x3.toInt → x3.toInt ≤ cnt → (∀ i, i < cnt → (0 ≤ (te (1952 + i)).toInt ∧ (te (1952 + i)).toInt ≤ 1000) ∧ (0 ≤ (le (1952 + i)).toInt ∧ (le (1952 + i)).toInt ≤ 1000)) → (G_X12_law mod_code court_shoeCount mod_claims court_suitCount mod_doneMany mod_undoneMany mod_isBoth mod_wished mod_bestMany mod_bestRow mod_ringDigits mod_traces tm n).2.2 x2 x3 ts he g o l ac wi lm te le = some S → S.1 = 1 ∧ S.2.1 = ts ∧ S.2.2.2.2.2.2.1 = ac ∧ S.2.2.2.2.2.2.2.1 = wi ∧ S.2.2.2.2.2.2.2.2.1 = lm ∧ (∀ i, S.2.2.2.2.2.2.2.2.2.1 i = if 61 * x2.toInt.toNat + x3.toInt.toNat ≤ i ∧ i < 61 * x2.toInt.toNat + cnt then te (1952 + (i - 61 * x2.toInt.toNat)) else te i) ∧ (∀ i, S.2.2.2.2.2.2.2.2.2.2 i = if 61 * x2.toInt.toNat + x3.toInt.toNat ≤ i ∧ i < 61 * x2.toInt.toNat + cnt then le (1952 + (i - 61 * x2.toInt.toNat)) else le i) := by
  intro n
  induction n with
  | zero =>
    intro x3 ts te le S _ _ _ h
    cases h
  | succ n ih =>
    intro x3 ts te le S h0 h1 hb h
    replace h : B_X12_law_219 (G_X12_law mod_code court_shoeCount mod_claims court_suitCount mod_doneMany mod_undoneMany mod_isBoth mod_wished mod_bestMany mod_bestRow mod_ringDigits mod_traces tm n).1 (G_X12_law mod_code court_shoeCount mod_claims court_suitCount mod_doneMany mod_undoneMany mod_isBoth mod_wished mod_bestMany mod_bestRow mod_ringDigits mod_traces tm n).2.1 (G_X12_law mod_code court_shoeCount mod_claims court_suitCount mod_doneMany mod_undoneMany mod_isBoth mod_wished mod_bestMany mod_bestRow mod_ringDigits mod_traces tm n).2.2 mod_code court_shoeCount mod_claims court_suitCount mod_doneMany mod_undoneMany mod_isBoth mod_wished mod_bestMany mod_bestRow mod_ringDigits mod_traces tm x2 x3 ts he g o l ac wi lm te le = some S := h
    unfold B_X12_law_219 at h
    replace h := zk_gd h
    obtain ⟨_, h⟩ := h
    have ex : x2.toNatClampNeg = x2.toInt.toNat := rfl
    rw [ex] at h
    have e1952 : (1952 : Int32).toInt = ((1952 : Nat) : Int) := by decide
    by_cases c : lm x2.toInt.toNat ≤ x3
    · replace h := (Option.some.inj (zk_t c h)).symm
      rw [i32_le, hm] at c
      rw [h]
      exact ⟨rfl, rfl, rfl, rfl, rfl, fun i => by rw [if_neg (by omega)], fun i => by rw [if_neg (by omega)]⟩
    · replace h := zk_f c h
      rw [i32_le, hm] at c
      replace h := zk_gd h
      obtain ⟨_, h⟩ := h
      replace h := zk_lt h
      obtain ⟨v56, e56, h⟩ := h
      replace h := zk_gd h
      obtain ⟨_, h⟩ := h
      replace h := zk_lt h
      obtain ⟨f58, e58, h⟩ := h
      replace h := zk_gd h
      obtain ⟨_, h⟩ := h
      replace h := zk_lt h
      obtain ⟨v60, e60, h⟩ := h
      replace h := zk_gd h
      obtain ⟨_, h⟩ := h
      replace h := zk_lt h
      obtain ⟨f62, e62, h⟩ := h
      replace h := zk_lt h
      obtain ⟨v63, rfl, h⟩ := h
      rw [ixC e1952 (by omega) ⟨h0, by omega⟩] at e56 e60
      rw [ix61 ⟨h2.1, by omega⟩ ⟨h0, by omega⟩] at e58 e62
      have hb3 := hb x3.toInt.toNat (by omega)
      rw [zn_shortI (by rw [e56]; omega), e56] at e58
      rw [zn_shortI (by rw [e60]; omega), e60] at e62
      have s3 := i32_s (a := x3) (by omega)
      obtain ⟨q1, q2, q3, q4, q5, q6, q7⟩ := ih _ _ _ _ S (by omega) (by omega) (fun i hi => by
        rw [e58, e62, upd_n (by omega), upd_n (by omega)]
        exact hb i hi) h
      refine ⟨q1, q2, q3, q4, q5, fun i => ?_, fun i => ?_⟩
      · rw [q6 i, s3, e58]
        by_cases ci : i = 61 * x2.toInt.toNat + x3.toInt.toNat
        · rw [if_neg (by omega), if_pos (by omega), upd_at ci]
          congr 1
          omega
        · by_cases c2 : 61 * x2.toInt.toNat + (x3.toInt + 1).toNat ≤ i ∧ i < 61 * x2.toInt.toNat + cnt
          · rw [if_pos c2, if_pos (by omega), upd_n (by omega)]
          · rw [if_neg c2, if_neg (by omega), upd_n ci]
      · rw [q7 i, s3, e62]
        by_cases ci : i = 61 * x2.toInt.toNat + x3.toInt.toNat
        · rw [if_neg (by omega), if_pos (by omega), upd_at ci]
          congr 1
          omega
        · by_cases c2 : 61 * x2.toInt.toNat + (x3.toInt + 1).toNat ≤ i ∧ i < 61 * x2.toInt.toNat + cnt
          · rw [if_pos c2, if_pos (by omega), upd_n (by omega)]
          · rw [if_neg c2, if_neg (by omega), upd_n ci]
set_option maxHeartbeats 4000000 in
set_option maxRecDepth 20000 in
theorem cp146 {mod_code : Int32} {court_shoeCount : Int32} {mod_claims : Int32} {court_suitCount : Int32} {mod_doneMany : Int32} {mod_undoneMany : Int32} {mod_isBoth : Int32} {mod_wished : Int32} {mod_bestMany : Int32} {mod_bestRow : Int32} {mod_ringDigits : Int32} {mod_traces : Int32} {tm : Nat → Int32} {x2 : Int32} {he g o l : Int32} {lm te le : Nat → Int32} (h2 : 0 ≤ x2.toInt ∧ x2.toInt ≤ 31) (hm : 0 ≤ (lm 32).toInt ∧ (lm 32).toInt ≤ 61) (hl : 0 ≤ l.toInt ∧ l.toInt ≤ 120) (hb : ∀ i, i < (lm 32).toInt.toNat → (0 ≤ (te (1952 + i)).toInt ∧ (te (1952 + i)).toInt ≤ 1000) ∧ (0 ≤ (le (1952 + i)).toInt ∧ (le (1952 + i)).toInt ≤ 1000)) : ∀ (n : Nat) (x3 ts : Int32) (ac wi : Nat → Int32) (S : Int32 × Int32 × Int32 × Int32 × Int32 × Int32 × (Nat → Int32) × (Nat → Int32) × (Nat → Int32) × (Nat → Int32) × (Nat → Int32)), 0 ≤ x3.toInt → x3.toInt ≤ l.toInt → (∀ i, i < l.toInt.toNat → -128 ≤ (ac (4160 + i)).toInt ∧ (ac (4160 + i)).toInt ≤ 127) → (G_X12_law mod_code court_shoeCount mod_claims court_suitCount mod_doneMany mod_undoneMany mod_isBoth mod_wished mod_bestMany mod_bestRow mod_ringDigits mod_traces tm n).2.1 x2 x3 ts he g o l ac wi lm te le = some S → S.1 = 1 ∧ S.2.1 = ts ∧ (∀ i, S.2.2.2.2.2.2.1 i = if 130 * x2.toInt.toNat + x3.toInt.toNat ≤ i ∧ i < 130 * x2.toInt.toNat + l.toInt.toNat then ac (4160 + (i - 130 * x2.toInt.toNat)) else ac i) ∧ (∀ i, S.2.2.2.2.2.2.2.1 i = if 130 * x2.toInt.toNat + x3.toInt.toNat ≤ i ∧ i < 130 * x2.toInt.toNat + l.toInt.toNat then wi (4160 + (i - 130 * x2.toInt.toNat)) else wi i) ∧ S.2.2.2.2.2.2.2.2.1 = upd lm x2.toInt.toNat (lm 32) ∧ (∀ i, S.2.2.2.2.2.2.2.2.2.1 i = if 61 * x2.toInt.toNat ≤ i ∧ i < 61 * x2.toInt.toNat + (lm 32).toInt.toNat then te (1952 + (i - 61 * x2.toInt.toNat)) else te i) ∧ (∀ i, S.2.2.2.2.2.2.2.2.2.2 i = if 61 * x2.toInt.toNat ≤ i ∧ i < 61 * x2.toInt.toNat + (lm 32).toInt.toNat then le (1952 + (i - 61 * x2.toInt.toNat)) else le i) := by
  intro n
  induction n with
  | zero =>
    intro x3 ts ac wi S _ _ _ h
    cases h
  | succ n ih =>
    intro x3 ts ac wi S h0 h1 ha h
    replace h : B_X12_law_146 (G_X12_law mod_code court_shoeCount mod_claims court_suitCount mod_doneMany mod_undoneMany mod_isBoth mod_wished mod_bestMany mod_bestRow mod_ringDigits mod_traces tm n).1 (G_X12_law mod_code court_shoeCount mod_claims court_suitCount mod_doneMany mod_undoneMany mod_isBoth mod_wished mod_bestMany mod_bestRow mod_ringDigits mod_traces tm n).2.1 (G_X12_law mod_code court_shoeCount mod_claims court_suitCount mod_doneMany mod_undoneMany mod_isBoth mod_wished mod_bestMany mod_bestRow mod_ringDigits mod_traces tm n).2.2 mod_code court_shoeCount mod_claims court_suitCount mod_doneMany mod_undoneMany mod_isBoth mod_wished mod_bestMany mod_bestRow mod_ringDigits mod_traces tm x2 x3 ts he g o l ac wi lm te le = some S := h
    unfold B_X12_law_146 at h
    have e32 : (32 : Int32).toNatClampNeg = 32 := by decide
    rw [e32] at h
    have ex : x2.toNatClampNeg = x2.toInt.toNat := rfl
    rw [ex] at h
    have e4160 : (4160 : Int32).toInt = ((4160 : Nat) : Int) := by decide
    by_cases c : l ≤ x3
    · replace h := zk_t c h
      rw [i32_le] at c
      replace h := zk_lt h
      obtain ⟨v41, e41, h⟩ := h
      replace h := zk_gd h
      obtain ⟨_, h⟩ := h
      replace h := zk_lt h
      obtain ⟨f43, e43, h⟩ := h
      rw [e41] at e43
      have hm2 : (f43 x2.toInt.toNat).toInt = ((lm 32).toInt.toNat : Int) := by
        rw [e43, upd_at rfl]
        omega
      obtain ⟨q1, q2, q3, q4, q5, q6, q7⟩ := cp219 h2 hm2 (by omega) n _ _ _ _ S (by decide) (by rw [z32_0]; omega) hb h
      rw [z32_0] at q6 q7
      refine ⟨q1, q2, fun i => by rw [q3, if_neg (by omega)], fun i => by rw [q4, if_neg (by omega)], by rw [q5, e43], q6, q7⟩
    · replace h := zk_f c h
      rw [i32_le] at c
      replace h := zk_gd h
      obtain ⟨_, h⟩ := h
      replace h := zk_lt h
      obtain ⟨v45, e45, h⟩ := h
      replace h := zk_gd h
      obtain ⟨_, h⟩ := h
      replace h := zk_lt h
      obtain ⟨f47, e47, h⟩ := h
      replace h := zk_gd h
      obtain ⟨_, h⟩ := h
      replace h := zk_lt h
      obtain ⟨v49, e49, h⟩ := h
      replace h := zk_gd h
      obtain ⟨_, h⟩ := h
      replace h := zk_lt h
      obtain ⟨f51, e51, h⟩ := h
      replace h := zk_lt h
      obtain ⟨v52, rfl, h⟩ := h
      rw [ixC e4160 (by omega) ⟨h0, by omega⟩] at e45 e49
      rw [ix130 ⟨h2.1, by omega⟩ ⟨h0, by omega⟩] at e47 e51
      have ha3 := ha x3.toInt.toNat (by omega)
      rw [zn_byteI (by rw [e45]; exact ha3), e45] at e47
      rw [e49] at e51
      have s3 := i32_s (a := x3) (by omega)
      obtain ⟨q1, q2, q3, q4, q5⟩ := ih _ _ _ _ S (by omega) (by omega) (fun i hi => by
        rw [e47, upd_n (by omega)]
        exact ha i hi) h
      refine ⟨q1, q2, fun i => ?_, fun i => ?_, q5⟩
      · rw [q3 i, s3, e47]
        by_cases ci : i = 130 * x2.toInt.toNat + x3.toInt.toNat
        · rw [if_neg (by omega), if_pos (by omega), upd_at ci]
          congr 1
          omega
        · by_cases c2 : 130 * x2.toInt.toNat + (x3.toInt + 1).toNat ≤ i ∧ i < 130 * x2.toInt.toNat + l.toInt.toNat
          · rw [if_pos c2, if_pos (by omega), upd_n (by omega)]
          · rw [if_neg c2, if_neg (by omega), upd_n ci]
      · rw [q4 i, s3, e51]
        by_cases ci : i = 130 * x2.toInt.toNat + x3.toInt.toNat
        · rw [if_neg (by omega), if_pos (by omega), upd_at ci]
          congr 1
          omega
        · by_cases c2 : 130 * x2.toInt.toNat + (x3.toInt + 1).toNat ≤ i ∧ i < 130 * x2.toInt.toNat + l.toInt.toNat
          · rw [if_pos c2, if_pos (by omega), upd_n (by omega)]
          · rw [if_neg c2, if_neg (by omega), upd_n ci]
theorem ul_ix {x1 : Int32} (h1 : 0 ≤ x1.toInt) (h2 : (x1 / 10).toInt < 4) (h3 : (x1 - x1 / 10 * 10).toInt < 8) : 0 ≤ (((8 : Int32) * (x1 / 10)) + (x1 - x1 / 10 * 10)).toInt ∧ (((8 : Int32) * (x1 / 10)) + (x1 - x1 / 10 * 10)).toInt ≤ 31 := by
  have e := zs_dv10 x1 h1
  have e10 : (10 : Int32).toInt = 10 := by decide
  have e8 : (8 : Int32).toInt = 8 := by decide
  have hlt := Int32.toInt_lt x1
  rw [e] at h2
  have em : (x1 - x1 / 10 * 10).toInt = x1.toInt - x1.toInt / 10 * 10 := by
    rw [Int32.toInt_sub, Int32.toInt_mul, e, e10]
    rw [zi_bm2 (e := x1.toInt / 10 * 10) (by omega) (by omega)]
    exact zi_bm2 (by omega) (by omega)
  rw [em] at h3
  rw [Int32.toInt_add, Int32.toInt_mul, e, e8, em]
  rw [zi_bm2 (e := 8 * (x1.toInt / 10)) (by omega) (by omega)]
  rw [zi_bm2 (by omega) (by omega)]
  omega
theorem TKV_b {x : Int32 × Int32} (h : TKV x) : -128 ≤ x.1.toInt ∧ x.1.toInt ≤ 127 := by
  rcases h with ⟨h, _⟩ | ⟨h, _⟩ | ⟨h, _⟩
  · rw [h]; decide
  · rw [h]; decide
  · rcases h with h | h | h | h | h | h | h | h | h | h | h | h <;> rw [h] <;> decide
theorem LLC_tk {cd : Nat → Int32} : ∀ (Ls : List (List (Int32 × Int32) × List (Int32 × Int32))) (a e : Nat), LLC cd a Ls e → ∀ ln ∈ Ls, ∀ x ∈ ln.1 ++ ln.2, TKV x
  | [], _, _, _, ln, hm, _, _ => absurd hm (List.not_mem_nil)
  | y :: t, a, e, h, ln, hm, x, hx => by
    rcases List.mem_cons.mp hm with hm | hm
    · subst hm
      have key : ∀ (b : Nat) (L : List (Int32 × Int32)), CTk cd b L → x ∈ L → TKV x := fun b L hc hL => by
        obtain ⟨k, hk⟩ := List.getElem?_of_mem hL
        exact (hc k x hk).2
      rcases h.1 with ⟨q1, q2, _⟩ | ⟨_, q2, _, q4, _⟩
      · rw [q1] at hx
        exact key _ _ q2 hx
      · rcases List.mem_append.mp hx with hx | hx
        · exact key _ _ q2 hx
        · exact key _ _ q4 hx
    · exact LLC_tk t _ e h.2 ln hm x hx
def FRL (P : Nat) (ac wi lm te le ac2 wi2 lm2 te2 le2 : Nat → Int32) : Prop := (∀ k, k < 4160 → (k < 130 * P ∨ 130 * P + 130 ≤ k) → ac2 k = ac k ∧ wi2 k = wi k) ∧ (∀ i, i < 1952 → (i < 61 * P ∨ 61 * P + 61 ≤ i) → te2 i = te i ∧ le2 i = le i) ∧ (∀ q, q < 32 → q ≠ P → lm2 q = lm q)
theorem FRL_tr {P : Nat} {ac wi lm te le ac2 wi2 lm2 te2 le2 ac3 wi3 lm3 te3 le3 : Nat → Int32} (h0 : (∀ k, k < 4160 → ac2 k = ac k ∧ wi2 k = wi k) ∧ (∀ i, i < 1952 → te2 i = te i ∧ le2 i = le i) ∧ (∀ q, q < 32 → lm2 q = lm q)) (h : FRL P ac2 wi2 lm2 te2 le2 ac3 wi3 lm3 te3 le3) : FRL P ac wi lm te le ac3 wi3 lm3 te3 le3 := by
  obtain ⟨a1, a2, a3⟩ := h0
  obtain ⟨b1, b2, b3⟩ := h
  refine ⟨fun k k1 k2 => ?_, fun i i1 i2 => ?_, fun q q1 q2 => ?_⟩
  · rw [(b1 k k1 k2).1, (b1 k k1 k2).2]
    exact a1 k k1
  · rw [(b2 i i1 i2).1, (b2 i i1 i2).2]
    exact a2 i i1
  · rw [b3 q q1 q2]
    exact a3 q q1
def RDI (ts : Int32) (Ls : List (List (Int32 × Int32) × List (Int32 × Int32))) (x1 sz a f he g o l : Int32) (cd ac wi lm te le : Nat → Int32) : Prop := f.toInt < 0 ∧ g.toInt < 0 ∧ he = a ∧ PB ts a ∧ o = 0 ∧ (0 ≤ sz.toInt ∧ sz.toInt ≤ a.toInt + 1) ∧ (0 ≤ l.toInt ∧ l.toInt ≤ a.toInt) ∧ (lm 32).toInt = (Ls.length : Int) ∧ 1 ≤ Ls.length ∧ 2 * (Ls.length : Int) ≤ a.toInt + 1 ∧ x1.toInt + 1 = (Ls.length : Int) ∧ LLC cd 0 Ls sz.toInt.toNat ∧ LLM ac wi te le 4160 1952 0 Ls l.toInt.toNat ∧ (∀ ln ∈ Ls, LNS ln)
def RDO (P : Nat) (ac wi lm te le : Nat → Int32) (R : Bool × Int32 × Int32 × Int32 × (Nat → Int32)) (S : Int32 × Int32 × Int32 × Int32 × Int32 × Int32 × (Nat → Int32) × (Nat → Int32) × (Nat → Int32) × (Nat → Int32) × (Nat → Int32)) : Prop := (R.1 = false ∧ 0 ≤ R.2.2.2.1.toInt ∧ S.1 = (-100 : Int32) - R.2.2.2.1) ∨ (R.1 = true ∧ S.1 = 1 ∧ (0 ≤ R.2.1.toInt ∧ R.2.1.toInt ≤ 121) ∧ FRL P ac wi lm te le S.2.2.2.2.2.2.1 S.2.2.2.2.2.2.2.1 S.2.2.2.2.2.2.2.2.1 S.2.2.2.2.2.2.2.2.2.1 S.2.2.2.2.2.2.2.2.2.2 ∧ ∃ (Ls : List (List (Int32 × Int32) × List (Int32 × Int32))) (e : Nat), 1 ≤ Ls.length ∧ Ls.length ≤ 61 ∧ e ≤ 120 ∧ (∀ ln ∈ Ls, LNS ln) ∧ LLC R.2.2.2.2 0 Ls R.2.1.toInt.toNat ∧ LLM S.2.2.2.2.2.2.1 S.2.2.2.2.2.2.2.1 S.2.2.2.2.2.2.2.2.2.1 S.2.2.2.2.2.2.2.2.2.2 (130 * P) (61 * P) 0 Ls e ∧ (S.2.2.2.2.2.2.2.2.1 P).toInt = (Ls.length : Int))
set_option maxHeartbeats 4000000 in
set_option maxRecDepth 20000 in
theorem rd_46 {ts : Int32} {tb : Nat → Int32} {G : Int32 → Int32 → Int32 → Int32 → (Nat → Int32) → (Option (Bool × Int32 × Int32 × Int32 × (Nat → Int32)))} {sz a f g : Int32} {cd : Nat → Int32} {R : Bool × Int32 × Int32 × Int32 × (Nat → Int32)} (hT : TS ts) (hb : LBAD ts tb a f g) (h : B_X5_read_46 G ts tb sz a f cd = some R) : R.1 = false ∧ R.2.2.2.1 = g := by
  have q64 : ∀ u : Int32, 0 ≤ u.toInt → u = g → B_X5_read_64 G ts tb sz a u cd = some R → R.1 = false ∧ R.2.2.2.1 = g := fun u u0 e h => by
    unfold B_X5_read_64 at h
    replace h := Option.some.inj (zk_t (show 0 ≤ u by rw [i32_le, z32_0]; exact u0) h)
    rw [← h]
    exact ⟨rfl, e⟩
  unfold B_X5_read_46 at h
  by_cases c : ts ≤ a
  · replace h := zk_t c h
    rcases hb with ⟨b1, b2, b3⟩ | ⟨b1, b2, b3, b4⟩
    · exact q64 f b1 b3.symm h
    · exfalso
      have e : bZ ts tb a = -1 := by
        unfold bZ bz
        rw [if_neg (by rw [i32_lt, z32_0]; have := b2.1; omega), if_pos c]
        decide
      omega
  · replace h := zk_f c h
    replace h := zk_o1 h
    obtain ⟨u, k, h⟩ := h
    rcases hb with ⟨b1, b2, b3⟩ | ⟨b1, b2, b3, b4⟩
    · rcases c5_fail k with ⟨e, _⟩ | ⟨_, e⟩
      · omega
      · exact q64 u (by rw [e]; exact b1) (by rw [e]; exact b3.symm) h
    · rcases c5_fail k with ⟨_, e⟩ | ⟨e, _⟩
      · exact q64 u (by rw [e]; exact b2.1) (by rw [e]; exact b4.symm) h
      · omega
set_option maxHeartbeats 4000000 in
set_option maxRecDepth 20000 in
theorem rd_bad {ts : Int32} {tb : Nat → Int32} {n : Nat} {x1 sz a f g : Int32} {cd : Nat → Int32} {R : Bool × Int32 × Int32 × Int32 × (Nat → Int32)} (hT : TS ts) (hb : LBAD ts tb a f g) (h : G_X5_read ts tb n x1 sz a f cd = some R) : R.1 = false ∧ R.2.2.2.1 = g := by
  cases n with
  | zero => cases h
  | succ n =>
    replace h : B_X5_read_21 (G_X5_read ts tb n) ts tb x1 sz a f cd = some R := h
    unfold B_X5_read_21 at h
    by_cases c : (120 : Int32) ≤ x1
    · exact rd_46 hT hb (zk_t c h)
    · replace h := zk_f c h
      replace h := zk_o2 h
      obtain ⟨r6, w7, c2, h⟩ := h
      have hc : r6 = 0 ∧ w7 = a := by
        rcases hb with ⟨b1, b2, b3⟩ | ⟨b1, b2, b3, b4⟩
        · rcases c5_accept hT (fun z => by omega) (x1 := 59) (n := 59) ⟨by decide, by decide⟩ c2 with ⟨z, _⟩ | ⟨z, r1, r2⟩
          · omega
          · exact ⟨r1, r2⟩
        · rcases c5_accept hT (fun _ => b2) (x1 := 59) (n := 59) ⟨by decide, by decide⟩ c2 with ⟨_, z, _⟩ | ⟨z, r1, r2⟩
          · omega
          · exact ⟨r1, r2⟩
      replace h := zk_t hc.1 h
      rw [hc.2] at h
      exact rd_46 hT hb h
set_option maxHeartbeats 4000000 in
set_option maxRecDepth 20000 in
theorem rd_89 {mod_code : Int32} {court_shoeCount : Int32} {mod_claims : Int32} {ts : Int32} {court_suitCount : Int32} {mod_doneMany : Int32} {mod_undoneMany : Int32} {mod_isBoth : Int32} {mod_wished : Int32} {mod_bestMany : Int32} {mod_bestRow : Int32} {mod_ringDigits : Int32} {mod_traces : Int32} {tm : Nat → Int32} {n : Nat} {x1 : Int32} {he g o l : Int32} {ac wi lm te le : Nat → Int32} {S : Int32 × Int32 × Int32 × Int32 × Int32 × Int32 × (Nat → Int32) × (Nat → Int32) × (Nat → Int32) × (Nat → Int32) × (Nat → Int32)} (hg : 0 ≤ g.toInt) (h : B_X12_law_89 (G_X12_law mod_code court_shoeCount mod_claims court_suitCount mod_doneMany mod_undoneMany mod_isBoth mod_wished mod_bestMany mod_bestRow mod_ringDigits mod_traces tm n).1 (G_X12_law mod_code court_shoeCount mod_claims court_suitCount mod_doneMany mod_undoneMany mod_isBoth mod_wished mod_bestMany mod_bestRow mod_ringDigits mod_traces tm n).2.1 (G_X12_law mod_code court_shoeCount mod_claims court_suitCount mod_doneMany mod_undoneMany mod_isBoth mod_wished mod_bestMany mod_bestRow mod_ringDigits mod_traces tm n).2.2 mod_code court_shoeCount mod_claims court_suitCount mod_doneMany mod_undoneMany mod_isBoth mod_wished mod_bestMany mod_bestRow mod_ringDigits mod_traces tm x1 ts he g o l ac wi lm te le = some S) : S.1 = (-100 : Int32) - g := by
  unfold B_X12_law_89 at h
  replace h := zk_t (show 0 ≤ g by rw [i32_le, z32_0]; exact hg) h
  unfold B_X12_law_111 at h
  replace h := Option.some.inj (zk_f (show ¬ g < 0 by rw [i32_lt, z32_0]; omega) h)
  rw [← h]
set_option maxHeartbeats 4000000 in
set_option maxRecDepth 20000 in
theorem rd_badM {mod_code : Int32} {court_shoeCount : Int32} {mod_claims : Int32} {ts : Int32} {court_suitCount : Int32} {mod_doneMany : Int32} {mod_undoneMany : Int32} {mod_isBoth : Int32} {mod_wished : Int32} {mod_bestMany : Int32} {mod_bestRow : Int32} {mod_ringDigits : Int32} {mod_traces : Int32} {tm : Nat → Int32} {n : Nat} {x1 : Int32} {he g o l : Int32} {ac wi lm te le : Nat → Int32} {S : Int32 × Int32 × Int32 × Int32 × Int32 × Int32 × (Nat → Int32) × (Nat → Int32) × (Nat → Int32) × (Nat → Int32) × (Nat → Int32)} (hg : 0 ≤ g.toInt) (h : (G_X12_law mod_code court_shoeCount mod_claims court_suitCount mod_doneMany mod_undoneMany mod_isBoth mod_wished mod_bestMany mod_bestRow mod_ringDigits mod_traces tm n).1 x1 ts he g o l ac wi lm te le = some S) : S.1 = (-100 : Int32) - g := by
  cases n with
  | zero => cases h
  | succ n =>
    replace h : B_X12_law_56 (G_X12_law mod_code court_shoeCount mod_claims court_suitCount mod_doneMany mod_undoneMany mod_isBoth mod_wished mod_bestMany mod_bestRow mod_ringDigits mod_traces tm n).1 (G_X12_law mod_code court_shoeCount mod_claims court_suitCount mod_doneMany mod_undoneMany mod_isBoth mod_wished mod_bestMany mod_bestRow mod_ringDigits mod_traces tm n).2.1 (G_X12_law mod_code court_shoeCount mod_claims court_suitCount mod_doneMany mod_undoneMany mod_isBoth mod_wished mod_bestMany mod_bestRow mod_ringDigits mod_traces tm n).2.2 mod_code court_shoeCount mod_claims court_suitCount mod_doneMany mod_undoneMany mod_isBoth mod_wished mod_bestMany mod_bestRow mod_ringDigits mod_traces tm x1 ts he g o l ac wi lm te le = some S := h
    unfold B_X12_law_56 at h
    exact rd_89 hg (zk_t (show 0 ≤ g by rw [i32_le, z32_0]; exact hg) h)
set_option maxHeartbeats 4000000 in
set_option maxRecDepth 20000 in
theorem rd_ok {mod_code : Int32} {court_shoeCount : Int32} {mod_claims : Int32} {ts : Int32} {court_suitCount : Int32} {mod_doneMany : Int32} {mod_undoneMany : Int32} {mod_isBoth : Int32} {mod_wished : Int32} {mod_bestMany : Int32} {mod_bestRow : Int32} {mod_ringDigits : Int32} {mod_traces : Int32} {tm : Nat → Int32} {n : Nat} {Ls : List (List (Int32 × Int32) × List (Int32 × Int32))} {x0 x1 sz a f : Int32} {cd : Nat → Int32} {he g o l : Int32} {ac wi lm te le : Nat → Int32} {S : Int32 × Int32 × Int32 × Int32 × Int32 × Int32 × (Nat → Int32) × (Nat → Int32) × (Nat → Int32) × (Nat → Int32) × (Nat → Int32)} (hi : RDI ts Ls x0 sz a f he g o l cd ac wi lm te le) (h1 : 0 ≤ x1.toInt) (h2 : (x1 / 10).toInt < 4) (h3 : (x1 - x1 / 10 * 10).toInt < 8) (hT : TS ts) (h : B_X12_law_111 (G_X12_law mod_code court_shoeCount mod_claims court_suitCount mod_doneMany mod_undoneMany mod_isBoth mod_wished mod_bestMany mod_bestRow mod_ringDigits mod_traces tm n).1 (G_X12_law mod_code court_shoeCount mod_claims court_suitCount mod_doneMany mod_undoneMany mod_isBoth mod_wished mod_bestMany mod_bestRow mod_ringDigits mod_traces tm n).2.1 (G_X12_law mod_code court_shoeCount mod_claims court_suitCount mod_doneMany mod_undoneMany mod_isBoth mod_wished mod_bestMany mod_bestRow mod_ringDigits mod_traces tm n).2.2 mod_code court_shoeCount mod_claims court_suitCount mod_doneMany mod_undoneMany mod_isBoth mod_wished mod_bestMany mod_bestRow mod_ringDigits mod_traces tm x1 ts he g o l ac wi lm te le = some S) : RDO (((8 : Int32) * (x1 / 10)) + (x1 - x1 / 10 * 10)).toInt.toNat ac wi lm te le (true, sz, a, f, cd) S := by
  obtain ⟨i1, i2, i3, i4, i5, i6, i7, i8, i9, i10, i11, i12, i13, i14⟩ := hi
  have hT2 := hT.2
  have i4' := i4.2
  have hp := ul_ix h1 h2 h3
  unfold B_X12_law_111 at h
  replace h := zk_t (show g < 0 by rw [i32_lt, z32_0]; omega) h
  replace h := zk_lt h
  obtain ⟨v39, e39, h⟩ := h
  rw [← e39] at hp ⊢
  have hn : (lm 32).toInt.toNat = Ls.length := by omega
  have hb := LLM_b Ls 1952 0 _ i13
  obtain ⟨q1, q2, q3, q4, q5, q6, q7⟩ := cp146 hp (by omega) (by omega) (fun i hi => by
    have := hb i (by omega)
    omega) _ _ _ _ _ S (by decide) (by rw [z32_0]; omega) (fun i hi => by
    obtain ⟨ln, m1, x, m2, e⟩ := LLM_tk Ls 1952 0 _ i13 i (Nat.zero_le _) hi
    rw [e]
    exact TKV_b (LLC_tk Ls 0 _ i12 ln m1 x m2)) h
  rw [z32_0] at q3 q4
  refine Or.inr ⟨rfl, q1, ⟨i6.1, by show sz.toInt ≤ 121; omega⟩, ⟨fun k k1 k2 => ?_, fun i j1 j2 => ?_, fun q j1 j2 => ?_⟩, Ls, l.toInt.toNat, i9, by omega, by omega, i14, i12, ?_, ?_⟩
  · rw [q3 k, q4 k, if_neg (by omega), if_neg (by omega)]
    exact ⟨rfl, rfl⟩
  · rw [q6 i, q7 i, if_neg (by omega), if_neg (by omega)]
    exact ⟨rfl, rfl⟩
  · rw [q5]
    exact upd_n j2
  · refine LLM_cp Ls 1952 _ 0 _ i13 (fun k hk => ?_) (fun i hi => ?_)
    · rw [q3, q4, if_pos (by omega), if_pos (by omega)]
      have e : 130 * v39.toInt.toNat + k - 130 * v39.toInt.toNat = k := by omega
      rw [e]
      exact ⟨rfl, rfl⟩
    · rw [q6, q7, if_pos (by omega), if_pos (by omega)]
      have e : 61 * v39.toInt.toNat + i - 61 * v39.toInt.toNat = i := by omega
      rw [e]
      exact ⟨rfl, rfl⟩
  · rw [q5, upd_at rfl]
    exact i8
set_option maxHeartbeats 4000000 in
set_option maxRecDepth 20000 in
theorem rd_go {mod_code : Int32} {court_shoeCount : Int32} {mod_claims : Int32} {ts : Int32} {court_suitCount : Int32} {mod_doneMany : Int32} {mod_undoneMany : Int32} {mod_isBoth : Int32} {mod_wished : Int32} {mod_bestMany : Int32} {mod_bestRow : Int32} {mod_ringDigits : Int32} {mod_traces : Int32} {tm : Nat → Int32} {tb : Nat → Int32} {x1 : Int32} (hT : TS ts) (hR : TR ts tb tm) (hB : ∀ k, k < ts.toInt.toNat → (tb k).toInt ≤ 255) (h1 : 0 ≤ x1.toInt) (h2 : (x1 / 10).toInt < 4) (h3 : (x1 - x1 / 10 * 10).toInt < 8) : ∀ (n m : Nat) (Ls : List (List (Int32 × Int32) × List (Int32 × Int32))) (x0 sz a f he g o l : Int32) (cd ac wi lm te le : Nat → Int32) (R : Bool × Int32 × Int32 × Int32 × (Nat → Int32)) (S : Int32 × Int32 × Int32 × Int32 × Int32 × Int32 × (Nat → Int32) × (Nat → Int32) × (Nat → Int32) × (Nat → Int32) × (Nat → Int32)), RDI ts Ls x0 sz a f he g o l cd ac wi lm te le → G_X5_read ts tb n x0 sz a f cd = some R → (G_X12_law mod_code court_shoeCount mod_claims court_suitCount mod_doneMany mod_undoneMany mod_isBoth mod_wished mod_bestMany mod_bestRow mod_ringDigits mod_traces tm m).1 x1 ts he g o l ac wi lm te le = some S → RDO (((8 : Int32) * (x1 / 10)) + (x1 - x1 / 10 * 10)).toInt.toNat ac wi lm te le R S := by
  intro n
  induction n with
  | zero =>
    intro m Ls x0 sz a f he g o l cd ac wi lm te le R S _ h
    cases h
  | succ n ih =>
    intro m Ls x0 sz a f he g o l cd ac wi lm te le R S hi h k
    cases m with
    | zero => cases k
    | succ m =>
      replace h : B_X5_read_21 (G_X5_read ts tb n) ts tb x0 sz a f cd = some R := h
      replace k : B_X12_law_56 (G_X12_law mod_code court_shoeCount mod_claims court_suitCount mod_doneMany mod_undoneMany mod_isBoth mod_wished mod_bestMany mod_bestRow mod_ringDigits mod_traces tm m).1 (G_X12_law mod_code court_shoeCount mod_claims court_suitCount mod_doneMany mod_undoneMany mod_isBoth mod_wished mod_bestMany mod_bestRow mod_ringDigits mod_traces tm m).2.1 (G_X12_law mod_code court_shoeCount mod_claims court_suitCount mod_doneMany mod_undoneMany mod_isBoth mod_wished mod_bestMany mod_bestRow mod_ringDigits mod_traces tm m).2.2 mod_code court_shoeCount mod_claims court_suitCount mod_doneMany mod_undoneMany mod_isBoth mod_wished mod_bestMany mod_bestRow mod_ringDigits mod_traces tm x1 ts he g o l ac wi lm te le = some S := k
      have hi0 := hi
      obtain ⟨i1, i2, i3, i4, i5, i6, i7, i8, i9, i10, i11, i12, i13, i14⟩ := hi
      have hT2 := hT.2
      have i4' := i4.2
      subst i3
      subst i5
      unfold B_X5_read_21 at h
      unfold B_X12_law_56 at k
      have h := zk_f (show ¬ (120 : Int32) ≤ x0 by
        rw [i32_le, show (120 : Int32).toInt = 120 from by decide]
        omega) h
      replace k := zk_f (show ¬ 0 ≤ g by rw [i32_le, z32_0]; omega) k
      replace h := zk_o2 h
      obtain ⟨r6, w7, c2, h⟩ := h
      replace k := zk_o2 k
      obtain ⟨r13, w14, c1, k⟩ := k
      have hb1 := mb_look hT hR i4 c1
      rcases c5_accept hT (fun _ => i4) (x1 := 59) (n := 59) ⟨by decide, by decide⟩ c2 with ⟨_, z, r1, r2, r3⟩ | ⟨z, r1, r2⟩
      · replace r1 := r1.symm
        subst r1
        subst r2
        replace k := zk_t ((BR_e hb1 ⟨by decide, by decide, by decide⟩).mpr z) k
        replace h := zk_f (show ¬ (1 : Int32) = 0 by decide) h
        replace k := zk_lt k
        obtain ⟨v23, e23, k⟩ := k
        subst e23
        replace h := zk_o4 h
        obtain ⟨u1, u2, u3, u4, a1, h⟩ := h
        replace k := zk_o9 k
        obtain ⟨y1, y2, y3, y4, y5, y6, y7, y8, y9, b1, k⟩ := k
        replace h := zk_lt h
        obtain ⟨v16, e16, h⟩ := h
        subst e16
        have r3' := r3.2
        have en := i32_s (a := he) (by have := i4.1; omega)
        have ex := i32_s (a := x0) (by omega)
        have hp : LPR ts 0 sz (he + 1) f (he + 1) g 0 l := ⟨i1, i2, rfl, r3, rfl, by decide, by decide, i6.1, by omega, i7.1, by omega⟩
        rcases ln_rel hT hR hB hp (by omega) a1 b1 with ⟨⟨j1, j2, j3, j4, j5, j6, j7, j8, j9, j10⟩, jl, ln, js, jc, jn, jf, jm, jl2, jfa, jft⟩ | hb
        · dsimp only at j1 j2 j3 j4 j5 j6 j7 j8 j9 j10 jl jc jn jf jm jl2 jfa jft
          have e1 : (lm 32).toInt.toNat = Ls.length := by omega
          have el : (lm 32 + 1).toInt = (lm 32).toInt + 1 := i32_s (by omega)
          have e2 : y4.toInt.toNat = l.toInt.toNat + ln.1.length + ln.2.length := by omega
          have e3 : u1.toInt.toNat = sz.toInt.toNat + lnl ln := by omega
          have hi2 : RDI ts (Ls ++ [ln]) (x0 + 1) u1 u2 u3 y1 y2 y3 y4 u4 y5 y6 y7 y8 y9 := by
            refine ⟨j1, j2, j3, j4, j5, ⟨j6, j7⟩, ⟨j8, j9⟩, ?_, ?_, ?_, ?_, ?_, ?_, ?_⟩
            · rw [jl, upd_at rfl, el, List.length_append]
              simp only [List.length_cons, List.length_nil]
              omega
            · rw [List.length_append]
              omega
            · rw [List.length_append]
              simp only [List.length_cons, List.length_nil]
              omega
            · rw [List.length_append]
              simp only [List.length_cons, List.length_nil]
              omega
            · rw [e3]
              exact LLC_sn Ls 0 _ i12 (fun i hi => jf i hi) jc
            · rw [e2]
              rw [e1] at jm jft
              exact LLM_sn Ls 1952 0 _ rfl i13 (fun i hi => jfa i hi) (fun i hi => jft i (by omega)) jm
            · intro ln2 hm
              rcases List.mem_append.mp hm with hm | hm
              · exact i14 ln2 hm
              · rw [List.mem_singleton.mp hm]
                exact js
          have q := ih m _ _ _ _ _ _ _ _ _ _ _ _ _ _ _ R S hi2 h k
          rcases q with q | ⟨q1, q2, q3, q4, q5⟩
          · exact Or.inl q
          · refine Or.inr ⟨q1, q2, q3, FRL_tr ⟨fun i hi => jfa i (by omega), fun i hi => jft i (by omega), fun i hi => ?_⟩ q4, q5⟩
            rw [jl]
            exact upd_n (by omega)
        · dsimp only at hb
          have q := rd_bad hT hb h
          have q2 := rd_badM (LBAD_g hb) k
          exact Or.inl ⟨q.1, by rw [q.2]; exact LBAD_g hb, by rw [q.2]; exact q2⟩
      · subst r1
        replace r2 := r2.symm
        subst r2
        have z : bZ ts tb he ≠ 59 := z.elim (fun y => by omega) id
        replace k := zk_f (fun y => z ((BR_e hb1 ⟨by decide, by decide, by decide⟩).mp y)) k
        replace h := zk_t rfl h
        by_cases c : ts ≤ he
        · unfold B_X5_read_46 at h
          replace h := zk_t c h
          unfold B_X5_read_64 at h
          replace h := zk_f (show ¬ 0 ≤ f by rw [i32_le, z32_0]; omega) h
          replace h := zk_gd h
          obtain ⟨_, h⟩ := h
          unfold B_X12_law_89 at k
          replace k := zk_f (show ¬ 0 ≤ g by rw [i32_le, z32_0]; omega) k
          replace k := zk_t c k
          rw [← Option.some.inj h]
          exact rd_ok hi0 h1 h2 h3 hT k
        · unfold B_X5_read_46 at h
          replace h := zk_f c h
          replace h := zk_o1 h
          obtain ⟨u, k2, h⟩ := h
          unfold B_X5_read_64 at h
          unfold B_X12_law_89 at k
          replace k := zk_f (show ¬ 0 ≤ g by rw [i32_le, z32_0]; omega) k
          replace k := zk_f c k
          replace k := zk_o1 k
          obtain ⟨w, k3, k⟩ := k
          have hu : u = he := by
            rcases c5_fail k2 with ⟨_, e⟩ | ⟨e, _⟩
            · exact e
            · omega
          have hw : w = he := by
            rcases mb_wrong k3 with ⟨_, e⟩ | ⟨e, _⟩
            · exact e
            · omega
          subst hu
          subst hw
          replace h := Option.some.inj (zk_t (show 0 ≤ w by rw [i32_le, z32_0]; exact i4.1) h)
          unfold B_X12_law_111 at k
          replace k := Option.some.inj (zk_f (show ¬ w < 0 by rw [i32_lt, z32_0]; have := i4.1; omega) k)
          rw [← h, ← k]
          exact Or.inl ⟨rfl, i4.1, rfl⟩
theorem ul_mod {x1 : Int32} (h : 0 ≤ x1.toInt) : 0 ≤ (x1 - x1 / 10 * 10).toInt ∧ (x1 - x1 / 10 * 10).toInt ≤ 9 := by
  have e := zs_dv10 x1 h
  have e10 : (10 : Int32).toInt = 10 := by decide
  have hlt := Int32.toInt_lt x1
  rw [Int32.toInt_sub, Int32.toInt_mul, e, e10]
  rw [zi_bm2 (e := x1.toInt / 10 * 10) (by omega) (by omega)]
  rw [zi_bm2 (by omega) (by omega)]
  omega
set_option maxHeartbeats 4000000 in
set_option maxRecDepth 20000 in
theorem law_top {mod_code : Int32} {court_shoeCount : Int32} {mod_claims : Int32} {ts : Int32} {court_suitCount : Int32} {mod_doneMany : Int32} {mod_undoneMany : Int32} {mod_isBoth : Int32} {mod_wished : Int32} {mod_bestMany : Int32} {mod_bestRow : Int32} {mod_ringDigits : Int32} {mod_traces : Int32} {tm : Nat → Int32} {tb : Nat → Int32} {n m : Nat} {x1 sz a f he g o l : Int32} {cd ac wi lm te le : Nat → Int32} {R : Bool × Int32 × Int32 × Int32 × (Nat → Int32)} {S : Int32 × Int32 × Int32 × Int32 × Int32 × Int32 × (Nat → Int32) × (Nat → Int32) × (Nat → Int32) × (Nat → Int32) × (Nat → Int32)} (hT : TS ts) (hR : TR ts tb tm) (hB : ∀ k, k < ts.toInt.toNat → (tb k).toInt ≤ 255) (hx : ¬ (x1.toInt < 0 ∨ 4 ≤ (x1 / 10).toInt ∨ ¬ (x1 - x1 / 10 * 10).toInt < 8)) (h : f_X5_read n ts tb sz a f cd = some R) (k : f_X12_law m x1 mod_code court_shoeCount mod_claims ts he g court_suitCount mod_doneMany mod_undoneMany o l mod_isBoth mod_wished mod_bestMany mod_bestRow mod_ringDigits mod_traces tm ac wi lm te le = some S) : RDO (((8 : Int32) * (x1 / 10)) + (x1 - x1 / 10 * 10)).toInt.toNat ac wi lm te le R S := by
  have h1 : 0 ≤ x1.toInt := by omega
  have h2 : (x1 / 10).toInt < 4 := by omega
  have h3 : (x1 - x1 / 10 * 10).toInt < 8 := by omega
  have hT1 := hT.1
  have hT2 := hT.2
  have e32 : (32 : Int32).toNatClampNeg = 32 := by decide
  unfold f_X5_read B_X5_read_0 at h
  unfold f_X12_law B_X12_law_0 at k
  replace h := zk_o4 h
  obtain ⟨u1, u2, u3, u4, a1, h⟩ := h
  replace k := zk_f (show ¬ x1 < 0 by rw [i32_lt, z32_0]; omega) k
  replace k := zk_f (show ¬ (3 : Int32) < x1 / (10 : Int32) by rw [i32_lt, show (3 : Int32).toInt = 3 from by decide]; omega) k
  replace k := zk_o2 k
  obtain ⟨r3, w3, c3, k⟩ := k
  have er : r3 = 1 := by
    unfold f_X12_isLand B_X12_isLand_0 at c3
    obtain ⟨r1, w1, c1, c3⟩ := zk_o2 c3
    rw [pe_in] at c1
    have e := congrArg Prod.fst (Option.some.inj c1)
    dsimp only at e
    have hm := ul_mod h1
    rw [if_neg (by rw [i32_lt, i32_lt, z32_0, show (7 : Int32).toInt = 7 from by decide]; omega)] at e
    subst e
    obtain ⟨_, c3⟩ := zk_gd c3
    exact (congrArg Prod.fst (Option.some.inj c3)).symm
  replace k := zk_f (by rw [er]; decide) k
  replace k := zk_lt k
  obtain ⟨f7, e7, k⟩ := k
  rw [e32] at e7
  replace k := zk_o9 k
  obtain ⟨y1, y2, y3, y4, y5, y6, y7, y8, y9, b1, k⟩ := k
  have l0 : (f7 32).toInt = 0 := by rw [e7, upd_at rfl, z32_0]
  have hp : LPR ts 0 0 0 (-1) 0 (-1) 0 0 := ⟨by decide, by decide, rfl, ⟨by decide, by rw [z32_0]; exact hT1⟩, rfl, by decide, by decide, by decide, by decide, by decide, by decide⟩
  rcases ln_rel hT hR hB hp (by omega) a1 b1 with ⟨⟨j1, j2, j3, j4, j5, j6, j7, j8, j9, j10⟩, jl, ln, js, jc, jn, jf, jm, jl2, jfa, jft⟩ | hb
  · dsimp only at j1 j2 j3 j4 j5 j6 j7 j8 j9 j10 jl jc jn jf jm jl2 jfa jft
    rw [z32_0] at j10 jc jn jm jl2
    have e1 : (f7 32).toInt.toNat = 0 := by omega
    rw [e1] at jm jft
    have el : (f7 32 + 1).toInt = (f7 32).toInt + 1 := i32_s (by omega)
    have hi2 : RDI ts [ln] 0 u1 u2 u3 y1 y2 y3 y4 u4 y5 y6 y7 y8 y9 := by
      refine ⟨j1, j2, j3, j4, j5, ⟨j6, j7⟩, ⟨j8, j9⟩, ?_, Nat.le_refl 1, ?_, ?_, ?_, ?_, ?_⟩
      · rw [jl, upd_at rfl, el, l0]
        rfl
      · show 2 * ((1 : Nat) : Int) ≤ u2.toInt + 1
        omega
      · show (0 : Int32).toInt + 1 = ((1 : Nat) : Int)
        rw [z32_0]
        rfl
      · exact ⟨jc, by show 0 + lnl ln = u1.toInt.toNat; omega⟩
      · exact ⟨jm, by show 0 + ln.1.length + ln.2.length = y4.toInt.toNat; omega⟩
      · intro ln2 hm
        rw [List.mem_singleton.mp hm]
        exact js
    rcases rd_go hT hR hB h1 h2 h3 _ _ _ _ _ _ _ _ _ _ _ _ _ _ _ _ _ R S hi2 h k with q | ⟨q1, q2, q3, q4, q5⟩
    · exact Or.inl q
    · refine Or.inr ⟨q1, q2, q3, FRL_tr ⟨fun i hi => jfa i (by omega), fun i hi => jft i (by omega), fun i hi => ?_⟩ q4, q5⟩
      rw [jl, upd_n (by omega), e7, upd_n (by omega)]
  · dsimp only at hb
    have q := rd_bad hT hb h
    have q2 := rd_badM (LBAD_g hb) k
    exact Or.inl ⟨q.1, by rw [q.2]; exact LBAD_g hb, by rw [q.2]; exact q2⟩
