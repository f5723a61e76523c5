
theorem dp_ext {a w a' w' : Nat → Int32} {b b' : Nat} : ∀ m : Nat, (∀ i, i < m → a' (b' + i) = a (b + i) ∧ w' (b' + i) = w (b + i)) → dp a' w' b' m = dp a w b m
  | 0, _ => rfl
  | m + 1, h => by
    have h1 := dp_ext m (fun i hi => h i (by omega))
    have h2 := h m (by omega)
    show (dp a' w' b' m).bind _ = (dp a w b m).bind _
    rw [h1, h2.1, h2.2]
theorem dp_pre {a w : Nat → Int32} {b : Nat} : ∀ (m i : Nat), i ≤ m → dp a w b m ≠ none → dp a w b i ≠ none
  | 0, i, hi, h => by
    have e : i = 0 := by omega
    subst e
    exact h
  | m + 1, i, hi, h => by
    by_cases c : i = m + 1
    · subst c
      exact h
    · refine dp_pre m i (by omega) (fun e => h ?_)
      show (dp a w b m).bind _ = none
      rw [e]
      rfl
theorem st1_le {a w : Int32} {e r : Nat} (h : st1 a w e = some r) : r ≤ e + 1 := by
  unfold st1 at h
  split at h
  · injection h with h
    omega
  · split at h
    · split at h
      · injection h with h
        omega
      · cases h
    · split at h
      · split at h
        · injection h with h
          omega
        · cases h
      · split at h
        · injection h with h
          omega
        · cases h
theorem dp_le {a w : Nat → Int32} {b : Nat} : ∀ (m e : Nat), dp a w b m = some e → e ≤ m
  | 0, e, h => by
    injection h with h
    omega
  | m + 1, e, h => by
    obtain ⟨d, h1, h2⟩ := Option.bind_eq_some_iff.mp (show (dp a w b m).bind _ = some e from h)
    have h3 := dp_le m d h1
    have h4 := st1_le h2
    omega
def WK (a w : Nat → Int32) (p e n k : Int32) : Prop := ∃ f i m : Nat, i ≤ m ∧ f + m ≤ 130 ∧ 0 ≤ p.toInt ∧ p.toInt ≤ 31 ∧ k.toInt = 130 * p.toInt + (f : Int) + (i : Int) ∧ e.toInt = (f : Int) + (m : Int) ∧ 0 ≤ n.toInt ∧ dp a w (130 * p.toInt.toNat + f) i = some n.toInt.toNat ∧ dp a w (130 * p.toInt.toNat + f) m ≠ none
def WP (a w : Nat → Int32) (p f e : Int32) : Prop := 0 ≤ p.toInt ∧ p.toInt ≤ 31 ∧ 0 ≤ f.toInt ∧ f.toInt ≤ e.toInt ∧ e.toInt ≤ 130 ∧ dp a w (130 * p.toInt.toNat + f.toInt.toNat) (e.toInt.toNat - f.toInt.toNat) ≠ none
theorem WK_0 {a w : Nat → Int32} {p f e n v : Int32} (h : WP a w p f e) (hn : n.toInt = 0) (hv : v.toInt = 130 * p.toInt + f.toInt) : WK a w p e n v := by
  obtain ⟨h1, h2, h3, h4, h5, h6⟩ := h
  exact ⟨f.toInt.toNat, 0, e.toInt.toNat - f.toInt.toNat, by omega, by omega, h1, h2, by omega, by omega, by omega, by rw [hn]; rfl, h6⟩
theorem WK_in {a w : Nat → Int32} {p e n k : Int32} (h : WK a w p e n k) : 0 ≤ n.toInt ∧ n.toInt ≤ 130 ∧ 0 ≤ k.toInt ∧ k.toInt ≤ 130 * p.toInt + e.toInt ∧ 0 ≤ p.toInt ∧ p.toInt ≤ 31 ∧ 0 ≤ e.toInt ∧ e.toInt ≤ 130 ∧ (k.toInt < 130 * p.toInt + e.toInt → n.toInt ≤ 129 ∧ ((a k.toInt.toNat).toInt = 2 → 0 ≤ (w k.toInt.toNat).toInt ∧ (w k.toInt.toNat).toInt ≤ 10) ∧ (((a k.toInt.toNat).toInt = 3 ∨ (a k.toInt.toNat).toInt = 4) → 1 ≤ n.toInt) ∧ (¬ (a k.toInt.toNat).toInt = 1 → ¬ (a k.toInt.toNat).toInt = 2 → ¬ (a k.toInt.toNat).toInt = 3 → ¬ (a k.toInt.toNat).toInt = 4 → 2 ≤ n.toInt)) := by
  obtain ⟨f, i, m, him, hm, hp0, hp1, hk0, he, hn, hd, hD⟩ := h
  have hle := dp_le _ _ hd
  refine ⟨hn, by omega, by omega, by omega, hp0, hp1, by omega, by omega, fun hk => ?_⟩
  have hi : i < m := by omega
  have hx : k.toInt.toNat = 130 * p.toInt.toNat + f + i := by omega
  have hS : dp a w (130 * p.toInt.toNat + f) (i + 1) ≠ none := dp_pre m (i + 1) (by omega) hD
  have hS2 : dp a w (130 * p.toInt.toNat + f) (i + 1) = st1 (a k.toInt.toNat) (w k.toInt.toNat) n.toInt.toNat := by
    show (dp a w _ i).bind _ = _
    rw [hd, hx]
    rfl
  rw [hS2] at hS
  unfold st1 at hS
  refine ⟨by omega, fun c => ?_, fun c => ?_, fun c1 c2 c3 c4 => ?_⟩
  · rw [if_neg (by omega), if_pos c] at hS
    by_cases q : 0 ≤ (w k.toInt.toNat).toInt ∧ (w k.toInt.toNat).toInt ≤ 10
    · exact q
    · rw [if_neg q] at hS
      exact absurd rfl hS
  · rw [if_neg (by omega), if_neg (by omega), if_pos c] at hS
    by_cases q : 1 ≤ n.toInt.toNat
    · omega
    · rw [if_neg q] at hS
      exact absurd rfl hS
  · rw [if_neg c1, if_neg c2, if_neg (by omega)] at hS
    by_cases q : 2 ≤ n.toInt.toNat
    · omega
    · rw [if_neg q] at hS
      exact absurd rfl hS
theorem WK_nx {a w : Nat → Int32} {p e n k : Int32} (h : WK a w p e n k) (hk : k.toInt < 130 * p.toInt + e.toInt) {n' k' : Int32} (hk' : k'.toInt = k.toInt + 1) (h1 : ((a k.toInt.toNat).toInt = 1 ∨ (a k.toInt.toNat).toInt = 2) → n'.toInt = n.toInt + 1) (h2 : ((a k.toInt.toNat).toInt = 3 ∨ (a k.toInt.toNat).toInt = 4) → n'.toInt = n.toInt) (h3 : ¬ (a k.toInt.toNat).toInt = 1 → ¬ (a k.toInt.toNat).toInt = 2 → ¬ (a k.toInt.toNat).toInt = 3 → ¬ (a k.toInt.toNat).toInt = 4 → n'.toInt = n.toInt - 1) : WK a w p e n' k' := by
  have hin := (WK_in h).2.2.2.2.2.2.2.2 hk
  obtain ⟨f, i, m, him, hm, hp0, hp1, hk0, he, hn, hd, hD⟩ := h
  have hi : i < m := by omega
  have hx : k.toInt.toNat = 130 * p.toInt.toNat + f + i := by omega
  have hS2 : dp a w (130 * p.toInt.toNat + f) (i + 1) = st1 (a k.toInt.toNat) (w k.toInt.toNat) n.toInt.toNat := by
    show (dp a w _ i).bind _ = _
    rw [hd, hx]
    rfl
  have key : 0 ≤ n'.toInt ∧ st1 (a k.toInt.toNat) (w k.toInt.toNat) n.toInt.toNat = some n'.toInt.toNat := by
    unfold st1
    by_cases c1 : (a k.toInt.toNat).toInt = 1
    · have g := h1 (Or.inl c1)
      rw [if_pos c1]
      exact ⟨by omega, congrArg some (by omega)⟩
    · rw [if_neg c1]
      by_cases c2 : (a k.toInt.toNat).toInt = 2
      · have g := h1 (Or.inr c2)
        rw [if_pos c2, if_pos (hin.2.1 c2)]
        exact ⟨by omega, congrArg some (by omega)⟩
      · rw [if_neg c2]
        by_cases c3 : (a k.toInt.toNat).toInt = 3 ∨ (a k.toInt.toNat).toInt = 4
        · have g := h2 c3
          have g2 := hin.2.2.1 c3
          rw [if_pos c3, if_pos (by omega)]
          exact ⟨by omega, congrArg some (by omega)⟩
        · have g := h3 c1 c2 (fun z => c3 (Or.inl z)) (fun z => c3 (Or.inr z))
          have g2 := hin.2.2.2 c1 c2 (fun z => c3 (Or.inl z)) (fun z => c3 (Or.inr z))
          rw [if_neg c3, if_pos (by omega)]
          exact ⟨by omega, congrArg some (by omega)⟩
  exact ⟨f, i + 1, m, by omega, hm, hp0, hp1, by omega, he, key.1, by rw [hS2]; exact key.2, hD⟩
def GV (le : Nat → Int32) (p f l : Int32) : Prop := 0 ≤ p.toInt ∧ p.toInt ≤ 31 ∧ 61 * p.toInt ≤ l.toInt ∧ 0 ≤ f.toInt ∧ f.toInt.toNat = lE le p.toInt.toNat (l.toInt - 61 * p.toInt).toNat
theorem GV_0 {le : Nat → Int32} {p f l : Int32} (h1 : 0 ≤ p.toInt ∧ p.toInt ≤ 31) (h2 : f.toInt = 0) (h3 : l.toInt = 61 * p.toInt) : GV le p f l := by
  refine ⟨h1.1, h1.2, by omega, by omega, ?_⟩
  have e : (l.toInt - 61 * p.toInt).toNat = 0 := by omega
  rw [e, h2]
  rfl
theorem GV_seg {a w lm te le : Nat → Int32} {p f l : Int32} (hW : LW a w lm te le) (h : GV le p f l) (hl : l.toInt < 61 * p.toInt + (lm p.toInt.toNat).toInt) : (¬ (te l.toInt.toNat).toInt = f.toInt → WP a w p f (te l.toInt.toNat)) ∧ WP a w p (te l.toInt.toNat) (le l.toInt.toNat) ∧ (∀ f' l' : Int32, f'.toInt = (le l.toInt.toNat).toInt → l'.toInt = l.toInt + 1 → GV le p f' l') := by
  obtain ⟨h1, h2, h3, h4, h5⟩ := h
  have hs := hW p.toInt.toNat (by omega) (l.toInt - 61 * p.toInt).toNat (by omega)
  have e : 61 * p.toInt.toNat + (l.toInt - 61 * p.toInt).toNat = l.toInt.toNat := by omega
  unfold SEG at hs
  rw [e, ← h5] at hs
  obtain ⟨g1, g2, g3, g4⟩ := hs
  obtain ⟨s1, s2, s3⟩ := g4
  refine ⟨fun hne => ?_, ⟨h1, h2, g1, by omega, by omega, s3⟩, fun f' l' e1 e2 => ⟨h1, h2, by omega, by omega, ?_⟩⟩
  · rcases g3 with g3 | g3
    · exact absurd (by omega) hne
    · obtain ⟨t1, t2, t3⟩ := g3
      exact ⟨h1, h2, h4, by omega, by omega, t3⟩
  · have e3 : (l'.toInt - 61 * p.toInt).toNat = (l.toInt - 61 * p.toInt).toNat + 1 := by omega
    unfold lE
    rw [e3, if_neg (by omega), e1]
    have e4 : 61 * p.toInt.toNat + ((l.toInt - 61 * p.toInt).toNat + 1) - 1 = l.toInt.toNat := by omega
    rw [e4]
def FRM (a w a' w' : Nat → Int32) (L : Int32) : Prop := ∀ i, i < 4160 + L.toInt.toNat → a' i = a i ∧ w' i = w i
def BY (a : Nat → Int32) (f e : Nat) : Prop := ∀ i, f ≤ i → i < e → -128 ≤ (a (4160 + i)).toInt ∧ (a (4160 + i)).toInt ≤ 127
def VKB (a w : Nat → Int32) (b : Nat) (L : Int32) (k : Nat) : Prop := b ≤ L.toInt.toNat ∧ BY a b L.toInt.toNat ∧ dp a w (4160 + b) (L.toInt.toNat - b) = some k
def VCB (a w a' w' : Nat → Int32) (L L' : Int32) (i o : Nat) : Prop := ∀ b k, VKB a w b L (k + i) → VKB a' w' b L' (k + o)
theorem FRM_rf {a w : Nat → Int32} {L : Int32} : FRM a w a w L := fun _ _ => ⟨rfl, rfl⟩
theorem FRM_tr {a w a1 w1 a2 w2 : Nat → Int32} {L L1 : Int32} (h1 : FRM a w a1 w1 L) (h2 : FRM a1 w1 a2 w2 L1) (h : L.toInt ≤ L1.toInt) : FRM a w a2 w2 L := fun i hi => by
  have q1 := h1 i hi
  have q2 := h2 i (by omega)
  exact ⟨q2.1.trans q1.1, q2.2.trans q1.2⟩
theorem VKB_0 {a w : Nat → Int32} {L : Int32} : VKB a w L.toInt.toNat L 0 := by
  refine ⟨Nat.le_refl _, fun i h1 h2 => absurd h1 (by omega), ?_⟩
  rw [Nat.sub_self]
  rfl
theorem zn_byteE {v x : Int32} (e : v = x.toInt8.toInt32) (h2 : -128 ≤ x.toInt ∧ x.toInt ≤ 127) : (vp_nar .byte v).toInt = x.toInt := by
  have e0 : v.toInt = x.toInt := by
    rw [e, Int8.toInt_toInt32, Int32.toInt_toInt8]
    exact Int.bmod_eq_of_le (by omega) (by omega)
  show (v.toInt8.toInt32).toInt = x.toInt
  rw [Int8.toInt_toInt32, Int32.toInt_toInt8, e0]
  exact Int.bmod_eq_of_le (by omega) (by omega)
theorem zn_byteI {v : Int32} (h2 : -128 ≤ v.toInt ∧ v.toInt ≤ 127) : vp_nar .byte v = v := by
  apply Int32.toInt_inj.mp
  show (v.toInt8.toInt32).toInt = v.toInt
  rw [Int8.toInt_toInt32, Int32.toInt_toInt8]
  exact Int.bmod_eq_of_le (by omega) (by omega)
theorem zn_shortI {v : Int32} (h2 : -32768 ≤ v.toInt ∧ v.toInt ≤ 32767) : vp_nar .short v = v := by
  apply Int32.toInt_inj.mp
  show (v.toInt16.toInt32).toInt = v.toInt
  rw [Int16.toInt_toInt32, Int32.toInt_toInt16]
  exact Int.bmod_eq_of_le (by omega) (by omega)
theorem zn_short0 {v : Int32} (h2 : -32768 ≤ v.toInt ∧ v.toInt ≤ 32767) : v.toInt16.toInt32 = v := by
  apply Int32.toInt_inj.mp
  rw [Int16.toInt_toInt32, Int32.toInt_toInt16]
  exact Int.bmod_eq_of_le (by omega) (by omega)
theorem lay_q {a w f1 f2 : Nat → Int32} {L L2 x1 v1 x2 : Int32} (i j : Nat) (hL0 : 0 ≤ L.toInt) (hx : 1 ≤ x1.toInt ∧ x1.toInt ≤ 127) (e1 : v1 = x1.toInt8.toInt32) (hi : i = 4160 + L.toInt.toNat) (hj : j = i) (ef1 : f1 = upd a i (vp_nar .byte v1)) (ef2 : f2 = upd w j x2) (eL : L2.toInt = L.toInt + 1) : FRM a w f1 f2 L ∧ ((x1.toInt = 1 ∨ (x1.toInt = 2 ∧ 0 ≤ x2.toInt ∧ x2.toInt ≤ 10)) → VCB a w f1 f2 L L2 0 1) ∧ ((x1.toInt = 3 ∨ x1.toInt = 4) → VCB a w f1 f2 L L2 1 1) ∧ (5 ≤ x1.toInt → VCB a w f1 f2 L L2 2 1) := by
  subst hj
  have hv := zn_byteE e1 (x := x1) (by omega)
  have hF : FRM a w f1 f2 L := fun q hq => by
    have hne : ¬ q = j := by omega
    rw [ef1, ef2]
    unfold upd
    rw [if_neg hne, if_neg hne]
    exact ⟨rfl, rfl⟩
  have a1 : (f1 j).toInt = x1.toInt := by
    rw [ef1]
    unfold upd
    rw [if_pos rfl, hv]
  have a2 : f2 j = x2 := by
    rw [ef2]
    unfold upd
    rw [if_pos rfl]
  have key : ∀ (b n r : Nat), VKB a w b L n → st1 (f1 j) (f2 j) n = some r → VKB f1 f2 b L2 r := by
    intro b n r h hs
    obtain ⟨h1, h2, h3⟩ := h
    refine ⟨by omega, fun q q1 q2 => ?_, ?_⟩
    · by_cases c : q = L.toInt.toNat
      · have e : 4160 + q = j := by omega
        rw [e, a1]
        omega
      · have := hF (4160 + q) (by omega)
        rw [this.1]
        exact h2 q q1 (by omega)
    · have e : L2.toInt.toNat - b = (L.toInt.toNat - b) + 1 := by omega
      rw [e]
      show (dp f1 f2 (4160 + b) (L.toInt.toNat - b)).bind _ = _
      rw [dp_ext (L.toInt.toNat - b) (fun q hq => hF (4160 + b + q) (by omega)), h3]
      have e2 : 4160 + b + (L.toInt.toNat - b) = j := by omega
      show st1 (f1 (4160 + b + (L.toInt.toNat - b))) (f2 (4160 + b + (L.toInt.toNat - b))) n = some r
      rw [e2]
      exact hs
  refine ⟨hF, fun c b k h => key b _ _ h ?_, fun c b k h => key b _ _ h ?_, fun c b k h => key b _ _ h ?_⟩
  · unfold st1
    rw [a1, a2]
    rcases c with c | c
    · rw [if_pos c]
    · rw [if_neg (by omega), if_pos c.1, if_pos c.2]
  · unfold st1
    rw [a1, if_neg (by omega), if_neg (by omega), if_pos c, if_pos (by omega)]
  · unfold st1
    rw [a1, if_neg (by omega), if_neg (by omega), if_neg (by omega), if_pos (by omega)]
    exact congrArg some (by omega)
theorem SG_ext {a w a' w' : Nat → Int32} {p p' f e : Nat} (h : SG a w p f e) (hx : ∀ i, f ≤ i → i < e → a' (130 * p' + i) = a (130 * p + i) ∧ w' (130 * p' + i) = w (130 * p + i)) : SG a' w' p' f e := by
  obtain ⟨h1, h2, h3⟩ := h
  refine ⟨h1, h2, ?_⟩
  rw [dp_ext (e - f) (a := a) (w := w) (b := 130 * p + f)]
  · exact h3
  · intro i hi
    have q := hx (f + i) (by omega) (by omega)
    rw [Nat.add_assoc, Nat.add_assoc]
    exact q
/-- a row of lines at one place, read off another -/
theorem LP_ext {a w lm te le a' w' lm' te' le' : Nat → Int32} {p p' n : Nat} (h : LPa a w lm te le p) (hn : (lm p).toInt.toNat = n) (hlm : (lm' p').toInt.toNat = n) (hL : ∀ l, l < n → ∀ i, i < (le (61 * p + l)).toInt.toNat → a' (130 * p' + i) = a (130 * p + i) ∧ w' (130 * p' + i) = w (130 * p + i)) (hT : ∀ l, l < n → te' (61 * p' + l) = te (61 * p + l) ∧ le' (61 * p' + l) = le (61 * p + l)) : LPa a' w' lm' te' le' p' := by
  intro l hl
  have hl2 : l < n := by omega
  have hs := h l (by omega)
  obtain ⟨g1, g2, g3, g4⟩ := hs
  have t := hT l hl2
  have eE : lE le' p' l = lE le p l := by
    unfold lE
    by_cases c : l = 0
    · rw [if_pos c, if_pos c]
    · rw [if_neg c, if_neg c]
      have t2 := hT (l - 1) (by omega)
      have e1 : 61 * p' + l - 1 = 61 * p' + (l - 1) := by omega
      have e2 : 61 * p + l - 1 = 61 * p + (l - 1) := by omega
      rw [e1, e2, t2.2]
  unfold SEG
  rw [t.1, t.2, eE]
  refine ⟨g1, g2, ?_, SG_ext g4 (fun i _ hi => hL l hl2 i hi)⟩
  rcases g3 with g3 | g3
  · exact Or.inl g3
  · exact Or.inr (SG_ext g3 (fun i _ hi => hL l hl2 i (by have := g4.1; omega)))
theorem LP_keep {a w lm te le a' w' lm' te' le' : Nat → Int32} {p : Nat} (h : LPa a w lm te le p) (hm : (lm p).toInt.toNat ≤ 61) (hlm : lm' p = lm p) (hA : ∀ i, i < 130 → a' (130 * p + i) = a (130 * p + i) ∧ w' (130 * p + i) = w (130 * p + i)) (hT : ∀ l, l < 61 → te' (61 * p + l) = te (61 * p + l) ∧ le' (61 * p + l) = le (61 * p + l)) : LPa a' w' lm' te' le' p :=
  LP_ext (n := (lm p).toInt.toNat) h rfl (by rw [hlm]) (fun l hl i hi => hA i (by have := (h l hl).2.2.2.2.1; omega)) (fun l hl => hT l (by omega))
theorem upd_o {a f : Nat → Int32} {i : Nat} {v : Int32} (e : f = upd a i v) {j : Nat} (h : ¬ j = i) : f j = a j := by
  rw [e]
  unfold upd
  rw [if_neg h]
theorem upd_s {a f : Nat → Int32} {i : Nat} {v : Int32} (e : f = upd a i v) {j : Nat} (h : j = i) : f j = v := by
  rw [e]
  unfold upd
  rw [if_pos h]
def LNB (a w lm te le : Nat → Int32) (L : Int32) : Prop := LN a w lm te le L ∧ BY a 0 L.toInt.toNat ∧ (∀ l, l < (lm 32).toInt.toNat → (le (1952 + l)).toInt.toNat ≤ L.toInt.toNat)
theorem LNB_add {a w lm te le a' w' lm' te' le' : Nat → Int32} {L T L' : Int32} (h : LNB a w lm te le L) (n : Nat) (hn : (lm 32).toInt = (n : Int)) (hn6 : n ≤ 60) (hfr : FRM a w a' w' L) (o1 : 0 ≤ L.toInt) (o2 : L.toInt ≤ T.toInt) (o3 : T.toInt ≤ L'.toInt) (o4 : L'.toInt ≤ 130) (hT : T.toInt = L.toInt ∨ dp a' w' (4160 + L.toInt.toNat) (T.toInt.toNat - L.toInt.toNat) ≠ none) (hd : dp a' w' (4160 + T.toInt.toNat) (L'.toInt.toNat - T.toInt.toNat) ≠ none) (hb : BY a' L.toInt.toNat L'.toInt.toNat) (hlm : (lm' 32).toInt = (n : Int) + 1) (hte : ∀ i, ¬ i = 1952 + n → te' i = te i) (hteT : (te' (1952 + n)).toInt = T.toInt) (hle : ∀ i, ¬ i = 1952 + n → le' i = le i) (hleL : (le' (1952 + n)).toInt = L'.toInt) : LNB a' w' lm' te' le' L' := by
  obtain ⟨⟨h1, h2⟩, h3, h4⟩ := h
  have hnn : (lm 32).toInt.toNat = n := by omega
  have hnn' : (lm' 32).toInt.toNat = n + 1 := by omega
  rw [hnn] at h1 h4
  refine ⟨⟨?_, fun l hl => ?_⟩, fun i q1 q2 => ?_, fun l hl => ?_⟩
  · rw [hnn']
    unfold lE
    rw [if_neg (by omega)]
    show (le' (1952 + n)).toInt.toNat = _
    rw [hleL]
  · by_cases c : l = n
    · subst c
      have eE : lE le' 32 l = L.toInt.toNat := by
        rw [← h1]
        unfold lE
        by_cases c0 : l = 0
        · rw [if_pos c0, if_pos c0]
        · rw [if_neg c0, if_neg c0]
          rw [hle (61 * 32 + l - 1) (by omega)]
      show SEG a' w' te' le' 32 l
      have e1 : (te' (61 * 32 + l)).toInt = T.toInt := hteT
      have e2 : (le' (61 * 32 + l)).toInt = L'.toInt := hleL
      unfold SEG
      rw [e1, e2, eE]
      refine ⟨by omega, by omega, ?_, ⟨by omega, by omega, hd⟩⟩
      rcases hT with hT | hT
      · exact Or.inl (by omega)
      · exact Or.inr ⟨by omega, by omega, hT⟩
    · have hl2 : l < n := by omega
      refine LP_ext (p := 32) (p' := 32) (n := n) (lm := lm) (lm' := lm) h2 hnn hnn (fun l2 q i hi => hfr _ ?_) (fun l2 q => ⟨hte _ (by omega), hle _ (by omega)⟩) l (by omega)
      have := h4 l2 q
      have e : (le (61 * 32 + l2)).toInt.toNat = (le (1952 + l2)).toInt.toNat := rfl
      omega
  · by_cases c : i < L.toInt.toNat
    · rw [(hfr (4160 + i) (by omega)).1]
      exact h3 i q1 c
    · exact hb i (by omega) q2
  · by_cases c : l = n
    · subst c
      rw [hleL]
      exact Nat.le_refl _
    · rw [hle (1952 + l) (by omega)]
      have := h4 l (by omega)
      omega
theorem LW_line {a w lm te le a' w' lm' te' le' : Nat → Int32} {L : Int32} (h : LW a w lm te le) (hb : AR 0 61 lm) (hfr : FRM a w a' w' L) (hlm : ∀ p, ¬ p = 32 → lm' p = lm p) (n : Nat) (hte : ∀ i, ¬ i = 1952 + n → te' i = te i) (hle : ∀ i, ¬ i = 1952 + n → le' i = le i) : LW a' w' lm' te' le' := fun p hp =>
  LP_keep (h p hp) (by have := hb p; omega) (hlm p (by omega)) (fun i hi => hfr _ (by omega)) (fun l hl => ⟨hte _ (by omega), hle _ (by omega)⟩)
theorem zp_letE {A : Type} {P : A → Prop} {B : Type} {a : B} {k : B → Option A} (h : ∀ v, v = a → zp (k v) P) : zp (zk_let a k) P := h a rfl
theorem zp_letAE {A : Type} {P : A → Prop} {lo hi : Int} {a : Nat → Int32} {i : Nat} {v : Int32} {k : (Nat → Int32) → Option A} (ha : AR lo hi a) (hv : lo ≤ v.toInt ∧ v.toInt ≤ hi) (h : ∀ f, AR lo hi f → f = upd a i v → zp (k f) P) : zp (zk_let (upd a i v) k) P := by
  refine h _ (fun j => ?_) rfl
  unfold upd
  by_cases c : j = i
  · rw [if_pos c]
    exact hv
  · rw [if_neg c]
    exact ha j
theorem LWx_of {a w lm te le : Nat → Int32} {x : Int32} (h : LW a w lm te le) : LWx a w lm te le x := fun p hp _ => h p hp
def CA (a w : Nat → Int32) (x k : Int32) : Prop := ∀ j, j < k.toInt.toNat → a (130 * x.toInt.toNat + j) = a (4160 + j) ∧ w (130 * x.toInt.toNat + j) = w (4160 + j)
def CT (te le : Nat → Int32) (x k : Int32) : Prop := ∀ j, j < k.toInt.toNat → te (61 * x.toInt.toNat + j) = te (1952 + j) ∧ le (61 * x.toInt.toNat + j) = le (1952 + j)
theorem CA_0 {a w : Nat → Int32} {x k : Int32} (h : k.toInt = 0) : CA a w x k := fun j hj => absurd hj (by omega)
theorem CT_0 {te le : Nat → Int32} {x k : Int32} (h : k.toInt = 0) : CT te le x k := fun j hj => absurd hj (by omega)
/-- one token of the new law is copied to its place -/
theorem cp_act {a w lm te le f1 f2 : Nat → Int32} {x k k' L v1 v2 : Int32} {i j : Nat} (hx : 0 ≤ x.toInt ∧ x.toInt ≤ 31) (hk : 0 ≤ k.toInt ∧ k.toInt < L.toInt) (hL : L.toInt ≤ 130) (hb : AR 0 61 lm) (hW : LWx a w lm te le x) (hN : LNB a w lm te le L) (hC : CA a w x k) (hi : i = 130 * x.toInt.toNat + k.toInt.toNat) (hj : j = i) (ev1 : v1.toInt = (a (4160 + k.toInt.toNat)).toInt) (ev2 : v2.toInt = (w (4160 + k.toInt.toNat)).toInt) (ef1 : f1 = upd a i (vp_nar .byte v1)) (ef2 : f2 = upd w j v2) (ek : k'.toInt = k.toInt + 1) : LWx f1 f2 lm te le x ∧ LNB f1 f2 lm te le L ∧ CA f1 f2 x k' := by
  subst hj
  have hby := hN.2.1 k.toInt.toNat (by omega) (by omega)
  have e1 : vp_nar .byte v1 = a (4160 + k.toInt.toNat) := by
    rw [zn_byteI (by omega)]
    exact Int32.toInt_inj.mp ev1
  have e2 : v2 = w (4160 + k.toInt.toNat) := Int32.toInt_inj.mp ev2
  have o : ∀ q, ¬ q = j → f1 q = a q ∧ f2 q = w q := fun q hq => ⟨upd_o ef1 hq, upd_o ef2 hq⟩
  refine ⟨fun p hp hne => LP_keep (hW p hp hne) (by have := hb p; omega) rfl (fun q hq => o _ (by omega)) (fun l hl => ⟨rfl, rfl⟩), ⟨⟨hN.1.1, ?_⟩, fun q q1 q2 => ?_, hN.2.2⟩, fun q hq => ?_⟩
  · exact LP_keep hN.1.2 (by have := hb 32; omega) rfl (fun q hq => o _ (by omega)) (fun l hl => ⟨rfl, rfl⟩)
  · rw [(o (4160 + q) (by omega)).1]
    exact hN.2.1 q q1 q2
  · have n1 := o (4160 + q) (by omega)
    rw [n1.1, n1.2]
    by_cases c : q = k.toInt.toNat
    · subst c
      rw [upd_s ef1 (by omega), upd_s ef2 (by omega), e1, e2]
      exact ⟨rfl, rfl⟩
    · rw [(o (130 * x.toInt.toNat + q) (by omega)).1, (o (130 * x.toInt.toNat + q) (by omega)).2]
      exact hC q (by omega)
theorem cp_lm {a w lm te le lm' : Nat → Int32} {x L v : Int32} {i : Nat} (hx : 0 ≤ x.toInt ∧ x.toInt ≤ 31) (hb : AR 0 61 lm) (hW : LWx a w lm te le x) (hN : LNB a w lm te le L) (hi : i = x.toInt.toNat) (ef : lm' = upd lm i v) (ev : v.toInt = (lm 32).toInt) : LWx a w lm' te le x ∧ LNB a w lm' te le L ∧ (lm' x.toInt.toNat).toInt = (lm' 32).toInt := by
  have o : ∀ q, ¬ q = i → lm' q = lm q := fun q hq => upd_o ef hq
  have e32 := o 32 (by omega)
  refine ⟨fun p hp hne => LP_keep (hW p hp hne) (by have := hb p; omega) (o p (by omega)) (fun q hq => ⟨rfl, rfl⟩) (fun l hl => ⟨rfl, rfl⟩), ⟨⟨?_, ?_⟩, hN.2.1, ?_⟩, ?_⟩
  · rw [e32]
    exact hN.1.1
  · exact LP_keep hN.1.2 (by have := hb 32; omega) e32 (fun q hq => ⟨rfl, rfl⟩) (fun l hl => ⟨rfl, rfl⟩)
  · rw [e32]
    exact hN.2.2
  · rw [e32, upd_s ef (j := x.toInt.toNat) (by omega), ev]
theorem cp_te {a w lm te le t1 l1 : Nat → Int32} {x k k' L v1 v2 : Int32} {i j : Nat} (hx : 0 ≤ x.toInt ∧ x.toInt ≤ 31) (hk : 0 ≤ k.toInt ∧ k.toInt < (lm 32).toInt) (hb : AR 0 61 lm) (hW : LWx a w lm te le x) (hN : LNB a w lm te le L) (hC : CT te le x k) (hi : i = 61 * x.toInt.toNat + k.toInt.toNat) (hj : j = i) (ev1 : v1.toInt = (te (1952 + k.toInt.toNat)).toInt) (ev2 : v2.toInt = (le (1952 + k.toInt.toNat)).toInt) (ef1 : t1 = upd te i (vp_nar .short v1)) (ef2 : l1 = upd le j (vp_nar .short v2)) (ek : k'.toInt = k.toInt + 1) : LWx a w lm t1 l1 x ∧ LNB a w lm t1 l1 L ∧ CT t1 l1 x k' := by
  subst hj
  have hb32 := hb 32
  have hs := hN.1.2 k.toInt.toNat (by omega)
  obtain ⟨g1, g2, g3, g4⟩ := hs
  have g1' : 0 ≤ (te (1952 + k.toInt.toNat)).toInt := g1
  have g2' : 0 ≤ (le (1952 + k.toInt.toNat)).toInt := g2
  have g5 : (te (1952 + k.toInt.toNat)).toInt.toNat ≤ (le (1952 + k.toInt.toNat)).toInt.toNat := g4.1
  have g6 : (le (1952 + k.toInt.toNat)).toInt.toNat ≤ 130 := g4.2.1
  have e1 : vp_nar .short v1 = te (1952 + k.toInt.toNat) := by
    rw [zn_shortI (by omega)]
    exact Int32.toInt_inj.mp ev1
  have e2 : vp_nar .short v2 = le (1952 + k.toInt.toNat) := by
    rw [zn_shortI (by omega)]
    exact Int32.toInt_inj.mp ev2
  have o : ∀ q, ¬ q = j → t1 q = te q ∧ l1 q = le q := fun q hq => ⟨upd_o ef1 hq, upd_o ef2 hq⟩
  refine ⟨fun p hp hne => LP_keep (hW p hp hne) (by have := hb p; omega) rfl (fun q hq => ⟨rfl, rfl⟩) (fun l hl => o _ (by omega)), ⟨⟨?_, ?_⟩, hN.2.1, fun l hl => ?_⟩, fun q hq => ?_⟩
  · have h1 := hN.1.1
    unfold lE at h1 ⊢
    rw [if_neg (by omega)] at h1 ⊢
    rw [(o (61 * 32 + (lm 32).toInt.toNat - 1) (by omega)).2]
    exact h1
  · exact LP_keep hN.1.2 (by omega) rfl (fun q hq => ⟨rfl, rfl⟩) (fun l hl => o _ (by omega))
  · rw [(o (1952 + l) (by omega)).2]
    exact hN.2.2 l hl
  · have n1 := o (1952 + q) (by omega)
    rw [n1.1, n1.2]
    by_cases c : q = k.toInt.toNat
    · subst c
      rw [upd_s ef1 (by omega), upd_s ef2 (by omega), e1, e2]
      exact ⟨rfl, rfl⟩
    · rw [(o (61 * x.toInt.toNat + q) (by omega)).1, (o (61 * x.toInt.toNat + q) (by omega)).2]
      exact hC q (by omega)
theorem cp_end {a w lm te le : Nat → Int32} {x k L : Int32} (hx : 0 ≤ x.toInt ∧ x.toInt ≤ 31) (hW : LWx a w lm te le x) (hN : LNB a w lm te le L) (hA : CA a w x L) (hT : CT te le x k) (hm : (lm x.toInt.toNat).toInt = (lm 32).toInt) (hk : (lm x.toInt.toNat).toInt ≤ k.toInt) : LW a w lm te le := fun p hp => by
  by_cases c : p = x.toInt.toNat
  · rw [c]
    refine LP_ext (p := 32) (n := (lm 32).toInt.toNat) hN.1.2 rfl (by omega) (fun l hl i hi => ?_) (fun l hl => ?_)
    · have h1 := hN.2.2 l hl
      have h2 : (le (61 * 32 + l)).toInt.toNat = (le (1952 + l)).toInt.toNat := rfl
      exact hA i (by omega)
    · exact hT l (by omega)
  · exact hW p hp c
theorem z32 : (32 : Int32).toNatClampNeg = 32 := by decide
theorem VKB_frm {a w a' w' : Nat → Int32} {b k : Nat} {T : Int32} (h : VKB a w b T k) (hf : FRM a w a' w' T) : VKB a' w' b T k := by
  obtain ⟨h1, h2, h3⟩ := h
  refine ⟨h1, fun i q1 q2 => ?_, ?_⟩
  · rw [(hf (4160 + i) (by omega)).1]
    exact h2 i q1 q2
  · rw [dp_ext (T.toInt.toNat - b) (fun q hq => hf (4160 + b + q) (by omega))]
    exact h3
theorem sn {x : Option Nat} {k : Nat} (h : x = some k) : x ≠ none := by rw [h]; exact fun q => by cases q
theorem line_A {a w lm te le a' w' lm' te' le' : Nat → Int32} {L L' v t s : Int32} (h : LNB a w lm te le L) (hb : AR 0 61 lm) (n iv jv : Nat) (hn : (lm 32).toInt = (n : Int)) (hn6 : n ≤ 60) (hiv : iv = 1952 + n) (hjv : jv = 1952 + n) (hfr : FRM a w a' w' L) (o1 : 0 ≤ L.toInt) (o4 : 0 ≤ L'.toInt ∧ L'.toInt ≤ 130) (ht : t = L.toInt16.toInt32) (hs : s = L'.toInt16.toInt32) (ete : te' = upd te iv (vp_nar .short t)) (ele : le' = upd le jv (vp_nar .short s)) (elm : lm' = upd lm (32 : Int32).toNatClampNeg v) (ev : v.toInt = (n : Int) + 1) (hv : VKB a' w' L.toInt.toNat L' 1) : LNB a' w' lm' te' le' L' := by
  subst hiv
  obtain ⟨h1, h2, h3⟩ := hv
  have e1 : vp_nar .short t = L := by rw [ht, zn_short0 (by omega), zn_shortI (by omega)]
  have e2 : vp_nar .short s = L' := by rw [hs, zn_short0 (by omega), zn_shortI (by omega)]
  rw [e1] at ete
  rw [e2] at ele
  refine LNB_add (T := L) h n hn hn6 hfr o1 (Int.le_refl _) (by omega) o4.2 (Or.inl rfl) (sn h3) h2 ?_ (fun i hi => upd_o ete hi) ?_ (fun i hi => upd_o ele (by omega)) ?_
  · rw [upd_s elm (by rw [z32]), ev]
  · rw [upd_s ete rfl]
  · rw [upd_s ele (by omega)]
theorem line_B {a w lm te le a' w' lm' te1 te' le' : Nat → Int32} {L T L' v t0 t s : Int32} (h : LNB a w lm te le L) (hb : AR 0 61 lm) (n iv kv jv : Nat) (hn : (lm 32).toInt = (n : Int)) (hn6 : n ≤ 60) (hiv : iv = 1952 + n) (hkv : kv = 1952 + n) (hjv : jv = 1952 + n) (hfr : FRM a w a' w' L) (o1 : 0 ≤ L.toInt) (o2 : L.toInt ≤ T.toInt) (o4 : 0 ≤ L'.toInt ∧ L'.toInt ≤ 130) (ht : t = T.toInt16.toInt32) (hs : s = L'.toInt16.toInt32) (ete1 : te1 = upd te iv t0) (ete : te' = upd te1 kv (vp_nar .short t)) (ele : le' = upd le jv (vp_nar .short s)) (elm : lm' = upd lm (32 : Int32).toNatClampNeg v) (ev : v.toInt = (n : Int) + 1) (hv1 : VKB a' w' L.toInt.toNat T 1) (hv : VKB a' w' T.toInt.toNat L' 1) : LNB a' w' lm' te' le' L' := by
  subst hiv
  obtain ⟨g1, g2, g3⟩ := hv1
  obtain ⟨h1, h2, h3⟩ := hv
  have e1 : vp_nar .short t = T := by rw [ht, zn_short0 (by omega), zn_shortI (by omega)]
  have e2 : vp_nar .short s = L' := by rw [hs, zn_short0 (by omega), zn_shortI (by omega)]
  rw [e1] at ete
  rw [e2] at ele
  refine LNB_add (T := T) h n hn hn6 hfr o1 o2 (by omega) o4.2 (Or.inr (sn g3)) (sn h3) (fun i q1 q2 => ?_) ?_ (fun i hi => ?_) ?_ (fun i hi => upd_o ele (by omega)) ?_
  · by_cases c : i < T.toInt.toNat
    · exact g2 i q1 c
    · exact h2 i (by omega) q2
  · rw [upd_s elm (by rw [z32]), ev]
  · rw [upd_o ete (by omega), upd_o ete1 hi]
  · rw [upd_s ete (by omega)]
  · rw [upd_s ele (by omega)]
theorem line_WA {a w lm te le a' w' lm' te' le' : Nat → Int32} {L v t s : Int32} (h : LW a w lm te le) (hb : AR 0 61 lm) (n iv jv : Nat) (hiv : iv = 1952 + n) (hjv : jv = 1952 + n) (hfr : FRM a w a' w' L) (ete : te' = upd te iv t) (ele : le' = upd le jv s) (elm : lm' = upd lm (32 : Int32).toNatClampNeg v) : LW a' w' lm' te' le' :=
  LW_line h hb hfr (fun p hp => upd_o elm (by rw [z32]; exact hp)) n (fun i hi => upd_o ete (by omega)) (fun i hi => upd_o ele (by omega))
theorem line_WB {a w lm te le a' w' lm' te1 te' le' : Nat → Int32} {L v t0 t s : Int32} (h : LW a w lm te le) (hb : AR 0 61 lm) (n iv kv jv : Nat) (hiv : iv = 1952 + n) (hkv : kv = 1952 + n) (hjv : jv = 1952 + n) (hfr : FRM a w a' w' L) (ete1 : te1 = upd te iv t0) (ete : te' = upd te1 kv t) (ele : le' = upd le jv s) (elm : lm' = upd lm (32 : Int32).toNatClampNeg v) : LW a' w' lm' te' le' :=
  LW_line h hb hfr (fun p hp => upd_o elm (by rw [z32]; exact hp)) n (fun i hi => by rw [upd_o ete (by omega), upd_o ete1 (by omega)]) (fun i hi => upd_o ele (by omega))
theorem LW_z {a w lm te le f : Nat → Int32} {v : Int32} (h : LW a w lm te le) (hb : AR 0 61 lm) (e : f = upd lm (32 : Int32).toNatClampNeg v) : LW a w f te le := fun p hp =>
  LP_keep (h p hp) (by have := hb p; omega) (upd_o e (by rw [z32]; omega)) (fun _ _ => ⟨rfl, rfl⟩) (fun _ _ => ⟨rfl, rfl⟩)
theorem LNB_z {a w lm te le f : Nat → Int32} {v L : Int32} (e : f = upd lm (32 : Int32).toNatClampNeg v) (hv : v.toInt = 0) (hL : L.toInt = 0) : LNB a w f te le L := by
  have e1 : (f 32).toInt = 0 := by rw [upd_s e (by rw [z32]), hv]
  have e2 : (f 32).toInt.toNat = 0 := by omega
  refine ⟨⟨?_, fun l hl => absurd hl (by omega)⟩, fun i q1 q2 => absurd q2 (by omega), fun l hl => absurd hl (by omega)⟩
  rw [e2, hL]
  rfl
theorem z32b : (32 : Int32).toInt.toNat = 32 := by decide
def EQL (lm : Nat → Int32) (x : Int32) : Prop := (lm x.toInt.toNat).toInt = (lm 32).toInt
theorem CA_eq {a w : Nat → Int32} {x k k' : Int32} (h : CA a w x k) (e : k'.toInt = k.toInt) : CA a w x k' := fun j hj => h j (by omega)
def IMP (A B : Prop) : Prop := A → B
def LK (t : Nat → Int32) (h n : Int32) : Int := if n.toInt ≤ h.toInt then -1 else (t h.toInt.toNat).toInt
/-- one token of the new law is copied to its place -/
theorem cq_act {a w lm te le f1 f2 : Nat → Int32} {x k k' L v1 v2 : Int32} {i j p1 p2 : Nat} (hx : 0 ≤ x.toInt ∧ x.toInt ≤ 31) (hk : 0 ≤ k.toInt ∧ k.toInt < L.toInt) (hL : L.toInt ≤ 130) (hb : AR 0 61 lm) (hW : LWx a w lm te le x) (hN : LNB a w lm te le L) (hC : CA a w x k) (hi : i = 130 * x.toInt.toNat + k.toInt.toNat) (hj : j = i) (ev1 : v1 = a p1) (ev2 : v2 = w p2) (hp1 : p1 = 4160 + k.toInt.toNat) (hp2 : p2 = p1) (ef1 : f1 = upd a i (vp_nar .byte v1)) (ef2 : f2 = upd w j v2) (ek : k'.toInt = k.toInt + 1) : LWx f1 f2 lm te le x ∧ LNB f1 f2 lm te le L ∧ CA f1 f2 x k' := by
  subst hj
  subst hp2
  subst hp1
  have hby := hN.2.1 k.toInt.toNat (by omega) (by omega)
  have e1 : vp_nar .byte v1 = a (4160 + k.toInt.toNat) := by
    rw [ev1, zn_byteI (by omega)]
  have e2 : v2 = w (4160 + k.toInt.toNat) := ev2
  have o : ∀ q, ¬ q = j → f1 q = a q ∧ f2 q = w q := fun q hq => ⟨upd_o ef1 hq, upd_o ef2 hq⟩
  refine ⟨fun p hp hne => LP_keep (hW p hp hne) (by have := hb p; omega) rfl (fun q hq => o _ (by omega)) (fun l hl => ⟨rfl, rfl⟩), ⟨⟨hN.1.1, ?_⟩, fun q q1 q2 => ?_, hN.2.2⟩, fun q hq => ?_⟩
  · exact LP_keep hN.1.2 (by have := hb 32; omega) rfl (fun q hq => o _ (by omega)) (fun l hl => ⟨rfl, rfl⟩)
  · rw [(o (4160 + q) (by omega)).1]
    exact hN.2.1 q q1 q2
  · have n1 := o (4160 + q) (by omega)
    rw [n1.1, n1.2]
    by_cases c : q = k.toInt.toNat
    · subst c
      rw [upd_s ef1 (by omega), upd_s ef2 (by omega), e1, e2]
      exact ⟨rfl, rfl⟩
    · rw [(o (130 * x.toInt.toNat + q) (by omega)).1, (o (130 * x.toInt.toNat + q) (by omega)).2]
      exact hC q (by omega)
theorem cq_lm {a w lm te le lm' : Nat → Int32} {x L v : Int32} {i p1 : Nat} (hx : 0 ≤ x.toInt ∧ x.toInt ≤ 31) (hb : AR 0 61 lm) (hW : LWx a w lm te le x) (hN : LNB a w lm te le L) (hi : i = x.toInt.toNat) (ef : lm' = upd lm i v) (ev : v = lm p1) (hp1 : p1 = 32) : LWx a w lm' te le x ∧ LNB a w lm' te le L ∧ (lm' x.toInt.toNat).toInt = (lm' 32).toInt := by
  have o : ∀ q, ¬ q = i → lm' q = lm q := fun q hq => upd_o ef hq
  have e32 := o 32 (by omega)
  refine ⟨fun p hp hne => LP_keep (hW p hp hne) (by have := hb p; omega) (o p (by omega)) (fun q hq => ⟨rfl, rfl⟩) (fun l hl => ⟨rfl, rfl⟩), ⟨⟨?_, ?_⟩, hN.2.1, ?_⟩, ?_⟩
  · rw [e32]
    exact hN.1.1
  · exact LP_keep hN.1.2 (by have := hb 32; omega) e32 (fun q hq => ⟨rfl, rfl⟩) (fun l hl => ⟨rfl, rfl⟩)
  · rw [e32]
    exact hN.2.2
  · rw [e32, upd_s ef (j := x.toInt.toNat) (by omega), ev, hp1]
theorem cq_te {a w lm te le t1 l1 : Nat → Int32} {x k k' L v1 v2 : Int32} {i j p1 p2 : Nat} (hx : 0 ≤ x.toInt ∧ x.toInt ≤ 31) (hk : 0 ≤ k.toInt ∧ k.toInt < (lm 32).toInt) (hb : AR 0 61 lm) (hW : LWx a w lm te le x) (hN : LNB a w lm te le L) (hC : CT te le x k) (hi : i = 61 * x.toInt.toNat + k.toInt.toNat) (hj : j = i) (ev1 : v1 = te p1) (ev2 : v2 = le p2) (hp1 : p1 = 1952 + k.toInt.toNat) (hp2 : p2 = p1) (ef1 : t1 = upd te i (vp_nar .short v1)) (ef2 : l1 = upd le j (vp_nar .short v2)) (ek : k'.toInt = k.toInt + 1) : LWx a w lm t1 l1 x ∧ LNB a w lm t1 l1 L ∧ CT t1 l1 x k' := by
  subst hj
  subst hp2
  subst hp1
  have hb32 := hb 32
  have hs := hN.1.2 k.toInt.toNat (by omega)
  obtain ⟨g1, g2, g3, g4⟩ := hs
  have g1' : 0 ≤ (te (1952 + k.toInt.toNat)).toInt := g1
  have g2' : 0 ≤ (le (1952 + k.toInt.toNat)).toInt := g2
  have g5 : (te (1952 + k.toInt.toNat)).toInt.toNat ≤ (le (1952 + k.toInt.toNat)).toInt.toNat := g4.1
  have g6 : (le (1952 + k.toInt.toNat)).toInt.toNat ≤ 130 := g4.2.1
  have e1 : vp_nar .short v1 = te (1952 + k.toInt.toNat) := by
    rw [ev1, zn_shortI (by omega)]
  have e2 : vp_nar .short v2 = le (1952 + k.toInt.toNat) := by
    rw [ev2, zn_shortI (by omega)]
  have o : ∀ q, ¬ q = j → t1 q = te q ∧ l1 q = le q := fun q hq => ⟨upd_o ef1 hq, upd_o ef2 hq⟩
  refine ⟨fun p hp hne => LP_keep (hW p hp hne) (by have := hb p; omega) rfl (fun q hq => ⟨rfl, rfl⟩) (fun l hl => o _ (by omega)), ⟨⟨?_, ?_⟩, hN.2.1, fun l hl => ?_⟩, fun q hq => ?_⟩
  · have h1 := hN.1.1
    unfold lE at h1 ⊢
    rw [if_neg (by omega)] at h1 ⊢
    rw [(o (61 * 32 + (lm 32).toInt.toNat - 1) (by omega)).2]
    exact h1
  · exact LP_keep hN.1.2 (by omega) rfl (fun q hq => ⟨rfl, rfl⟩) (fun l hl => o _ (by omega))
  · rw [(o (1952 + l) (by omega)).2]
    exact hN.2.2 l hl
  · have n1 := o (1952 + q) (by omega)
    rw [n1.1, n1.2]
    by_cases c : q = k.toInt.toNat
    · subst c
      rw [upd_s ef1 (by omega), upd_s ef2 (by omega), e1, e2]
      exact ⟨rfl, rfl⟩
    · rw [(o (61 * x.toInt.toNat + q) (by omega)).1, (o (61 * x.toInt.toNat + q) (by omega)).2]
      exact hC q (by omega)

