
set_option maxHeartbeats 4000000 in
set_option maxRecDepth 20000 in
theorem mb_number4 {mod_code : Int32} {court_shoeCount : Int32} {mod_claims : Int32} {ts : Int32} {at_ : Int32} {f : Int32} {court_suitCount : Int32} {mod_doneMany : Int32} {mod_undoneMany : Int32} {mod_open : Int32} {mod_laid : Int32} {mod_isBoth : Int32} {mod_wished : Int32} {mod_bestMany : Int32} {mod_bestRow : Int32} {mod_ringDigits : Int32} {mod_traces : Int32} {tm : Nat → Int32} {tb : Nat → Int32} {n : Nat} {x2 r u w : Int32} {m : Int} (hT : TS ts) (hR : TR ts tb tm) (hf : f.toInt < 0) (hp : PB ts at_) (hm : x2.toInt = m) (h : f_X12_number n (4 : Int32) x2 mod_code court_shoeCount mod_claims ts at_ f court_suitCount mod_doneMany mod_undoneMany mod_open mod_laid mod_isBoth mod_wished mod_bestMany mod_bestRow mod_ringDigits mod_traces tm = some (r, u, w)) : ((48 ≤ bZ ts tb at_ ∧ bZ ts tb at_ ≤ 57) ∧ (nmv ts tb 4 at_).toInt < m ∧ r = nmv ts tb 4 at_ ∧ u = nma ts tb 4 at_ ∧ w = f ∧ PB ts (nma ts tb 4 at_)) ∨ ((48 ≤ bZ ts tb at_ ∧ bZ ts tb at_ ≤ 57) ∧ m ≤ (nmv ts tb 4 at_).toInt ∧ r = nmv ts tb 4 at_ ∧ u = nma ts tb 4 at_ ∧ w = at_ ∧ PB ts (nma ts tb 4 at_)) ∨ ((bZ ts tb at_ < 48 ∨ 57 < bZ ts tb at_) ∧ r = 0 ∧ u = at_ ∧ w = at_) := by
  unfold f_X12_number B_X12_number_0 at h
  obtain ⟨q1, q2, q3, q4⟩ := mb_numL hT hR hf n 4 (4 : Int32) x2 at_ 0 0 at_ _ (by decide) (by decide) (by decide) hp h
  by_cases c : 48 ≤ bZ ts tb at_ ∧ bZ ts tb at_ ≤ 57
  · by_cases c2 : (nmv ts tb 4 at_).toInt < m
    · exact Or.inl ⟨c, c2, q1, q2, q4 ⟨fun z => z.2.elim (fun y => absurd y (by decide)) (fun y => y c), by rw [hm]; exact c2⟩, nma_PB hT 4 hp⟩
    · have c3 : m ≤ (nmv ts tb 4 at_).toInt := by omega
      exact Or.inr (Or.inl ⟨c, c3, q1, q2, q3 (Or.inr (by rw [hm]; exact c3)), nma_PB hT 4 hp⟩)
  · have hn : nmr ts tb 4 0 at_ = (0, at_) := by
      show (if 48 ≤ bZ ts tb at_ ∧ bZ ts tb at_ ≤ 57 then nmr ts tb 3 (0 * 10 + bz ts tb at_ - 48) (at_ + 1) else (0, at_)) = _
      rw [if_neg c]
    rw [hn] at q1 q2
    exact Or.inr (Or.inr ⟨by omega, q1, q2, q3 (Or.inl ⟨rfl, Or.inr c⟩)⟩)
def op2 (w a b : Int32) : Int32 := if w = 43 then a + b else if w = 45 then a - b else if w = 42 then a * b else if w = 47 then (if b = 0 then 0 else a / b) else if w = 37 then (if b = 0 then 0 else a - a / b * b) else if w = 60 then (if a < b then 1 else 0) else if w = 61 then (if a = b then 1 else 0) else if w = 62 then (if b < a then 1 else 0) else if w = 38 then (if a = 0 ∨ b = 0 then 0 else 1) else (if a = 0 ∧ b = 0 then 0 else 1)
def ev1 (fs : Nat → Int32) (x : Int32 × Int32) (st : List Int32) : Option (List Int32) :=
  if x.1 = 1 then some (x.2 :: st)
  else if x.1 = 2 then some (fs x.2.toInt.toNat :: st)
  else if x.1 = 3 then (match st with
    | a :: t => some ((if a = 0 then 1 else 0) :: t)
    | [] => none)
  else if x.1 = 4 then (match st with
    | a :: t => some (-a :: t)
    | [] => none)
  else (match st with
    | b :: a :: t => some (op2 x.1 a b :: t)
    | _ => none)
def evs (fs : Nat → Int32) : List (Int32 × Int32) → List Int32 → Option (List Int32)
  | [], st => some st
  | x :: L, st => (ev1 fs x st).bind (evs fs L)
theorem evs_app (fs : Nat → Int32) : ∀ (L1 L2 : List (Int32 × Int32)) (st : List Int32), evs fs (L1 ++ L2) st = (evs fs L1 st).bind (evs fs L2)
  | [], L2, st => rfl
  | x :: L1, L2, st => by
    show (ev1 fs x st).bind (evs fs (L1 ++ L2)) = ((ev1 fs x st).bind (evs fs L1)).bind (evs fs L2)
    cases ev1 fs x st with
    | none => rfl
    | some s1 => exact evs_app fs L1 L2 s1
/-- the same, where at most K numbers may wait -/
def evk (fs : Nat → Int32) (K : Nat) : List (Int32 × Int32) → List Int32 → Option (List Int32)
  | [], st => some st
  | x :: L, st => if (x.1 = 1 ∨ x.1 = 2) ∧ K ≤ st.length then none else (ev1 fs x st).bind (evk fs K L)
theorem evk_app (fs : Nat → Int32) (K : Nat) : ∀ (L1 L2 : List (Int32 × Int32)) (st : List Int32), evk fs K (L1 ++ L2) st = (evk fs K L1 st).bind (evk fs K L2)
  | [], L2, st => rfl
  | x :: L1, L2, st => by
    show (if (x.1 = 1 ∨ x.1 = 2) ∧ K ≤ st.length then none else (ev1 fs x st).bind (evk fs K (L1 ++ L2))) = (if (x.1 = 1 ∨ x.1 = 2) ∧ K ≤ st.length then none else (ev1 fs x st).bind (evk fs K L1)).bind (evk fs K L2)
    by_cases c : (x.1 = 1 ∨ x.1 = 2) ∧ K ≤ st.length
    · rw [if_pos c, if_pos c]
      rfl
    · rw [if_neg c, if_neg c]
      cases ev1 fs x st with
      | none => rfl
      | some s1 => exact evk_app fs K L1 L2 s1
/-- a text of an operand: it leaves one number above those that waited, and never more than H wait above them -/
def TSG (H : Nat) (L : List (Int32 × Int32)) : Prop := ∀ (fs : Nat → Int32) (st : List Int32), ∃ v, evs fs L st = some (v :: st) ∧ ∀ K, st.length + H ≤ K → evk fs K L st = some (v :: st)
theorem TSG_le {H H2 : Nat} {L : List (Int32 × Int32)} (a : TSG H L) (h : H ≤ H2) : TSG H2 L := fun fs st => by
  obtain ⟨v, e, f⟩ := a fs st
  exact ⟨v, e, fun K hK => f K (by omega)⟩
theorem TSG_m {H : Nat} {L : List (Int32 × Int32)} (a : TSG H L) : TSG (H + 1) L := TSG_le a (Nat.le_succ H)
theorem TSG_1 {H : Nat} {x : Int32 × Int32} (hx : x.1 = 1 ∨ x.1 = 2) (hH : 1 ≤ H) : TSG H [x] := fun fs st => by
  have e : ∃ v, ev1 fs x st = some (v :: st) := by
    unfold ev1
    by_cases c : x.1 = 1
    · rw [if_pos c]
      exact ⟨_, rfl⟩
    · rw [if_neg c, if_pos (hx.resolve_left c)]
      exact ⟨_, rfl⟩
  obtain ⟨v, e⟩ := e
  refine ⟨v, ?_, fun K hK => ?_⟩
  · show (ev1 fs x st).bind (evs fs []) = _
    rw [e]
    rfl
  · show (if (x.1 = 1 ∨ x.1 = 2) ∧ K ≤ st.length then none else (ev1 fs x st).bind (evk fs K [])) = _
    rw [if_neg (fun z => by have := z.2; omega), e]
    rfl
theorem TSG_un {H : Nat} {L : List (Int32 × Int32)} {x : Int32 × Int32} (a : TSG H L) (hx : x.1 = 3 ∨ x.1 = 4) : TSG H (L ++ [x]) := fun fs st => by
  obtain ⟨v, e, f⟩ := a fs st
  have e1 : ∃ w, ev1 fs x (v :: st) = some (w :: st) := by
    unfold ev1
    by_cases c : x.1 = 3
    · rw [if_neg (by rw [c]; decide), if_neg (by rw [c]; decide), if_pos c]
      exact ⟨_, rfl⟩
    · have c4 := hx.resolve_left c
      rw [if_neg (by rw [c4]; decide), if_neg (by rw [c4]; decide), if_neg c, if_pos c4]
      exact ⟨_, rfl⟩
  obtain ⟨w, e1⟩ := e1
  have n12 : ¬ (x.1 = 1 ∨ x.1 = 2) := by
    rcases hx with h | h <;> rw [h] <;> decide
  refine ⟨w, ?_, fun K hK => ?_⟩
  · rw [evs_app, e]
    show (ev1 fs x (v :: st)).bind (evs fs []) = _
    rw [e1]
    rfl
  · rw [evk_app, f K hK]
    show (if (x.1 = 1 ∨ x.1 = 2) ∧ K ≤ (v :: st).length then none else (ev1 fs x (v :: st)).bind (evk fs K [])) = _
    rw [if_neg (fun z => n12 z.1), e1]
    rfl
theorem TSG_bin {H1 H2 H : Nat} {L1 L2 : List (Int32 × Int32)} {x : Int32 × Int32} (a1 : TSG H1 L1) (a2 : TSG H2 L2) (hx : x.1 ≠ 1 ∧ x.1 ≠ 2 ∧ x.1 ≠ 3 ∧ x.1 ≠ 4) (h1 : H1 ≤ H) (h2 : H2 + 1 ≤ H) : TSG H (L1 ++ (L2 ++ [x])) := fun fs st => by
  obtain ⟨v, e1, f1⟩ := a1 fs st
  obtain ⟨w, e2, f2⟩ := a2 fs (v :: st)
  have e3 : ∃ y, ev1 fs x (w :: v :: st) = some (y :: st) := by
    unfold ev1
    rw [if_neg hx.1, if_neg hx.2.1, if_neg hx.2.2.1, if_neg hx.2.2.2]
    exact ⟨_, rfl⟩
  obtain ⟨y, e3⟩ := e3
  have n12 : ¬ (x.1 = 1 ∨ x.1 = 2) := fun z => z.elim hx.1 hx.2.1
  refine ⟨y, ?_, fun K hK => ?_⟩
  · rw [evs_app, e1]
    show evs fs (L2 ++ [x]) (v :: st) = _
    rw [evs_app, e2]
    show (ev1 fs x (w :: v :: st)).bind (evs fs []) = _
    rw [e3]
    rfl
  · rw [evk_app, f1 K (by omega)]
    show evk fs K (L2 ++ [x]) (v :: st) = _
    rw [evk_app, f2 K (by simp only [List.length_cons]; omega)]
    show (if (x.1 = 1 ∨ x.1 = 2) ∧ K ≤ (w :: v :: st).length then none else (ev1 fs x (w :: v :: st)).bind (evk fs K [])) = _
    rw [if_neg (fun z => n12 z.1), e3]
    rfl
/-- how many may wait above an operand behind so many open brackets -/
def HH0 (o : Int32) : Nat := (5 * (6 - o.toInt)).toNat
def enc (x : Int32 × Int32) : Int32 := if x.1 = 1 then (x.2 <<< ((5 : Int32) &&& 31)) ||| (0 : Int32) else if x.1 = 2 then (x.2 <<< ((5 : Int32) &&& 31)) ||| (1 : Int32) else if x.1 = 3 then 4 else if x.1 = 4 then 5 else if x.1 = 124 then 6 else if x.1 = 38 then 7 else if x.1 = 60 then 8 else if x.1 = 61 then 9 else if x.1 = 62 then 10 else if x.1 = 43 then 11 else if x.1 = 45 then 12 else if x.1 = 42 then 13 else if x.1 = 47 then 14 else 15
/-- a token as it may stand in a text -/
def TKV (x : Int32 × Int32) : Prop := (x.1 = 1 ∧ 0 ≤ x.2.toInt ∧ x.2.toInt ≤ 9999) ∨ (x.1 = 2 ∧ 0 ≤ x.2.toInt ∧ x.2.toInt ≤ 10) ∨ ((x.1 = 3 ∨ x.1 = 4 ∨ x.1 = 124 ∨ x.1 = 38 ∨ x.1 = 60 ∨ x.1 = 61 ∨ x.1 = 62 ∨ x.1 = 43 ∨ x.1 = 45 ∨ x.1 = 42 ∨ x.1 = 47 ∨ x.1 = 37) ∧ x.2 = 0)
/-- the tokens L stand in the class's code from a on, in the reference's rows from b on -/
def CTk (cd : Nat → Int32) (a : Nat) (L : List (Int32 × Int32)) : Prop := ∀ (k : Nat) (x : Int32 × Int32), L[k]? = some x → cd (a + k) = enc x ∧ TKV x
def MTk (ac wi : Nat → Int32) (b : Nat) (L : List (Int32 × Int32)) : Prop := ∀ (k : Nat) (x : Int32 × Int32), L[k]? = some x → ac (b + k) = x.1 ∧ wi (b + k) = x.2
theorem CTk_nil {cd : Nat → Int32} {a : Nat} : CTk cd a [] := fun k x h => by
  rw [List.getElem?_nil] at h
  cases h
theorem MTk_nil {ac wi : Nat → Int32} {b : Nat} : MTk ac wi b [] := fun k x h => by
  rw [List.getElem?_nil] at h
  cases h
theorem CTk_app {cd cd2 : Nat → Int32} {a : Nat} {L L2 : List (Int32 × Int32)} (h1 : CTk cd a L) (h2 : CTk cd2 (a + L.length) L2) (hf : ∀ k, k < a + L.length → cd2 k = cd k) : CTk cd2 a (L ++ L2) := by
  intro k x hk
  by_cases c : k < L.length
  · rw [List.getElem?_append_left c] at hk
    rw [hf _ (by omega)]
    exact h1 k x hk
  · rw [List.getElem?_append_right (by omega)] at hk
    have := h2 (k - L.length) x hk
    have e : a + L.length + (k - L.length) = a + k := by omega
    rw [e] at this
    exact this
theorem MTk_app {ac wi ac2 wi2 : Nat → Int32} {b : Nat} {L L2 : List (Int32 × Int32)} (h1 : MTk ac wi b L) (h2 : MTk ac2 wi2 (b + L.length) L2) (hf : ∀ k, k < b + L.length → ac2 k = ac k ∧ wi2 k = wi k) : MTk ac2 wi2 b (L ++ L2) := by
  intro k x hk
  by_cases c : k < L.length
  · rw [List.getElem?_append_left c] at hk
    rw [(hf _ (by omega)).1, (hf _ (by omega)).2]
    exact h1 k x hk
  · rw [List.getElem?_append_right (by omega)] at hk
    have := h2 (k - L.length) x hk
    have e : b + L.length + (k - L.length) = b + k := by omega
    rw [e] at this
    exact this
theorem CTk_1 {cd : Nat → Int32} {a : Nat} {x : Int32 × Int32} {v : Int32} (hv : v = enc x) (ht : TKV x) : CTk (upd cd a v) a [x] := by
  intro k y hk
  cases k with
  | zero =>
    have hk : some x = some y := hk
    have hk := Option.some.inj hk
    subst hk
    unfold upd
    rw [if_pos (Nat.add_zero a)]
    exact ⟨hv, ht⟩
  | succ k =>
    have hk : ([] : List (Int32 × Int32))[k]? = some y := hk
    rw [List.getElem?_nil] at hk
    cases hk
theorem MTk_1 {ac wi : Nat → Int32} {b : Nat} {x : Int32 × Int32} {v w : Int32} (hv : v = x.1) (hw : w = x.2) : MTk (upd ac b v) (upd wi b w) b [x] := by
  intro k y hk
  cases k with
  | zero =>
    have hk : some x = some y := hk
    have hk := Option.some.inj hk
    subst hk
    unfold upd
    rw [if_pos (Nat.add_zero b), if_pos (Nat.add_zero b)]
    exact ⟨hv, hw⟩
  | succ k =>
    have hk : ([] : List (Int32 × Int32))[k]? = some y := hk
    rw [List.getElem?_nil] at hk
    cases hk
/-- tokens added on both sides since s0, l0 at the place a0 -/
def SEGS (s0 a0 l0 : Int) (c0 A0 W0 : Nat → Int32) (s1 a1 l1 : Int) (c1 A1 W1 : Nat → Int32) (L : List (Int32 × Int32)) : Prop := s1 = s0 + L.length ∧ l1 = l0 + L.length ∧ a0 + L.length ≤ a1 ∧ CTk c1 s0.toNat L ∧ (∀ k, k < s0.toNat → c1 k = c0 k) ∧ MTk A1 W1 (4160 + l0.toNat) L ∧ (∀ k, k < 4160 + l0.toNat → A1 k = A0 k ∧ W1 k = W0 k)
theorem SEGS_rf {s a l : Int} {c A W : Nat → Int32} : SEGS s a l c A W s a l c A W [] := ⟨by simp only [List.length_nil]; omega, by simp only [List.length_nil]; omega, by simp only [List.length_nil]; omega, CTk_nil, fun _ _ => rfl, MTk_nil, fun _ _ => ⟨rfl, rfl⟩⟩
theorem SEGS_r2 {s a a1 l : Int} {c A W : Nat → Int32} (h : a ≤ a1) : SEGS s a l c A W s a1 l c A W [] := ⟨by simp only [List.length_nil]; omega, by simp only [List.length_nil]; omega, by simp only [List.length_nil]; omega, CTk_nil, fun _ _ => rfl, MTk_nil, fun _ _ => ⟨rfl, rfl⟩⟩
theorem SEGS_tr {s0 a0 l0 s1 a1 l1 a1' s2 a2 l2 : Int} {c0 A0 W0 c1 A1 W1 c2 A2 W2 : Nat → Int32} {L1 L2 : List (Int32 × Int32)} (hs : 0 ≤ s0) (hl : 0 ≤ l0) (ha : a1 ≤ a1') (h1 : SEGS s0 a0 l0 c0 A0 W0 s1 a1 l1 c1 A1 W1 L1) (h2 : SEGS s1 a1' l1 c1 A1 W1 s2 a2 l2 c2 A2 W2 L2) : SEGS s0 a0 l0 c0 A0 W0 s2 a2 l2 c2 A2 W2 (L1 ++ L2) := by
  obtain ⟨p1, p2, p3, p4, p5, p6, p7⟩ := h1
  obtain ⟨q1, q2, q3, q4, q5, q6, q7⟩ := h2
  have e1 : s1.toNat = s0.toNat + L1.length := by omega
  have e2 : 4160 + l1.toNat = 4160 + l0.toNat + L1.length := by omega
  rw [e1] at q4 q5
  rw [e2] at q6 q7
  refine ⟨by rw [List.length_append]; omega, by rw [List.length_append]; omega, by rw [List.length_append]; omega, CTk_app p4 q4 q5, fun k hk => ?_, MTk_app p6 q6 q7, fun k hk => ?_⟩
  · rw [q5 k (by omega), p5 k hk]
  · have x := q7 k (by omega)
    have y := p7 k hk
    exact ⟨x.1.trans y.1, x.2.trans y.2⟩
theorem SEGS_em {s0 a0 l0 s1 a1 l1 : Int} {c0 A0 W0 c1 A1 W1 : Nat → Int32} {L : List (Int32 × Int32)} {x : Int32 × Int32} {i j : Nat} {v b w : Int32} {s2 l2 : Int} (hs : 0 ≤ s0) (hl : 0 ≤ l0) (h : SEGS s0 a0 l0 c0 A0 W0 s1 a1 l1 c1 A1 W1 L) (ha : a0 + L.length + 1 ≤ a1) (hv : v = enc x) (hb : b = x.1) (hw : w = x.2) (ht : TKV x) (hi : i = s1.toNat) (hj : j = 4160 + l1.toNat) (h2 : s2 = s1 + 1) (h3 : l2 = l1 + 1) : SEGS s0 a0 l0 c0 A0 W0 s2 a1 l2 (upd c1 i v) (upd A1 j b) (upd W1 j w) (L ++ [x]) := by
  have q : SEGS s1 (a0 + L.length) l1 c1 A1 W1 s2 a1 l2 (upd c1 i v) (upd A1 j b) (upd W1 j w) [x] := by
    subst hi
    subst hj
    refine ⟨by simp only [List.length_cons, List.length_nil]; omega, by simp only [List.length_cons, List.length_nil]; omega, by simp only [List.length_cons, List.length_nil]; omega, CTk_1 hv ht, fun k hk => ?_, MTk_1 hb hw, fun k hk => ?_⟩
    · unfold upd
      rw [if_neg (by omega)]
    · unfold upd
      rw [if_neg (by omega), if_neg (by omega)]
      exact ⟨rfl, rfl⟩
  have p : SEGS s0 a0 l0 c0 A0 W0 s1 (a0 + L.length) l1 c1 A1 W1 L := ⟨h.1, h.2.1, Int.le_refl _, h.2.2.2⟩
  exact SEGS_tr hs hl (Int.le_refl _) p q
theorem SEGS_sh {s0 a0 a0' l0 s1 a1 l1 : Int} {c0 A0 W0 c1 A1 W1 : Nat → Int32} {L : List (Int32 × Int32)} (h : SEGS s0 a0' l0 c0 A0 W0 s1 a1 l1 c1 A1 W1 L) (e : a0' = a0 + 1) : SEGS s0 a0 l0 c0 A0 W0 s1 a1 l1 c1 A1 W1 L ∧ a0 + L.length + 1 ≤ a1 := by
  have := h.2.2.1
  exact ⟨⟨h.1, h.2.1, by omega, h.2.2.2⟩, by omega⟩
def LPR (ts o sz a f h g o2 l : Int32) : Prop := f.toInt < 0 ∧ g.toInt < 0 ∧ h = a ∧ PB ts a ∧ o2 = o ∧ 0 ≤ o.toInt ∧ o.toInt ≤ 6 ∧ 0 ≤ sz.toInt ∧ sz.toInt ≤ a.toInt ∧ 0 ≤ l.toInt ∧ l.toInt ≤ a.toInt
/-- both failed at one place, or the reference alone: a fifth digit stands where the class goes on -/
def LBAD (ts : Int32) (tb : Nat → Int32) (a f g : Int32) : Prop := (0 ≤ f.toInt ∧ f.toInt ≤ ts.toInt ∧ g = f) ∨ (f.toInt < 0 ∧ PB ts a ∧ (48 ≤ bZ ts tb a ∧ bZ ts tb a ≤ 57) ∧ g = a)
def LOUT (ts : Int32) (tb : Nat → Int32) (kh : Nat) (o : Int32) (s0 a0 l0 : Int) (c0 A0 W0 : Nat → Int32) (R : Int32 × Int32 × Int32 × (Nat → Int32)) (S : Int32 × Int32 × Int32 × Int32 × (Nat → Int32) × (Nat → Int32)) : Prop := (LPR ts o R.1 R.2.1 R.2.2.1 S.1 S.2.1 S.2.2.1 S.2.2.2.1 ∧ ∃ L, TSG kh L ∧ SEGS s0 a0 l0 c0 A0 W0 R.1.toInt R.2.1.toInt S.2.2.2.1.toInt R.2.2.2 S.2.2.2.2.1 S.2.2.2.2.2 L) ∨ LBAD ts tb R.2.1 R.2.2.1 S.2.1
def sgn (lv : Int32) (b : Int) : Prop := (lv = 0 ∧ b = 124) ∨ (lv = 1 ∧ b = 38) ∨ (lv = 2 ∧ (b = 60 ∨ b = 61 ∨ b = 62)) ∨ (lv = 3 ∧ (b = 43 ∨ b = 45)) ∨ (lv = 4 ∧ (b = 42 ∨ b = 47 ∨ b = 37))
theorem sgn_r {lv : Int32} {b : Int} (h : sgn lv b) : 37 ≤ b ∧ b ≤ 124 ∧ ¬ (48 ≤ b ∧ b ≤ 57) := by
  unfold sgn at h
  omega
theorem sgn_tk {lv b : Int32} (h : sgn lv b.toInt) : TKV (b, 0) ∧ b ≠ 1 ∧ b ≠ 2 ∧ b ≠ 3 ∧ b ≠ 4 := by
  have hr := sgn_r h
  have n : ∀ c : Int32, c.toInt ≤ 36 → b ≠ c := fun c hc e => by
    rw [e] at hr
    omega
  refine ⟨Or.inr (Or.inr ⟨?_, rfl⟩), n 1 (by decide), n 2 (by decide), n 3 (by decide), n 4 (by decide)⟩
  have k : ∀ c : Int32, b.toInt = c.toInt → b = c := fun c hc => Int32.toInt_inj.mp hc
  show b = 3 ∨ b = 4 ∨ b = 124 ∨ b = 38 ∨ b = 60 ∨ b = 61 ∨ b = 62 ∨ b = 43 ∨ b = 45 ∨ b = 42 ∨ b = 47 ∨ b = 37
  rcases h with ⟨_, h⟩ | ⟨_, h⟩ | ⟨_, h | h | h⟩ | ⟨_, h | h⟩ | ⟨_, h | h | h⟩
  · exact Or.inr (Or.inr (Or.inl (k 124 h)))
  · exact Or.inr (Or.inr (Or.inr (Or.inl (k 38 h))))
  · exact Or.inr (Or.inr (Or.inr (Or.inr (Or.inl (k 60 h)))))
  · exact Or.inr (Or.inr (Or.inr (Or.inr (Or.inr (Or.inl (k 61 h))))))
  · exact Or.inr (Or.inr (Or.inr (Or.inr (Or.inr (Or.inr (Or.inl (k 62 h)))))))
  · exact Or.inr (Or.inr (Or.inr (Or.inr (Or.inr (Or.inr (Or.inr (Or.inl (k 43 h))))))))
  · exact Or.inr (Or.inr (Or.inr (Or.inr (Or.inr (Or.inr (Or.inr (Or.inr (Or.inl (k 45 h)))))))))
  · exact Or.inr (Or.inr (Or.inr (Or.inr (Or.inr (Or.inr (Or.inr (Or.inr (Or.inr (Or.inl (k 42 h))))))))))
  · exact Or.inr (Or.inr (Or.inr (Or.inr (Or.inr (Or.inr (Or.inr (Or.inr (Or.inr (Or.inr (Or.inl (k 47 h)))))))))))
  · exact Or.inr (Or.inr (Or.inr (Or.inr (Or.inr (Or.inr (Or.inr (Or.inr (Or.inr (Or.inr (Or.inr (k 37 h)))))))))))

set_option maxHeartbeats 4000000 in
set_option maxRecDepth 20000 in
theorem c5_accept {ts : Int32} {tb : Nat → Int32} {sz a f : Int32} {x1 r u : Int32} {n : Int} (hT : TS ts) (hp : f.toInt < 0 → PB ts a) (hn : x1.toInt = n ∧ 0 ≤ n) (h : f_X5_accept x1 ts tb sz a f = some (r, u)) : (f.toInt < 0 ∧ bZ ts tb a = n ∧ r = 1 ∧ u = a + 1 ∧ PB ts (a + 1)) ∨ ((0 ≤ f.toInt ∨ bZ ts tb a ≠ n) ∧ r = 0 ∧ u = a) := by
  unfold f_X5_accept B_X5_accept_0 at h
  by_cases c1 : 0 ≤ f
  · have h := Option.some.inj (zk_t c1 h)
    rw [i32_le, z32_0] at c1
    exact Or.inr ⟨Or.inl c1, (congrArg Prod.fst h).symm, (congrArg Prod.snd h).symm⟩
  · have h := zk_f c1 h
    rw [i32_le, z32_0] at c1
    obtain ⟨r1, u1, h1, h⟩ := zk_o2 h
    have e := cb_byte hT h1
    by_cases c2 : r1 = x1
    · have h := zk_t c2 h
      obtain ⟨v, ev, h⟩ := zk_lt h
      have h := Option.some.inj h
      have hb : bZ ts tb a = n := by unfold bZ; rw [← e, c2]; exact hn.1
      exact Or.inl ⟨by omega, hb, (congrArg Prod.fst h).symm, by rw [← ev]; exact (congrArg Prod.snd h).symm, PB_s hT (hp (by omega)) (by rw [hb]; exact hn.2)⟩
    · have h := Option.some.inj (zk_f c2 h)
      have hb : bZ ts tb a ≠ n := by
        unfold bZ
        rw [← e]
        intro z
        exact c2 (Int32.toInt_inj.mp (z.trans hn.1.symm))
      exact Or.inr ⟨Or.inr hb, (congrArg Prod.fst h).symm, (congrArg Prod.snd h).symm⟩
set_option maxHeartbeats 4000000 in
set_option maxRecDepth 20000 in
theorem c5_fail  {sz a f : Int32} {u : Int32} (h : f_X5_fail sz a f = some u) : (f.toInt < 0 ∧ u = a) ∨ (0 ≤ f.toInt ∧ u = f) := by
  unfold f_X5_fail B_X5_fail_0 at h
  by_cases c1 : 0 ≤ f
  · have h := (Option.some.inj (zk_t c1 h)).symm
    rw [i32_le, z32_0] at c1
    exact Or.inr ⟨c1, h⟩
  · have h := (Option.some.inj (zk_f c1 h)).symm
    rw [i32_le, z32_0] at c1
    exact Or.inl ⟨by omega, h⟩
set_option maxHeartbeats 4000000 in
set_option maxRecDepth 20000 in
theorem c5_emit  {sz a f : Int32} {cd : Nat → Int32} {x1 : Int32} {R : Int32 × (Nat → Int32)} (h : f_X5_emit x1 sz a f cd = some R) : (f.toInt < 0 → 0 ≤ sz.toInt → sz.toInt ≤ 120 → R.1.toInt = sz.toInt + 1 ∧ R.1 = sz + 1 ∧ R.2 = upd cd sz.toInt.toNat x1) ∧ (0 ≤ f.toInt → R = (sz, cd)) := by
  unfold f_X5_emit B_X5_emit_0 at h
  by_cases c1 : 0 ≤ f
  · have h := (Option.some.inj (zk_t c1 h)).symm
    rw [i32_le, z32_0] at c1
    exact ⟨fun z => by omega, fun _ => h⟩
  · have h := zk_f c1 h
    rw [i32_le, z32_0] at c1
    refine ⟨fun _ b0 b1 => ?_, fun z => by omega⟩
    have e121 : (121 : Int32).toInt = 121 := by decide
    have h := zk_f (show ¬ (121 : Int32) ≤ sz by rw [i32_le, e121]; omega) h
    obtain ⟨_, h⟩ := zk_gd h
    obtain ⟨v1, e1, h⟩ := zk_lt h
    obtain ⟨v2, e2, h⟩ := zk_lt h
    have h := Option.some.inj h
    subst e1
    subst e2
    rw [← h]
    exact ⟨i32_s (by omega), rfl, rfl⟩
set_option maxHeartbeats 4000000 in
set_option maxRecDepth 20000 in
theorem c5_open  {sz a f : Int32} {x1 : Int32} {R : Int32 × Int32 × Int32} (hf : f.toInt < 0) (h : f_X5_mayOpen x1 sz a f = some R) : (x1.toInt < 6 ∧ R = (1, a + 1, f)) ∨ (6 ≤ x1.toInt ∧ R = (0, a, a)) := by
  unfold f_X5_mayOpen B_X5_mayOpen_0 at h
  have e6 : (6 : Int32).toInt = 6 := by decide
  by_cases c1 : x1 < 6
  · have h := zk_t c1 h
    rw [i32_lt, e6] at c1
    obtain ⟨v1, e1, h⟩ := zk_lt h
    subst e1
    exact Or.inl ⟨c1, (Option.some.inj h).symm⟩
  · have h := zk_f c1 h
    rw [i32_lt, e6] at c1
    obtain ⟨u, a1, h⟩ := zk_o1 h
    rcases c5_fail a1 with ⟨_, e⟩ | ⟨e, _⟩
    · subst e
      exact Or.inr ⟨by omega, (Option.some.inj h).symm⟩
    · omega
set_option maxHeartbeats 4000000 in
set_option maxRecDepth 20000 in
theorem c5_op {ts : Int32} {tb : Nat → Int32} {sz a f : Int32} {lv r : Int32} {u : Unit} (hT : TS ts) (hl : 0 ≤ lv.toInt ∧ lv.toInt ≤ 4) (h : f_X5_operatorAt lv ts tb sz a f = some (r, u)) : (sgn lv (bZ ts tb a) ∧ r = enc (bz ts tb a, 0)) ∨ (¬ sgn lv (bZ ts tb a) ∧ r = -1) := by
  unfold f_X5_operatorAt B_X5_operatorAt_0 at h
  obtain ⟨r1, u1, h1, h⟩ := zk_o2 h
  have e := cb_byte hT h1
  subst e
  have q : ∀ c : Int32, bz ts tb a ≠ c → bZ ts tb a ≠ c.toInt := fun c n z => n (Int32.toInt_inj.mp z)
  have q2 : ∀ c : Int32, bz ts tb a = c → bZ ts tb a = c.toInt := fun c z => by unfold bZ; rw [z]
  by_cases k0 : lv = (0 : Int32)
  · have h := zk_t k0 h
    subst k0
    by_cases b124 : bz ts tb a = (124 : Int32)
    · have h : r = (6 : Int32) := (congrArg Prod.fst (Option.some.inj (zk_t b124 h))).symm
      have w := q2 _ b124
      have e9 : (124 : Int32).toInt = 124 := by decide
      rw [e9] at w
      refine Or.inl ⟨?_, ?_⟩
      · exact Or.inl ⟨rfl, w⟩
      · rw [h, b124]
        decide
    have h := zk_f b124 h
    have h : r = (-1 : Int32) := (congrArg Prod.fst (Option.some.inj h)).symm
    have n124 := q _ b124
    have e124 : (124 : Int32).toInt = 124 := by decide
    rw [e124] at n124
    refine Or.inr ⟨fun z => ?_, h⟩
    rcases z with ⟨z1, z⟩ | ⟨z1, z⟩ | ⟨z1, z⟩ | ⟨z1, z⟩ | ⟨z1, z⟩
    · omega
    · exact absurd z1 (by decide)
    · exact absurd z1 (by decide)
    · exact absurd z1 (by decide)
    · exact absurd z1 (by decide)
  have h := zk_f k0 h
  by_cases k1 : lv = (1 : Int32)
  · have h := zk_t k1 h
    subst k1
    by_cases b38 : bz ts tb a = (38 : Int32)
    · have h : r = (7 : Int32) := (congrArg Prod.fst (Option.some.inj (zk_t b38 h))).symm
      have w := q2 _ b38
      have e9 : (38 : Int32).toInt = 38 := by decide
      rw [e9] at w
      refine Or.inl ⟨?_, ?_⟩
      · exact Or.inr (Or.inl ⟨rfl, w⟩)
      · rw [h, b38]
        decide
    have h := zk_f b38 h
    have h : r = (-1 : Int32) := (congrArg Prod.fst (Option.some.inj h)).symm
    have n38 := q _ b38
    have e38 : (38 : Int32).toInt = 38 := by decide
    rw [e38] at n38
    refine Or.inr ⟨fun z => ?_, h⟩
    rcases z with ⟨z1, z⟩ | ⟨z1, z⟩ | ⟨z1, z⟩ | ⟨z1, z⟩ | ⟨z1, z⟩
    · exact absurd z1 (by decide)
    · omega
    · exact absurd z1 (by decide)
    · exact absurd z1 (by decide)
    · exact absurd z1 (by decide)
  have h := zk_f k1 h
  by_cases k2 : lv = (2 : Int32)
  · have h := zk_t k2 h
    subst k2
    by_cases b60 : bz ts tb a = (60 : Int32)
    · have h : r = (8 : Int32) := (congrArg Prod.fst (Option.some.inj (zk_t b60 h))).symm
      have w := q2 _ b60
      have e9 : (60 : Int32).toInt = 60 := by decide
      rw [e9] at w
      refine Or.inl ⟨?_, ?_⟩
      · exact Or.inr (Or.inr (Or.inl ⟨rfl, Or.inl w⟩))
      · rw [h, b60]
        decide
    have h := zk_f b60 h
    by_cases b61 : bz ts tb a = (61 : Int32)
    · have h : r = (9 : Int32) := (congrArg Prod.fst (Option.some.inj (zk_t b61 h))).symm
      have w := q2 _ b61
      have e9 : (61 : Int32).toInt = 61 := by decide
      rw [e9] at w
      refine Or.inl ⟨?_, ?_⟩
      · exact Or.inr (Or.inr (Or.inl ⟨rfl, Or.inr (Or.inl w)⟩))
      · rw [h, b61]
        decide
    have h := zk_f b61 h
    by_cases b62 : bz ts tb a = (62 : Int32)
    · have h : r = (10 : Int32) := (congrArg Prod.fst (Option.some.inj (zk_t b62 h))).symm
      have w := q2 _ b62
      have e9 : (62 : Int32).toInt = 62 := by decide
      rw [e9] at w
      refine Or.inl ⟨?_, ?_⟩
      · exact Or.inr (Or.inr (Or.inl ⟨rfl, Or.inr (Or.inr (w))⟩))
      · rw [h, b62]
        decide
    have h := zk_f b62 h
    have h : r = (-1 : Int32) := (congrArg Prod.fst (Option.some.inj h)).symm
    have n60 := q _ b60
    have e60 : (60 : Int32).toInt = 60 := by decide
    rw [e60] at n60
    have n61 := q _ b61
    have e61 : (61 : Int32).toInt = 61 := by decide
    rw [e61] at n61
    have n62 := q _ b62
    have e62 : (62 : Int32).toInt = 62 := by decide
    rw [e62] at n62
    refine Or.inr ⟨fun z => ?_, h⟩
    rcases z with ⟨z1, z⟩ | ⟨z1, z⟩ | ⟨z1, z⟩ | ⟨z1, z⟩ | ⟨z1, z⟩
    · exact absurd z1 (by decide)
    · exact absurd z1 (by decide)
    · omega
    · exact absurd z1 (by decide)
    · exact absurd z1 (by decide)
  have h := zk_f k2 h
  by_cases k3 : lv = (3 : Int32)
  · have h := zk_t k3 h
    subst k3
    by_cases b43 : bz ts tb a = (43 : Int32)
    · have h : r = (11 : Int32) := (congrArg Prod.fst (Option.some.inj (zk_t b43 h))).symm
      have w := q2 _ b43
      have e9 : (43 : Int32).toInt = 43 := by decide
      rw [e9] at w
      refine Or.inl ⟨?_, ?_⟩
      · exact Or.inr (Or.inr (Or.inr (Or.inl ⟨rfl, Or.inl w⟩)))
      · rw [h, b43]
        decide
    have h := zk_f b43 h
    by_cases b45 : bz ts tb a = (45 : Int32)
    · have h : r = (12 : Int32) := (congrArg Prod.fst (Option.some.inj (zk_t b45 h))).symm
      have w := q2 _ b45
      have e9 : (45 : Int32).toInt = 45 := by decide
      rw [e9] at w
      refine Or.inl ⟨?_, ?_⟩
      · exact Or.inr (Or.inr (Or.inr (Or.inl ⟨rfl, Or.inr (w)⟩)))
      · rw [h, b45]
        decide
    have h := zk_f b45 h
    have h : r = (-1 : Int32) := (congrArg Prod.fst (Option.some.inj h)).symm
    have n43 := q _ b43
    have e43 : (43 : Int32).toInt = 43 := by decide
    rw [e43] at n43
    have n45 := q _ b45
    have e45 : (45 : Int32).toInt = 45 := by decide
    rw [e45] at n45
    refine Or.inr ⟨fun z => ?_, h⟩
    rcases z with ⟨z1, z⟩ | ⟨z1, z⟩ | ⟨z1, z⟩ | ⟨z1, z⟩ | ⟨z1, z⟩
    · exact absurd z1 (by decide)
    · exact absurd z1 (by decide)
    · exact absurd z1 (by decide)
    · omega
    · exact absurd z1 (by decide)
  have h := zk_f k3 h
  have k4 : lv = (4 : Int32) := by
    rw [i32_e] at k0 k1 k2 k3 ⊢
    have e0 : (0 : Int32).toInt = 0 := by decide
    have e1 : (1 : Int32).toInt = 1 := by decide
    have e2 : (2 : Int32).toInt = 2 := by decide
    have e3 : (3 : Int32).toInt = 3 := by decide
    have e4 : (4 : Int32).toInt = 4 := by decide
    omega
  subst k4
  by_cases b42 : bz ts tb a = (42 : Int32)
  · have h : r = (13 : Int32) := (congrArg Prod.fst (Option.some.inj (zk_t b42 h))).symm
    have w := q2 _ b42
    have e9 : (42 : Int32).toInt = 42 := by decide
    rw [e9] at w
    refine Or.inl ⟨?_, ?_⟩
    · exact Or.inr (Or.inr (Or.inr (Or.inr ⟨rfl, Or.inl w⟩)))
    · rw [h, b42]
      decide
  have h := zk_f b42 h
  by_cases b47 : bz ts tb a = (47 : Int32)
  · have h : r = (14 : Int32) := (congrArg Prod.fst (Option.some.inj (zk_t b47 h))).symm
    have w := q2 _ b47
    have e9 : (47 : Int32).toInt = 47 := by decide
    rw [e9] at w
    refine Or.inl ⟨?_, ?_⟩
    · exact Or.inr (Or.inr (Or.inr (Or.inr ⟨rfl, Or.inr (Or.inl w)⟩)))
    · rw [h, b47]
      decide
  have h := zk_f b47 h
  by_cases b37 : bz ts tb a = (37 : Int32)
  · have h : r = (15 : Int32) := (congrArg Prod.fst (Option.some.inj (zk_t b37 h))).symm
    have w := q2 _ b37
    have e9 : (37 : Int32).toInt = 37 := by decide
    rw [e9] at w
    refine Or.inl ⟨?_, ?_⟩
    · exact Or.inr (Or.inr (Or.inr (Or.inr ⟨rfl, Or.inr (Or.inr (w))⟩)))
    · rw [h, b37]
      decide
  have h := zk_f b37 h
  have h : r = (-1 : Int32) := (congrArg Prod.fst (Option.some.inj h)).symm
  have n42 := q _ b42
  have e42 : (42 : Int32).toInt = 42 := by decide
  rw [e42] at n42
  have n47 := q _ b47
  have e47 : (47 : Int32).toInt = 47 := by decide
  rw [e47] at n47
  have n37 := q _ b37
  have e37 : (37 : Int32).toInt = 37 := by decide
  rw [e37] at n37
  refine Or.inr ⟨fun z => ?_, h⟩
  rcases z with ⟨z1, z⟩ | ⟨z1, z⟩ | ⟨z1, z⟩ | ⟨z1, z⟩ | ⟨z1, z⟩
  · exact absurd z1 (by decide)
  · exact absurd z1 (by decide)
  · exact absurd z1 (by decide)
  · exact absurd z1 (by decide)
  · omega
set_option maxHeartbeats 4000000 in
set_option maxRecDepth 20000 in
theorem m5_lay {mod_code : Int32} {court_shoeCount : Int32} {mod_claims : Int32} {ts : Int32} {court_suitCount : Int32} {mod_doneMany : Int32} {mod_undoneMany : Int32} {mod_isBoth : Int32} {mod_wished : Int32} {mod_bestMany : Int32} {mod_bestRow : Int32} {mod_ringDigits : Int32} {mod_traces : Int32} {he g o l : Int32} {ac wi : Nat → Int32} {x1 x2 : Int32} {R : Int32 × (Nat → Int32) × (Nat → Int32)} (hx : 0 ≤ x1.toInt ∧ x1.toInt ≤ 127) (hl : 0 ≤ l.toInt ∧ l.toInt ≤ 1000) (h : f_X12_lay x1 x2 mod_code court_shoeCount mod_claims ts he g court_suitCount mod_doneMany mod_undoneMany o l mod_isBoth mod_wished mod_bestMany mod_bestRow mod_ringDigits mod_traces ac wi = some R) : R.1.toInt = l.toInt + 1 ∧ R.1 = l + 1 ∧ R.2.1 = upd ac (4160 + l.toInt.toNat) x1 ∧ R.2.2 = upd wi (4160 + l.toInt.toNat) x2 := by
  unfold f_X12_lay B_X12_lay_0 at h
  obtain ⟨v1, e1, h⟩ := zk_lt h
  obtain ⟨_, h⟩ := zk_gd h
  obtain ⟨v2, e2, h⟩ := zk_lt h
  obtain ⟨_, h⟩ := zk_gd h
  obtain ⟨v3, e3, h⟩ := zk_lt h
  obtain ⟨v4, e4, h⟩ := zk_lt h
  have h := Option.some.inj h
  have ei : ((4160 : Int32) + l).toNatClampNeg = 4160 + l.toInt.toNat := by
    have e0 : (4160 : Int32).toInt = 4160 := by decide
    show ((4160 : Int32) + l).toInt.toNat = _
    rw [Int32.toInt_add, e0, Int.bmod_eq_of_le (by omega) (by omega)]
    omega
  have ev : vp_nar .byte v1 = x1 := by
    apply Int32.toInt_inj.mp
    exact zn_byteE e1 ⟨by omega, by omega⟩
  subst e2
  subst e3
  subst e4
  rw [← h, ei, ev]
  exact ⟨i32_s (by omega), rfl, rfl, rfl⟩
set_option maxHeartbeats 4000000 in
set_option maxRecDepth 20000 in
theorem m5_open {mod_code : Int32} {court_shoeCount : Int32} {mod_claims : Int32} {ts : Int32} {court_suitCount : Int32} {mod_doneMany : Int32} {mod_undoneMany : Int32} {mod_isBoth : Int32} {mod_wished : Int32} {mod_bestMany : Int32} {mod_bestRow : Int32} {mod_ringDigits : Int32} {mod_traces : Int32} {he g o l : Int32} {R : Int32 × Int32 × Int32 × Int32} (hg : g.toInt < 0) (ho : 0 ≤ o.toInt ∧ o.toInt ≤ 6) (h : f_X12_opensOne mod_code court_shoeCount mod_claims ts he g court_suitCount mod_doneMany mod_undoneMany o l mod_isBoth mod_wished mod_bestMany mod_bestRow mod_ringDigits mod_traces = some R) : (o.toInt < 6 ∧ R = (1, he + 1, g, o + 1)) ∨ (6 ≤ o.toInt ∧ R = (0, he, he, o)) := by
  unfold f_X12_opensOne B_X12_opensOne_0 at h
  have e6 : (6 : Int32).toInt = 6 := by decide
  by_cases c1 : o = 6
  · have h := zk_t c1 h
    obtain ⟨u, a1, h⟩ := zk_o1 h
    rcases mb_wrong a1 with ⟨_, e⟩ | ⟨e, _⟩
    · subst e
      exact Or.inr ⟨by rw [c1]; decide, (Option.some.inj h).symm⟩
    · omega
  · have h := zk_f c1 h
    rw [i32_e, e6] at c1
    obtain ⟨v1, e1, h⟩ := zk_lt h
    obtain ⟨v2, e2, h⟩ := zk_lt h
    subst e1
    subst e2
    exact Or.inl ⟨by omega, (Option.some.inj h).symm⟩
set_option maxHeartbeats 4000000 in
set_option maxRecDepth 20000 in
theorem c5_numL {ts : Int32} {tb : Nat → Int32} {sz f : Int32} {cd : Nat → Int32} (hT : TS ts) : ∀ (n k : Nat) (x1 x2 a : Int32) (R : Int32 × Int32 × (Nat → Int32)), 4 = x2.toInt + (k : Int) → 0 ≤ x2.toInt → G_X5_readNumber ts tb f n x1 x2 sz a cd = some R → ∃ e c, f_X5_emit (((nmr ts tb k x1 a).1 <<< ((5 : Int32) &&& 31)) ||| (0 : Int32)) sz (nmr ts tb k x1 a).2 f cd = some (e, c) ∧ R = (e, (nmr ts tb k x1 a).2, c) := by
  intro n
  induction n with
  | zero => intro k x1 x2 a R h1 h2 h; cases h
  | succ n ih =>
    intro k x1 x2 a R h1 h2 h
    have h : B_X5_readNumber_4 (G_X5_readNumber ts tb f n) ts tb f x1 x2 sz a cd = some R := h
    unfold B_X5_readNumber_4 at h
    have e4 : (4 : Int32).toInt = 4 := by decide
    cases k with
    | zero =>
      have h := zk_t (show (4 : Int32) ≤ x2 by rw [i32_le, e4]; omega) h
      unfold B_X5_readNumber_59 at h
      obtain ⟨e, c, h1, h⟩ := zk_o2 h
      exact ⟨e, c, h1, (Option.some.inj h).symm⟩
    | succ k =>
      have h := zk_f (show ¬ (4 : Int32) ≤ x2 by rw [i32_le, e4]; omega) h
      obtain ⟨r1, u1, a1, h⟩ := zk_o2 h
      rcases cb_dig hT a1 with ⟨d1, d2, rfl⟩ | ⟨d1, rfl⟩
      · have h := zk_f (by decide) h
        obtain ⟨r2, u2, a2, h⟩ := zk_o2 h
        have e := cb_byte hT a2
        subst e
        obtain ⟨v1, e1, h⟩ := zk_lt h
        obtain ⟨v2, e2, h⟩ := zk_lt h
        obtain ⟨v3, e3, h⟩ := zk_lt h
        subst e1
        subst e2
        subst e3
        have e5 := i32_s (a := x2) (by omega)
        have hn : nmr ts tb (k + 1) x1 a = nmr ts tb k (x1 * 10 + bz ts tb a - 48) (a + 1) := by
          show (if 48 ≤ bZ ts tb a ∧ bZ ts tb a ≤ 57 then nmr ts tb k (x1 * 10 + bz ts tb a - 48) (a + 1) else (x1, a)) = _
          rw [if_pos ⟨d1, d2⟩]
        rw [hn]
        exact ih k _ _ _ R (by omega) (by omega) h
      · have h := zk_t rfl h
        have hn : nmr ts tb (k + 1) x1 a = (x1, a) := by
          show (if 48 ≤ bZ ts tb a ∧ bZ ts tb a ≤ 57 then nmr ts tb k (x1 * 10 + bz ts tb a - 48) (a + 1) else (x1, a)) = _
          rw [if_neg (fun z => by omega)]
        rw [hn]
        unfold B_X5_readNumber_59 at h
        obtain ⟨e, c, h1, h⟩ := zk_o2 h
        exact ⟨e, c, h1, (Option.some.inj h).symm⟩
set_option maxHeartbeats 4000000 in
set_option maxRecDepth 20000 in
theorem m5_fig74 {mod_code : Int32} {court_shoeCount : Int32} {mod_claims : Int32} {ts : Int32} {court_suitCount : Int32} {mod_doneMany : Int32} {mod_undoneMany : Int32} {mod_isBoth : Int32} {mod_wished : Int32} {mod_bestMany : Int32} {mod_bestRow : Int32} {mod_ringDigits : Int32} {mod_traces : Int32} {tm : Nat → Int32} {G : Int32 → Int32 → Int32 → Int32 → Int32 → (Nat → Int32) → (Nat → Int32) → (Option (Int32 × Int32 × Int32 × (Nat → Int32) × (Nat → Int32)))} {he g o l : Int32} {ac wi : Nat → Int32} {x1 : Int32} {R : Int32 × Int32 × Int32 × (Nat → Int32) × (Nat → Int32)} (hl : 0 ≤ l.toInt ∧ l.toInt ≤ 1000) (h : B_X12_figure_74 G mod_code court_shoeCount mod_claims ts court_suitCount mod_doneMany mod_undoneMany o mod_isBoth mod_wished mod_bestMany mod_bestRow mod_ringDigits mod_traces tm x1 he g l ac wi = some R) : R.1 = he ∧ R.2.1 = g ∧ R.2.2.1.toInt = l.toInt + 1 ∧ R.2.2.1 = l + 1 ∧ R.2.2.2.1 = upd ac (4160 + l.toInt.toNat) 1 ∧ R.2.2.2.2 = upd wi (4160 + l.toInt.toNat) x1 := by
  unfold B_X12_figure_74 at h
  obtain ⟨v1, v2, v3, h1, h⟩ := zk_o3 h
  have h := Option.some.inj h
  rw [← h]
  obtain ⟨q1, q2, q3, q4⟩ := m5_lay ⟨by decide, by decide⟩ hl h1
  exact ⟨rfl, rfl, q1, q2, q3, q4⟩
set_option maxHeartbeats 4000000 in
set_option maxRecDepth 20000 in
theorem m5_fig70 {mod_code : Int32} {court_shoeCount : Int32} {mod_claims : Int32} {ts : Int32} {court_suitCount : Int32} {mod_doneMany : Int32} {mod_undoneMany : Int32} {mod_isBoth : Int32} {mod_wished : Int32} {mod_bestMany : Int32} {mod_bestRow : Int32} {mod_ringDigits : Int32} {mod_traces : Int32} {tm : Nat → Int32} {G : Int32 → Int32 → Int32 → Int32 → Int32 → (Nat → Int32) → (Nat → Int32) → (Option (Int32 × Int32 × Int32 × (Nat → Int32) × (Nat → Int32)))} {he g o l : Int32} {ac wi : Nat → Int32} {x1 : Int32} {R : Int32 × Int32 × Int32 × (Nat → Int32) × (Nat → Int32)} (hg : g.toInt < 0) (hl : 0 ≤ l.toInt ∧ l.toInt ≤ 1000) (h : B_X12_figure_70 G mod_code court_shoeCount mod_claims ts court_suitCount mod_doneMany mod_undoneMany o mod_isBoth mod_wished mod_bestMany mod_bestRow mod_ringDigits mod_traces tm x1 he g l ac wi = some R) : R.1 = he ∧ R.2.1 = he ∧ R.2.2.1.toInt = l.toInt + 1 ∧ R.2.2.1 = l + 1 ∧ R.2.2.2.1 = upd ac (4160 + l.toInt.toNat) 1 ∧ R.2.2.2.2 = upd wi (4160 + l.toInt.toNat) x1 := by
  unfold B_X12_figure_70 at h
  obtain ⟨u, h1, h⟩ := zk_o1 h
  obtain ⟨q1, q2, q3⟩ := m5_fig74 hl h
  rcases mb_wrong h1 with ⟨_, e⟩ | ⟨e, _⟩
  · exact ⟨q1, q2.trans e, q3⟩
  · omega
set_option maxHeartbeats 4000000 in
set_option maxRecDepth 20000 in
theorem m5_fig52 {mod_code : Int32} {court_shoeCount : Int32} {mod_claims : Int32} {ts : Int32} {court_suitCount : Int32} {mod_doneMany : Int32} {mod_undoneMany : Int32} {mod_isBoth : Int32} {mod_wished : Int32} {mod_bestMany : Int32} {mod_bestRow : Int32} {mod_ringDigits : Int32} {mod_traces : Int32} {tm : Nat → Int32} {tb : Nat → Int32} {G : Int32 → Int32 → Int32 → Int32 → Int32 → (Nat → Int32) → (Nat → Int32) → (Option (Int32 × Int32 × Int32 × (Nat → Int32) × (Nat → Int32)))} {he g o l : Int32} {ac wi : Nat → Int32} {x1 x2 : Int32} {R : Int32 × Int32 × Int32 × (Nat → Int32) × (Nat → Int32)} (hT : TS ts) (hR : TR ts tb tm) (hp : PB ts he) (hg : g.toInt < 0) (hl : 0 ≤ l.toInt ∧ l.toInt ≤ 1000) (h : B_X12_figure_52 G mod_code court_shoeCount mod_claims ts court_suitCount mod_doneMany mod_undoneMany o mod_isBoth mod_wished mod_bestMany mod_bestRow mod_ringDigits mod_traces tm x1 x2 he g l ac wi = some R) : R.1 = he ∧ ((x2 = 0 ∨ (48 ≤ bZ ts tb he ∧ bZ ts tb he ≤ 57)) → R.2.1 = he) ∧ (¬ (x2 = 0 ∨ (48 ≤ bZ ts tb he ∧ bZ ts tb he ≤ 57)) → R.2.1 = g) ∧ R.2.2.1.toInt = l.toInt + 1 ∧ R.2.2.1 = l + 1 ∧ R.2.2.2.1 = upd ac (4160 + l.toInt.toNat) 1 ∧ R.2.2.2.2 = upd wi (4160 + l.toInt.toNat) x1 := by
  unfold B_X12_figure_52 at h
  by_cases c1 : x2 = 0
  · have h := zk_t c1 h
    obtain ⟨q1, q2, q3⟩ := m5_fig70 hg hl h
    exact ⟨q1, fun _ => q2, fun z => absurd (Or.inl c1) z, q3⟩
  · have h := zk_f c1 h
    obtain ⟨r1, u1, a1, h⟩ := zk_o2 h
    have hb1 := mb_look hT hR hp a1
    obtain ⟨r2, u2, a2, h⟩ := zk_o2 h
    rw [pe_in] at a2
    have e2 := congrArg Prod.fst (Option.some.inj a2)
    dsimp only at e2
    have e48 : (48 : Int32).toInt = 48 := by decide
    have e57 : (57 : Int32).toInt = 57 := by decide
    have hi := BR_i hb1 48 57 (by decide) (by decide)
    have hbz : bZ ts tb he = (bz ts tb he).toInt := rfl
    rw [← hbz] at hi
    by_cases c : 48 ≤ bZ ts tb he ∧ bZ ts tb he ≤ 57
    · have hr := hi.mpr c
      rw [if_neg (by rw [i32_lt, i32_lt, e48, e57]; omega)] at e2
      subst e2
      have h := zk_f (by decide) h
      obtain ⟨q1, q2, q3⟩ := m5_fig70 hg hl h
      exact ⟨q1, fun _ => q2, fun z => absurd (Or.inr c) z, q3⟩
    · have hr := fun z => c (hi.mp z)
      rw [if_pos (by rw [i32_lt, i32_lt, e48, e57]; omega)] at e2
      subst e2
      have h := zk_t rfl h
      obtain ⟨q1, q2, q3⟩ := m5_fig74 hl h
      exact ⟨q1, fun z => z.elim (fun y => absurd y c1) (fun y => absurd y c), fun _ => q2, q3⟩
set_option maxHeartbeats 4000000 in
set_option maxRecDepth 20000 in
theorem m5_figL {mod_code : Int32} {court_shoeCount : Int32} {mod_claims : Int32} {ts : Int32} {court_suitCount : Int32} {mod_doneMany : Int32} {mod_undoneMany : Int32} {mod_isBoth : Int32} {mod_wished : Int32} {mod_bestMany : Int32} {mod_bestRow : Int32} {mod_ringDigits : Int32} {mod_traces : Int32} {tm : Nat → Int32} {tb : Nat → Int32} {g o l : Int32} {ac wi : Nat → Int32} (hT : TS ts) (hR : TR ts tb tm) (hg : g.toInt < 0) (hl : 0 ≤ l.toInt ∧ l.toInt ≤ 1000) : ∀ (n k : Nat) (x1 x2 he : Int32) (R : Int32 × Int32 × Int32 × (Nat → Int32) × (Nat → Int32)), 4 = x2.toInt + (k : Int) → 0 ≤ x2.toInt → PB ts he → G_X12_figure mod_code court_shoeCount mod_claims ts court_suitCount mod_doneMany mod_undoneMany o mod_isBoth mod_wished mod_bestMany mod_bestRow mod_ringDigits mod_traces tm n x1 x2 he g l ac wi = some R → R.1 = (nmr ts tb k x1 he).2 ∧ (((x2 = 0 ∧ ¬ (48 ≤ bZ ts tb he ∧ bZ ts tb he ≤ 57)) ∨ (48 ≤ bZ ts tb (nmr ts tb k x1 he).2 ∧ bZ ts tb (nmr ts tb k x1 he).2 ≤ 57)) → R.2.1 = (nmr ts tb k x1 he).2) ∧ (¬ ((x2 = 0 ∧ ¬ (48 ≤ bZ ts tb he ∧ bZ ts tb he ≤ 57)) ∨ (48 ≤ bZ ts tb (nmr ts tb k x1 he).2 ∧ bZ ts tb (nmr ts tb k x1 he).2 ≤ 57)) → R.2.1 = g) ∧ R.2.2.1.toInt = l.toInt + 1 ∧ R.2.2.1 = l + 1 ∧ R.2.2.2.1 = upd ac (4160 + l.toInt.toNat) 1 ∧ R.2.2.2.2 = upd wi (4160 + l.toInt.toNat) (nmr ts tb k x1 he).1 := by
  intro n
  induction n with
  | zero => intro k x1 x2 he R h1 h2 hp h; cases h
  | succ n ih =>
    intro k x1 x2 he R h1 h2 hp h
    have h : B_X12_figure_4 (G_X12_figure mod_code court_shoeCount mod_claims ts court_suitCount mod_doneMany mod_undoneMany o mod_isBoth mod_wished mod_bestMany mod_bestRow mod_ringDigits mod_traces tm n) mod_code court_shoeCount mod_claims ts court_suitCount mod_doneMany mod_undoneMany o mod_isBoth mod_wished mod_bestMany mod_bestRow mod_ringDigits mod_traces tm x1 x2 he g l ac wi = some R := h
    unfold B_X12_figure_4 at h
    have e4 : (4 : Int32).toInt = 4 := by decide
    cases k with
    | zero =>
      have h := zk_t (show (4 : Int32) ≤ x2 by rw [i32_le, e4]; omega) h
      have n0 : ¬ x2 = 0 := by rw [i32_e, z32_0]; omega
      obtain ⟨q1, q2, q3, q4⟩ := m5_fig52 hT hR hp hg hl h
      exact ⟨q1, fun z => q2 (z.elim (fun y => absurd y.1 n0) Or.inr), fun z => q3 (fun y => y.elim (fun w => n0 w) (fun w => z (Or.inr w))), q4⟩
    | succ k =>
      have h := zk_f (show ¬ (4 : Int32) ≤ x2 by rw [i32_le, e4]; omega) h
      obtain ⟨r1, u1, a1, h⟩ := zk_o2 h
      have hb1 := mb_look hT hR hp a1
      obtain ⟨r2, u2, a2, h⟩ := zk_o2 h
      rw [pe_in] at a2
      have e2 := congrArg Prod.fst (Option.some.inj a2)
      dsimp only at e2
      have e48 : (48 : Int32).toInt = 48 := by decide
      have e57 : (57 : Int32).toInt = 57 := by decide
      have hi := BR_i hb1 48 57 (by decide) (by decide)
      have hbz : bZ ts tb he = (bz ts tb he).toInt := rfl
      rw [← hbz] at hi
      by_cases c : 48 ≤ bZ ts tb he ∧ bZ ts tb he ≤ 57
      · have hr := hi.mpr c
        rw [if_neg (by rw [i32_lt, i32_lt, e48, e57]; omega)] at e2
        subst e2
        have h := zk_f (by decide) h
        obtain ⟨r3, u3, a3, h⟩ := zk_o2 h
        have hb3 := mb_look hT hR hp a3
        have er : r3 = bz ts tb he := by
          rcases hb3 with ⟨_, _, e⟩ | ⟨e, _⟩
          · exact e
          · omega
        subst er
        obtain ⟨v1, e1, h⟩ := zk_lt h
        obtain ⟨v2, e2, h⟩ := zk_lt h
        obtain ⟨v3, e3, h⟩ := zk_lt h
        subst e1
        subst e2
        subst e3
        have e5 := i32_s (a := x2) (by omega)
        have hn : nmr ts tb (k + 1) x1 he = nmr ts tb k ((10 : Int32) * x1 + bz ts tb he - 48) (he + 1) := by
          show (if 48 ≤ bZ ts tb he ∧ bZ ts tb he ≤ 57 then nmr ts tb k (x1 * 10 + bz ts tb he - 48) (he + 1) else (x1, he)) = _
          rw [if_pos c, Int32.mul_comm]
        have n0 : ¬ (x2 + 1 : Int32) = 0 := by rw [i32_e, z32_0]; omega
        rw [hn]
        obtain ⟨q1, q2, q3, q4⟩ := ih k _ _ _ R (by omega) (by omega) (PB_s (tb := tb) hT hp (by omega)) h
        exact ⟨q1, fun z => q2 (z.elim (fun y => absurd c y.2) Or.inr), fun z => q3 (fun y => y.elim (fun w => n0 w.1) (fun w => z (Or.inr w))), q4⟩
      · have hr := fun z => c (hi.mp z)
        rw [if_pos (by rw [i32_lt, i32_lt, e48, e57]; omega)] at e2
        subst e2
        have h := zk_t rfl h
        have hn : nmr ts tb (k + 1) x1 he = (x1, he) := by
          show (if 48 ≤ bZ ts tb he ∧ bZ ts tb he ≤ 57 then nmr ts tb k (x1 * 10 + bz ts tb he - 48) (he + 1) else (x1, he)) = _
          rw [if_neg c]
        rw [hn]
        obtain ⟨q1, q2, q3, q4⟩ := m5_fig52 hT hR hp hg hl h
        exact ⟨q1, fun z => q2 (z.elim (fun y => Or.inl y.1) (fun y => absurd y c)), fun z => q3 (fun y => y.elim (fun w => z (Or.inl ⟨w, c⟩)) (fun w => absurd w c)), q4⟩
