
set_option maxHeartbeats 4000000 in
set_option maxRecDepth 20000 in
theorem mb_number4 {mod_code : Int32} {court_shoeCount : Int32} {mod_claims : Int32} {ts : Int32} {at_ : Int32} {f : Int32} {court_suitCount : Int32} {mod_doneMany : Int32} {mod_undoneMany : Int32} {mod_open : Int32} {mod_laid : Int32} {mod_isBoth : Int32} {mod_wished : Int32} {mod_bestMany : Int32} {mod_bestRow : Int32} {mod_ringDigits : Int32} {mod_traces : Int32} {tm : Nat → Int32} {tb : Nat → Int32} {n : Nat} {x2 r u w : Int32} {m : Int} (hT : TS ts) (hR : TR ts tb tm) (hf : f.toInt < 0) (hp : PB ts at_) (hm : x2.toInt = m) (h : f_X12_number n (4 : Int32) x2 mod_code court_shoeCount mod_claims ts at_ f court_suitCount mod_doneMany mod_undoneMany mod_open mod_laid mod_isBoth mod_wished mod_bestMany mod_bestRow mod_ringDigits mod_traces tm = some (r, u, w)) : ((48 ≤ bZ ts tb at_ ∧ bZ ts tb at_ ≤ 57) ∧ (nmv ts tb 4 at_).toInt < m ∧ r = nmv ts tb 4 at_ ∧ u = nma ts tb 4 at_ ∧ w = f ∧ PB ts (nma ts tb 4 at_)) ∨ ((48 ≤ bZ ts tb at_ ∧ bZ ts tb at_ ≤ 57) ∧ m ≤ (nmv ts tb 4 at_).toInt ∧ r = nmv ts tb 4 at_ ∧ u = nma ts tb 4 at_ ∧ w = at_ ∧ PB ts (nma ts tb 4 at_)) ∨ ((bZ ts tb at_ < 48 ∨ 57 < bZ ts tb at_) ∧ r = 0 ∧ u = at_ ∧ w = at_) := by
  unfold f_X12_number B_X12_number_0 at h
  obtain ⟨q1, q2, q3, q4⟩ := mb_numL hT hR hf n 4 (4 : Int32) x2 at_ 0 0 at_ _ (by decide) (by decide) (by decide) hp h
  by_cases c : 48 ≤ bZ ts tb at_ ∧ bZ ts tb at_ ≤ 57
  · by_cases c2 : (nmv ts tb 4 at_).toInt < m
    · exact Or.inl ⟨c, c2, q1, q2, q4 ⟨fun z => z.2.elim (fun y => absurd y (by decide)) (fun y => y c), by rw [hm]; exact c2⟩, nma_PB hT 4 hp⟩
    · have c3 : m ≤ (nmv ts tb 4 at_).toInt := by omega
      exact Or.inr (Or.inl ⟨c, c3, q1, q2, q3 (Or.inr (by rw [hm]; exact c3)), nma_PB hT 4 hp⟩)
  · have hn : nmr ts tb 4 0 at_ = (0, at_) := by
      show (if 48 ≤ bZ ts tb at_ ∧ bZ ts tb at_ ≤ 57 then nmr ts tb 3 (0 * 10 + bz ts tb at_ - 48) (at_ + 1) else (0, at_)) = _
      rw [if_neg c]
    rw [hn] at q1 q2
    exact Or.inr (Or.inr ⟨by omega, q1, q2, q3 (Or.inl ⟨rfl, Or.inr c⟩)⟩)
set_option maxHeartbeats 4000000 in
set_option maxRecDepth 20000 in
theorem cb_acceptN {ts : Int32} {at_ : Int32} {f : Int32} {tb : Nat → Int32} {sp : Value} {na : Int32} {x1 r u : Int32} {n : Int} (hT : TS ts) (hf : f.toInt < 0) (hp : PB ts at_) (hn : x1.toInt = n ∧ 0 ≤ n) (h : f_X8_accept x1 ts tb sp at_ na f = some (r, u)) : (bZ ts tb at_ = n ∧ r = 1 ∧ u = at_ + 1 ∧ PB ts (at_ + 1)) ∨ (bZ ts tb at_ ≠ n ∧ r = 0 ∧ u = at_) := by
  rcases cb_accept hT hp hn h with ⟨_, a, b, c, d⟩ | ⟨a, b, c⟩
  · exact Or.inl ⟨a, b, c, d⟩
  · rcases a with a | a
    · omega
    · exact Or.inr ⟨a, b, c⟩
set_option maxHeartbeats 4000000 in
set_option maxRecDepth 20000 in
theorem cb_acceptP {ts : Int32} {at_ : Int32} {f : Int32} {tb : Nat → Int32} {sp : Value} {na : Int32} {x1 r u : Int32} (hf : 0 ≤ f.toInt) (h : f_X8_accept x1 ts tb sp at_ na f = some (r, u)) : r = 0 ∧ u = at_ := by
  unfold f_X8_accept B_X8_accept_0 at h
  replace h := Option.some.inj (zk_t (show 0 ≤ f by rw [i32_le, z32_0]; exact hf) h)
  exact ⟨(congrArg Prod.fst h).symm, (congrArg Prod.snd h).symm⟩
set_option maxHeartbeats 4000000 in
set_option maxRecDepth 20000 in
theorem cb_judge0N {at_ : Int32} {f : Int32} {sp : Value} {na : Int32} {x2 u : Int32} (hf : f.toInt < 0) (h : f_X8_judge (0 : Int32) x2 sp at_ na f = some u) : u = x2 := by
  rcases cb_judge h with ⟨_, _, a⟩ | ⟨a, _⟩
  · exact a
  · rcases a with a | a
    · exact absurd z32_0 a
    · omega
set_option maxHeartbeats 4000000 in
set_option maxRecDepth 20000 in
theorem cb_judgeP {at_ : Int32} {f : Int32} {sp : Value} {na : Int32} {x1 x2 u : Int32} (hf : 0 ≤ f.toInt) (h : f_X8_judge x1 x2 sp at_ na f = some u) : u = f := by
  rcases cb_judge h with ⟨_, a, _⟩ | ⟨_, a⟩
  · omega
  · exact a
set_option maxHeartbeats 4000000 in
set_option maxRecDepth 20000 in
theorem cb_judge1 {at_ : Int32} {f : Int32} {sp : Value} {na : Int32} {x2 u : Int32} (h : f_X8_judge (1 : Int32) x2 sp at_ na f = some u) : u = f := by
  rcases cb_judge h with ⟨a, _, _⟩ | ⟨_, a⟩
  · exact absurd a (by decide)
  · exact a
set_option maxHeartbeats 4000000 in
set_option maxRecDepth 20000 in
theorem cb_expectN {ts : Int32} {at_ : Int32} {f : Int32} {tb : Nat → Int32} {sp : Value} {na : Int32} {x1 u v : Int32} {n : Int} (hT : TS ts) (hf : f.toInt < 0) (hp : PB ts at_) (hn : x1.toInt = n ∧ 0 ≤ n) (h : f_X8_expect x1 ts tb sp at_ na f = some (u, v)) : (bZ ts tb at_ = n ∧ u = at_ + 1 ∧ v = f ∧ PB ts (at_ + 1)) ∨ (bZ ts tb at_ ≠ n ∧ u = at_ ∧ v = at_) := by
  rcases cb_expect hT hp hn h with ⟨_, a, b, c, d⟩ | ⟨_, a, b, c⟩ | ⟨a, _, _⟩
  · exact Or.inl ⟨a, b, c, d⟩
  · exact Or.inr ⟨a, b, c⟩
  · omega
set_option maxHeartbeats 4000000 in
set_option maxRecDepth 20000 in
theorem cb_expectP {ts : Int32} {at_ : Int32} {f : Int32} {tb : Nat → Int32} {sp : Value} {na : Int32} {x1 u v : Int32} (hf : 0 ≤ f.toInt) (h : f_X8_expect x1 ts tb sp at_ na f = some (u, v)) : u = at_ ∧ v = f := by
  unfold f_X8_expect B_X8_expect_0 at h
  replace h := zk_o2 h
  obtain ⟨r1, u1, h1, h⟩ := h
  obtain ⟨g1, g2⟩ := cb_acceptP hf h1
  replace g2 := g2.symm
  subst g1
  subst g2
  replace h := zk_t rfl h
  replace h := zk_o1 h
  obtain ⟨v1, h2, h⟩ := h
  replace h := Option.some.inj h
  have e := cb_judgeP hf h2
  exact ⟨(congrArg Prod.fst h).symm, ((congrArg Prod.snd h).symm).trans e⟩
set_option maxHeartbeats 4000000 in
set_option maxRecDepth 20000 in
theorem cb_numberN1 {ts : Int32} {at_ : Int32} {f : Int32} {tb : Nat → Int32} {sp : Value} {na : Int32} {n : Nat} {r u v w : Int32} (hT : TS ts) (hf : f.toInt < 0) (hp : PB ts at_) (h : f_X8_number n (1 : Int32) ts tb sp at_ na f = some (r, u, v, w)) : ((48 ≤ bZ ts tb at_ ∧ bZ ts tb at_ ≤ 57) ∧ r = nmv ts tb 1 at_ ∧ u = nma ts tb 1 at_ ∧ v = at_ ∧ w = f ∧ PB ts (nma ts tb 1 at_)) ∨ ((bZ ts tb at_ < 48 ∨ 57 < bZ ts tb at_) ∧ r = 0 ∧ u = at_ ∧ v = at_ ∧ w = at_) := by
  rcases cb_number1 hT hp h with ⟨_, a⟩ | ⟨_, a⟩ | ⟨a, _⟩
  · exact Or.inl a
  · exact Or.inr a
  · omega
set_option maxHeartbeats 4000000 in
set_option maxRecDepth 20000 in
theorem cb_numberP1 {ts : Int32} {at_ : Int32} {f : Int32} {tb : Nat → Int32} {sp : Value} {na : Int32} {n : Nat} {r u v w : Int32} (hf : 0 ≤ f.toInt) (h : f_X8_number n (1 : Int32) ts tb sp at_ na f = some (r, u, v, w)) : r = 0 ∧ u = at_ ∧ v = at_ ∧ w = f := by
  unfold f_X8_number B_X8_number_0 at h
  replace h := zk_o2 h
  obtain ⟨r1, u1, a1, h⟩ := h
  replace h := zk_o1 h
  obtain ⟨u2, a2, h⟩ := h
  rcases cb_judge a2 with ⟨_, b2, _⟩ | ⟨_, e0⟩
  · omega
  · replace e0 := e0.symm
    subst e0
    cases n with
    | zero => cases h
    | succ n =>
      replace h : B_X8_number_31 (G_X8_number ts tb sp n) ts tb sp (1 : Int32) 0 0 at_ at_ f = some (r, u, v, w) := h
      unfold B_X8_number_31 at h
      replace h := zk_f (show ¬ (1 : Int32) ≤ 0 by decide) h
      replace h := Option.some.inj (zk_t (show 0 ≤ f by rw [i32_le, z32_0]; omega) h)
      exact ⟨(congrArg Prod.fst h).symm, (congrArg (fun z => z.2.1) h).symm, (congrArg (fun z => z.2.2.1) h).symm, (congrArg (fun z => z.2.2.2) h).symm⟩
set_option maxHeartbeats 4000000 in
set_option maxRecDepth 20000 in
theorem cb_numberN2 {ts : Int32} {at_ : Int32} {f : Int32} {tb : Nat → Int32} {sp : Value} {na : Int32} {n : Nat} {r u v w : Int32} (hT : TS ts) (hf : f.toInt < 0) (hp : PB ts at_) (h : f_X8_number n (2 : Int32) ts tb sp at_ na f = some (r, u, v, w)) : ((48 ≤ bZ ts tb at_ ∧ bZ ts tb at_ ≤ 57) ∧ r = nmv ts tb 2 at_ ∧ u = nma ts tb 2 at_ ∧ v = at_ ∧ w = f ∧ PB ts (nma ts tb 2 at_)) ∨ ((bZ ts tb at_ < 48 ∨ 57 < bZ ts tb at_) ∧ r = 0 ∧ u = at_ ∧ v = at_ ∧ w = at_) := by
  rcases cb_number2 hT hp h with ⟨_, a⟩ | ⟨_, a⟩ | ⟨a, _⟩
  · exact Or.inl a
  · exact Or.inr a
  · omega
set_option maxHeartbeats 4000000 in
set_option maxRecDepth 20000 in
theorem cb_numberP2 {ts : Int32} {at_ : Int32} {f : Int32} {tb : Nat → Int32} {sp : Value} {na : Int32} {n : Nat} {r u v w : Int32} (hf : 0 ≤ f.toInt) (h : f_X8_number n (2 : Int32) ts tb sp at_ na f = some (r, u, v, w)) : r = 0 ∧ u = at_ ∧ v = at_ ∧ w = f := by
  unfold f_X8_number B_X8_number_0 at h
  replace h := zk_o2 h
  obtain ⟨r1, u1, a1, h⟩ := h
  replace h := zk_o1 h
  obtain ⟨u2, a2, h⟩ := h
  rcases cb_judge a2 with ⟨_, b2, _⟩ | ⟨_, e0⟩
  · omega
  · replace e0 := e0.symm
    subst e0
    cases n with
    | zero => cases h
    | succ n =>
      replace h : B_X8_number_31 (G_X8_number ts tb sp n) ts tb sp (2 : Int32) 0 0 at_ at_ f = some (r, u, v, w) := h
      unfold B_X8_number_31 at h
      replace h := zk_f (show ¬ (2 : Int32) ≤ 0 by decide) h
      replace h := Option.some.inj (zk_t (show 0 ≤ f by rw [i32_le, z32_0]; omega) h)
      exact ⟨(congrArg Prod.fst h).symm, (congrArg (fun z => z.2.1) h).symm, (congrArg (fun z => z.2.2.1) h).symm, (congrArg (fun z => z.2.2.2) h).symm⟩
set_option maxHeartbeats 4000000 in
set_option maxRecDepth 20000 in
theorem cb_numberN4 {ts : Int32} {at_ : Int32} {f : Int32} {tb : Nat → Int32} {sp : Value} {na : Int32} {n : Nat} {r u v w : Int32} (hT : TS ts) (hf : f.toInt < 0) (hp : PB ts at_) (h : f_X8_number n (4 : Int32) ts tb sp at_ na f = some (r, u, v, w)) : ((48 ≤ bZ ts tb at_ ∧ bZ ts tb at_ ≤ 57) ∧ r = nmv ts tb 4 at_ ∧ u = nma ts tb 4 at_ ∧ v = at_ ∧ w = f ∧ PB ts (nma ts tb 4 at_)) ∨ ((bZ ts tb at_ < 48 ∨ 57 < bZ ts tb at_) ∧ r = 0 ∧ u = at_ ∧ v = at_ ∧ w = at_) := by
  rcases cb_number4 hT hp h with ⟨_, a⟩ | ⟨_, a⟩ | ⟨a, _⟩
  · exact Or.inl a
  · exact Or.inr a
  · omega
set_option maxHeartbeats 4000000 in
set_option maxRecDepth 20000 in
theorem cb_numberP4 {ts : Int32} {at_ : Int32} {f : Int32} {tb : Nat → Int32} {sp : Value} {na : Int32} {n : Nat} {r u v w : Int32} (hf : 0 ≤ f.toInt) (h : f_X8_number n (4 : Int32) ts tb sp at_ na f = some (r, u, v, w)) : r = 0 ∧ u = at_ ∧ v = at_ ∧ w = f := by
  unfold f_X8_number B_X8_number_0 at h
  replace h := zk_o2 h
  obtain ⟨r1, u1, a1, h⟩ := h
  replace h := zk_o1 h
  obtain ⟨u2, a2, h⟩ := h
  rcases cb_judge a2 with ⟨_, b2, _⟩ | ⟨_, e0⟩
  · omega
  · replace e0 := e0.symm
    subst e0
    cases n with
    | zero => cases h
    | succ n =>
      replace h : B_X8_number_31 (G_X8_number ts tb sp n) ts tb sp (4 : Int32) 0 0 at_ at_ f = some (r, u, v, w) := h
      unfold B_X8_number_31 at h
      replace h := zk_f (show ¬ (4 : Int32) ≤ 0 by decide) h
      replace h := Option.some.inj (zk_t (show 0 ≤ f by rw [i32_le, z32_0]; omega) h)
      exact ⟨(congrArg Prod.fst h).symm, (congrArg (fun z => z.2.1) h).symm, (congrArg (fun z => z.2.2.1) h).symm, (congrArg (fun z => z.2.2.2) h).symm⟩
set_option maxHeartbeats 4000000 in
set_option maxRecDepth 20000 in
theorem cb_numberD {ts : Int32} {at_ : Int32} {f : Int32} {tb : Nat → Int32} {sp : Value} {na : Int32} {n : Nat} {r u v w : Int32} (hT : TS ts) (hf : f.toInt < 0) (hp : PB ts at_) (h : f_X8_number n (1 : Int32) ts tb sp at_ na f = some (r, u, v, w)) : ((48 ≤ bZ ts tb at_ ∧ bZ ts tb at_ ≤ 57) ∧ r = nmv ts tb 1 at_ ∧ u = at_ + 1 ∧ v = at_ ∧ w = f ∧ PB ts (at_ + 1)) ∨ ((bZ ts tb at_ < 48 ∨ 57 < bZ ts tb at_) ∧ r = 0 ∧ u = at_ ∧ v = at_ ∧ w = at_) := by
  rcases cb_numberN1 hT hf hp h with ⟨a, b, c, d, e, q⟩ | q
  · have g := (nm_digit a).2
    rw [g] at c q
    exact Or.inl ⟨a, b, c, d, e, q⟩
  · exact Or.inr q
set_option maxHeartbeats 4000000 in
set_option maxRecDepth 20000 in
theorem mb_numberD {mod_code : Int32} {court_shoeCount : Int32} {mod_claims : Int32} {ts : Int32} {at_ : Int32} {f : Int32} {court_suitCount : Int32} {mod_doneMany : Int32} {mod_undoneMany : Int32} {mod_open : Int32} {mod_laid : Int32} {mod_isBoth : Int32} {mod_wished : Int32} {mod_bestMany : Int32} {mod_bestRow : Int32} {mod_ringDigits : Int32} {mod_traces : Int32} {tm : Nat → Int32} {tb : Nat → Int32} {n : Nat} {x2 r u w : Int32} {m : Int} (hT : TS ts) (hR : TR ts tb tm) (hf : f.toInt < 0) (hp : PB ts at_) (hm : x2.toInt = m) (h : f_X12_number n (1 : Int32) x2 mod_code court_shoeCount mod_claims ts at_ f court_suitCount mod_doneMany mod_undoneMany mod_open mod_laid mod_isBoth mod_wished mod_bestMany mod_bestRow mod_ringDigits mod_traces tm = some (r, u, w)) : ((48 ≤ bZ ts tb at_ ∧ bZ ts tb at_ ≤ 57) ∧ (nmv ts tb 1 at_).toInt < m ∧ r = nmv ts tb 1 at_ ∧ u = at_ + 1 ∧ w = f ∧ PB ts (at_ + 1)) ∨ ((48 ≤ bZ ts tb at_ ∧ bZ ts tb at_ ≤ 57) ∧ m ≤ (nmv ts tb 1 at_).toInt ∧ r = nmv ts tb 1 at_ ∧ u = at_ + 1 ∧ w = at_ ∧ PB ts (at_ + 1)) ∨ ((bZ ts tb at_ < 48 ∨ 57 < bZ ts tb at_) ∧ r = 0 ∧ u = at_ ∧ w = at_) := by
  rcases mb_number1 hT hR hf hp hm h with ⟨a, b, c, d, e, q⟩ | ⟨a, b, c, d, e, q⟩ | q
  · have g := (nm_digit a).2
    rw [g] at d q
    exact Or.inl ⟨a, b, c, d, e, q⟩
  · have g := (nm_digit a).2
    rw [g] at d q
    exact Or.inr (Or.inl ⟨a, b, c, d, e, q⟩)
  · exact Or.inr (Or.inr q)
theorem BR_v {b r : Int32} (h : BR b r) (h2 : 48 ≤ b.toInt ∧ b.toInt ≤ 57) : r = b := by
  rcases h with ⟨_, _, e⟩ | ⟨e, _⟩
  · exact e
  · omega
set_option maxHeartbeats 4000000 in
set_option maxRecDepth 20000 in
theorem mb_takesN {mod_code : Int32} {court_shoeCount : Int32} {mod_claims : Int32} {ts : Int32} {at_ : Int32} {f : Int32} {court_suitCount : Int32} {mod_doneMany : Int32} {mod_undoneMany : Int32} {mod_open : Int32} {mod_laid : Int32} {mod_isBoth : Int32} {mod_wished : Int32} {mod_bestMany : Int32} {mod_bestRow : Int32} {mod_ringDigits : Int32} {mod_traces : Int32} {tm : Nat → Int32} {tb : Nat → Int32} {x1 r u v : Int32} {n : Int} (hT : TS ts) (hR : TR ts tb tm) (hf : f.toInt < 0) (hp : PB ts at_) (hn : x1.toInt = n ∧ 0 ≤ n ∧ n ≤ 127) (h : f_X12_takes x1 mod_code court_shoeCount mod_claims ts at_ f court_suitCount mod_doneMany mod_undoneMany mod_open mod_laid mod_isBoth mod_wished mod_bestMany mod_bestRow mod_ringDigits mod_traces tm = some (r, u, v)) : (bZ ts tb at_ = n ∧ r = 1 ∧ u = at_ + 1 ∧ v = f ∧ PB ts (at_ + 1)) ∨ (bZ ts tb at_ ≠ n ∧ r = 0 ∧ u = at_ ∧ v = at_) := by
  rcases mb_takes hT hR hp hn h with ⟨_, a⟩ | ⟨_, a⟩ | ⟨a, _⟩
  · exact Or.inl a
  · exact Or.inr a
  · omega
set_option maxHeartbeats 4000000 in
set_option maxRecDepth 20000 in
theorem mb_takesP {mod_code : Int32} {court_shoeCount : Int32} {mod_claims : Int32} {ts : Int32} {at_ : Int32} {f : Int32} {court_suitCount : Int32} {mod_doneMany : Int32} {mod_undoneMany : Int32} {mod_open : Int32} {mod_laid : Int32} {mod_isBoth : Int32} {mod_wished : Int32} {mod_bestMany : Int32} {mod_bestRow : Int32} {mod_ringDigits : Int32} {mod_traces : Int32} {tm : Nat → Int32} {x1 r u v : Int32} (hf : 0 ≤ f.toInt) (h : f_X12_takes x1 mod_code court_shoeCount mod_claims ts at_ f court_suitCount mod_doneMany mod_undoneMany mod_open mod_laid mod_isBoth mod_wished mod_bestMany mod_bestRow mod_ringDigits mod_traces tm = some (r, u, v)) : r = 0 ∧ u = at_ ∧ v = f := by
  unfold f_X12_takes B_X12_takes_0 at h
  replace h := Option.some.inj (zk_f (show ¬ f < 0 by rw [i32_lt, z32_0]; omega) h)
  exact ⟨(congrArg Prod.fst h).symm, (congrArg (fun z => z.2.1) h).symm, (congrArg (fun z => z.2.2) h).symm⟩
set_option maxHeartbeats 4000000 in
set_option maxRecDepth 20000 in
theorem mb_wrongN {mod_code : Int32} {court_shoeCount : Int32} {mod_claims : Int32} {ts : Int32} {at_ : Int32} {f : Int32} {court_suitCount : Int32} {mod_doneMany : Int32} {mod_undoneMany : Int32} {mod_open : Int32} {mod_laid : Int32} {mod_isBoth : Int32} {mod_wished : Int32} {mod_bestMany : Int32} {mod_bestRow : Int32} {mod_ringDigits : Int32} {mod_traces : Int32} {u : Int32} (hf : f.toInt < 0) (h : f_X12_wrong mod_code court_shoeCount mod_claims ts at_ f court_suitCount mod_doneMany mod_undoneMany mod_open mod_laid mod_isBoth mod_wished mod_bestMany mod_bestRow mod_ringDigits mod_traces = some u) : u = at_ := by
  rcases mb_wrong h with ⟨_, a⟩ | ⟨a, _⟩
  · exact a
  · omega
set_option maxHeartbeats 4000000 in
set_option maxRecDepth 20000 in
theorem mb_wrongP {mod_code : Int32} {court_shoeCount : Int32} {mod_claims : Int32} {ts : Int32} {at_ : Int32} {f : Int32} {court_suitCount : Int32} {mod_doneMany : Int32} {mod_undoneMany : Int32} {mod_open : Int32} {mod_laid : Int32} {mod_isBoth : Int32} {mod_wished : Int32} {mod_bestMany : Int32} {mod_bestRow : Int32} {mod_ringDigits : Int32} {mod_traces : Int32} {u : Int32} (hf : 0 ≤ f.toInt) (h : f_X12_wrong mod_code court_shoeCount mod_claims ts at_ f court_suitCount mod_doneMany mod_undoneMany mod_open mod_laid mod_isBoth mod_wished mod_bestMany mod_bestRow mod_ringDigits mod_traces = some u) : u = f := by
  rcases mb_wrong h with ⟨a, _⟩ | ⟨_, a⟩
  · omega
  · exact a
set_option maxHeartbeats 4000000 in
set_option maxRecDepth 20000 in
theorem mb_wrongAtN {mod_code : Int32} {court_shoeCount : Int32} {mod_claims : Int32} {ts : Int32} {at_ : Int32} {f : Int32} {court_suitCount : Int32} {mod_doneMany : Int32} {mod_undoneMany : Int32} {mod_open : Int32} {mod_laid : Int32} {mod_isBoth : Int32} {mod_wished : Int32} {mod_bestMany : Int32} {mod_bestRow : Int32} {mod_ringDigits : Int32} {mod_traces : Int32} {x1 u : Int32} (hf : f.toInt < 0) (h : f_X12_wrongAt x1 mod_code court_shoeCount mod_claims ts at_ f court_suitCount mod_doneMany mod_undoneMany mod_open mod_laid mod_isBoth mod_wished mod_bestMany mod_bestRow mod_ringDigits mod_traces = some u) : u = x1 := by
  rcases mb_wrongAt h with ⟨_, a⟩ | ⟨a, _⟩
  · exact a
  · omega
set_option maxHeartbeats 4000000 in
set_option maxRecDepth 20000 in
theorem mb_wrongAtP {mod_code : Int32} {court_shoeCount : Int32} {mod_claims : Int32} {ts : Int32} {at_ : Int32} {f : Int32} {court_suitCount : Int32} {mod_doneMany : Int32} {mod_undoneMany : Int32} {mod_open : Int32} {mod_laid : Int32} {mod_isBoth : Int32} {mod_wished : Int32} {mod_bestMany : Int32} {mod_bestRow : Int32} {mod_ringDigits : Int32} {mod_traces : Int32} {x1 u : Int32} (hf : 0 ≤ f.toInt) (h : f_X12_wrongAt x1 mod_code court_shoeCount mod_claims ts at_ f court_suitCount mod_doneMany mod_undoneMany mod_open mod_laid mod_isBoth mod_wished mod_bestMany mod_bestRow mod_ringDigits mod_traces = some u) : u = f := by
  rcases mb_wrongAt h with ⟨a, _⟩ | ⟨_, a⟩
  · omega
  · exact a
theorem zx_2 {x : Int} (a : 48 ≤ x ∧ x ≤ 57) (b : x < 48 ∨ 57 < x) : False := by omega
theorem zx_3 {x n m : Int} (a : x = n) (b : x = m) (h : n ≠ m) : False := h (a.symm.trans b)
theorem zx_4 {x n : Int} (a : 48 ≤ x ∧ x ≤ 57) (b : x = n) (h : n < 48 ∨ 57 < n) : False := by omega
theorem zx_5 {x n : Int} (a : x < 48 ∨ 57 < x) (b : x = n) (h : 48 ≤ n ∧ n ≤ 57) : False := by omega
theorem BR_E {ts : Int32} {tb : Nat → Int32} {a r c : Int32} {n : Int} (h : BR (bz ts tb a) r) (hc : c.toInt = n ∧ 0 ≤ n ∧ n ≤ 127) : (r = c ↔ bZ ts tb a = n) := BR_e h hc
theorem z32L_2 : (2 : Int32).toInt = 2 := by decide
theorem z32L_3 : (3 : Int32).toInt = 3 := by decide
theorem z32L_4 : (4 : Int32).toInt = 4 := by decide
theorem z32L_5 : (5 : Int32).toInt = 5 := by decide
theorem z32L_6 : (6 : Int32).toInt = 6 := by decide
theorem z32L_7 : (7 : Int32).toInt = 7 := by decide
theorem z32L_8 : (8 : Int32).toInt = 8 := by decide
theorem z32L_9 : (9 : Int32).toInt = 9 := by decide
theorem z32L_10 : (10 : Int32).toInt = 10 := by decide
theorem z32L_11 : (11 : Int32).toInt = 11 := by decide
theorem z32L_12 : (12 : Int32).toInt = 12 := by decide
theorem z32L_13 : (13 : Int32).toInt = 13 := by decide
theorem z32L_14 : (14 : Int32).toInt = 14 := by decide
theorem z32L_15 : (15 : Int32).toInt = 15 := by decide
theorem z32L_16 : (16 : Int32).toInt = 16 := by decide
theorem z32L_17 : (17 : Int32).toInt = 17 := by decide
theorem z32L_18 : (18 : Int32).toInt = 18 := by decide
theorem z32L_19 : (19 : Int32).toInt = 19 := by decide
theorem z32L_20 : (20 : Int32).toInt = 20 := by decide
theorem z32L_21 : (21 : Int32).toInt = 21 := by decide
theorem z32L_22 : (22 : Int32).toInt = 22 := by decide
theorem z32L_23 : (23 : Int32).toInt = 23 := by decide
theorem z32L_24 : (24 : Int32).toInt = 24 := by decide
theorem z32L_25 : (25 : Int32).toInt = 25 := by decide
theorem z32L_26 : (26 : Int32).toInt = 26 := by decide
theorem z32L_27 : (27 : Int32).toInt = 27 := by decide
theorem z32L_28 : (28 : Int32).toInt = 28 := by decide
theorem z32L_29 : (29 : Int32).toInt = 29 := by decide
theorem z32L_30 : (30 : Int32).toInt = 30 := by decide
theorem z32L_31 : (31 : Int32).toInt = 31 := by decide
theorem z32L_32 : (32 : Int32).toInt = 32 := by decide
theorem z32L_33 : (33 : Int32).toInt = 33 := by decide
theorem z32L_34 : (34 : Int32).toInt = 34 := by decide
theorem z32L_35 : (35 : Int32).toInt = 35 := by decide
theorem z32L_36 : (36 : Int32).toInt = 36 := by decide
theorem z32L_37 : (37 : Int32).toInt = 37 := by decide
theorem z32L_38 : (38 : Int32).toInt = 38 := by decide
theorem z32L_39 : (39 : Int32).toInt = 39 := by decide
theorem z32L_40 : (40 : Int32).toInt = 40 := by decide
theorem z32L_41 : (41 : Int32).toInt = 41 := by decide
theorem z32L_42 : (42 : Int32).toInt = 42 := by decide
theorem z32L_43 : (43 : Int32).toInt = 43 := by decide
theorem z32L_44 : (44 : Int32).toInt = 44 := by decide
theorem z32L_45 : (45 : Int32).toInt = 45 := by decide
theorem z32L_46 : (46 : Int32).toInt = 46 := by decide
theorem z32L_47 : (47 : Int32).toInt = 47 := by decide
theorem z32L_48 : (48 : Int32).toInt = 48 := by decide
theorem z32L_49 : (49 : Int32).toInt = 49 := by decide
theorem z32L_50 : (50 : Int32).toInt = 50 := by decide
theorem z32L_51 : (51 : Int32).toInt = 51 := by decide
theorem z32L_52 : (52 : Int32).toInt = 52 := by decide
theorem z32L_53 : (53 : Int32).toInt = 53 := by decide
theorem z32L_54 : (54 : Int32).toInt = 54 := by decide
theorem z32L_55 : (55 : Int32).toInt = 55 := by decide
theorem z32L_56 : (56 : Int32).toInt = 56 := by decide
theorem z32L_57 : (57 : Int32).toInt = 57 := by decide
theorem z32L_58 : (58 : Int32).toInt = 58 := by decide
theorem z32L_59 : (59 : Int32).toInt = 59 := by decide
theorem z32L_60 : (60 : Int32).toInt = 60 := by decide
theorem z32L_61 : (61 : Int32).toInt = 61 := by decide
theorem z32L_62 : (62 : Int32).toInt = 62 := by decide
theorem z32L_63 : (63 : Int32).toInt = 63 := by decide
theorem z32L_64 : (64 : Int32).toInt = 64 := by decide
theorem z32L_65 : (65 : Int32).toInt = 65 := by decide
theorem z32L_66 : (66 : Int32).toInt = 66 := by decide
theorem z32L_67 : (67 : Int32).toInt = 67 := by decide
theorem z32L_68 : (68 : Int32).toInt = 68 := by decide
theorem z32L_69 : (69 : Int32).toInt = 69 := by decide
theorem z32L_70 : (70 : Int32).toInt = 70 := by decide
theorem z32L_71 : (71 : Int32).toInt = 71 := by decide
theorem z32L_72 : (72 : Int32).toInt = 72 := by decide
theorem z32L_73 : (73 : Int32).toInt = 73 := by decide
theorem z32L_74 : (74 : Int32).toInt = 74 := by decide
theorem z32L_75 : (75 : Int32).toInt = 75 := by decide
theorem z32L_76 : (76 : Int32).toInt = 76 := by decide
theorem z32L_77 : (77 : Int32).toInt = 77 := by decide
theorem z32L_78 : (78 : Int32).toInt = 78 := by decide
theorem z32L_79 : (79 : Int32).toInt = 79 := by decide
theorem z32L_80 : (80 : Int32).toInt = 80 := by decide
theorem z32L_81 : (81 : Int32).toInt = 81 := by decide
theorem z32L_82 : (82 : Int32).toInt = 82 := by decide
theorem z32L_83 : (83 : Int32).toInt = 83 := by decide
theorem z32L_84 : (84 : Int32).toInt = 84 := by decide
theorem z32L_85 : (85 : Int32).toInt = 85 := by decide
theorem z32L_86 : (86 : Int32).toInt = 86 := by decide
theorem z32L_87 : (87 : Int32).toInt = 87 := by decide
theorem z32L_88 : (88 : Int32).toInt = 88 := by decide
theorem z32L_89 : (89 : Int32).toInt = 89 := by decide
theorem z32L_90 : (90 : Int32).toInt = 90 := by decide
theorem z32L_91 : (91 : Int32).toInt = 91 := by decide
theorem z32L_92 : (92 : Int32).toInt = 92 := by decide
theorem z32L_93 : (93 : Int32).toInt = 93 := by decide
theorem z32L_94 : (94 : Int32).toInt = 94 := by decide
theorem z32L_95 : (95 : Int32).toInt = 95 := by decide
theorem z32L_96 : (96 : Int32).toInt = 96 := by decide
theorem z32L_97 : (97 : Int32).toInt = 97 := by decide
theorem z32L_98 : (98 : Int32).toInt = 98 := by decide
theorem z32L_99 : (99 : Int32).toInt = 99 := by decide
theorem z32L_100 : (100 : Int32).toInt = 100 := by decide
theorem z32L_101 : (101 : Int32).toInt = 101 := by decide
theorem z32L_102 : (102 : Int32).toInt = 102 := by decide
theorem z32L_103 : (103 : Int32).toInt = 103 := by decide
theorem z32L_104 : (104 : Int32).toInt = 104 := by decide
theorem z32L_105 : (105 : Int32).toInt = 105 := by decide
theorem z32L_106 : (106 : Int32).toInt = 106 := by decide
theorem z32L_107 : (107 : Int32).toInt = 107 := by decide
theorem z32L_108 : (108 : Int32).toInt = 108 := by decide
theorem z32L_109 : (109 : Int32).toInt = 109 := by decide
theorem z32L_110 : (110 : Int32).toInt = 110 := by decide
theorem z32L_111 : (111 : Int32).toInt = 111 := by decide
theorem z32L_112 : (112 : Int32).toInt = 112 := by decide
theorem z32L_113 : (113 : Int32).toInt = 113 := by decide
theorem z32L_114 : (114 : Int32).toInt = 114 := by decide
theorem z32L_115 : (115 : Int32).toInt = 115 := by decide
theorem z32L_116 : (116 : Int32).toInt = 116 := by decide
theorem z32L_117 : (117 : Int32).toInt = 117 := by decide
theorem z32L_118 : (118 : Int32).toInt = 118 := by decide
theorem z32L_119 : (119 : Int32).toInt = 119 := by decide
theorem z32L_120 : (120 : Int32).toInt = 120 := by decide
theorem z32L_121 : (121 : Int32).toInt = 121 := by decide
theorem z32L_122 : (122 : Int32).toInt = 122 := by decide
theorem z32L_123 : (123 : Int32).toInt = 123 := by decide
theorem z32L_124 : (124 : Int32).toInt = 124 := by decide
theorem z32L_125 : (125 : Int32).toInt = 125 := by decide
theorem z32L_126 : (126 : Int32).toInt = 126 := by decide
theorem z32L_127 : (127 : Int32).toInt = 127 := by decide
theorem z32L_128 : (128 : Int32).toInt = 128 := by decide
theorem z32L_129 : (129 : Int32).toInt = 129 := by decide
theorem z32L_9999 : (9999 : Int32).toInt = 9999 := by decide
theorem z32L_10000 : (10000 : Int32).toInt = 10000 := by decide
theorem nm_1 {ts : Int32} {tb : Nat → Int32} {a : Int32} (h : 48 ≤ bZ ts tb a ∧ bZ ts tb a ≤ 57) : (nmv ts tb 1 a).toInt = bZ ts tb a - 48 := by
  rw [(nm_digit h).1, Int32.toInt_sub]
  have e48 : (48 : Int32).toInt = 48 := by decide
  have hb : bZ ts tb a = (bz ts tb a).toInt := rfl
  rw [e48, ← hb]
  exact zi_bm2 (by omega) (by omega)
theorem mb_first {ts : Int32} {tb : Nat → Int32} {a r s0 q : Int32} {u : Unit} (hb : BR (bz ts tb a) r) (h0 : 0 ≤ s0.toInt ∧ s0.toInt ≤ 9) (h : f_X12_in (r - 48) (1 : Int32) s0 = some (q, u)) : (q = 1 ∧ 49 ≤ bZ ts tb a ∧ bZ ts tb a ≤ 48 + s0.toInt) ∨ (q = 0 ∧ (bZ ts tb a < 49 ∨ 48 + s0.toInt < bZ ts tb a)) := by
  rw [pe_in] at h
  have e := congrArg Prod.fst (Option.some.inj h)
  dsimp only at e
  have e48 : (48 : Int32).toInt = 48 := by decide
  have hbz : bZ ts tb a = (bz ts tb a).toInt := rfl
  have hr : -128 ≤ r.toInt ∧ r.toInt ≤ 127 ∧ ((0 ≤ bZ ts tb a ∧ bZ ts tb a ≤ 127 ∧ r.toInt = bZ ts tb a) ∨ ((bZ ts tb a < 0 ∨ 128 ≤ bZ ts tb a) ∧ r.toInt < 0)) := by
    rcases hb with ⟨b1, b2, rfl⟩ | ⟨b1, b2, b3⟩
    · exact ⟨by omega, by omega, Or.inl ⟨b1, b2, rfl⟩⟩
    · exact ⟨b3, by omega, Or.inr ⟨b1, b2⟩⟩
  have hs : (r - 48).toInt = r.toInt - 48 := by
    rw [Int32.toInt_sub, e48]
    exact zi_bm2 (by omega) (by omega)
  by_cases c : (r - 48) < (1 : Int32) ∨ s0 < (r - 48)
  · rw [if_pos c] at e
    rw [i32_lt, i32_lt, hs, z32_1] at c
    exact Or.inr ⟨e.symm, by omega⟩
  · rw [if_neg c] at e
    rw [i32_lt, i32_lt, hs, z32_1] at c
    exact Or.inl ⟨e.symm, by omega, by omega⟩
def M68c (g83 : Int32 → Int32 → Int32 → (Nat → Int32) → (Nat → Int32) → (Nat → Int32) → (Nat → Int32) → (Nat → Int32) → (Nat → Int32) → (Nat → Int32) → (Nat → Int32) → (Nat → Int32) → (Nat → Int32) → (Option (Int32 × Int32 × (Nat → Int32) × (Nat → Int32) × (Nat → Int32) × (Nat → Int32) × (Nat → Int32) × (Nat → Int32) × (Nat → Int32) × (Nat → Int32) × (Nat → Int32) × (Nat → Int32)))) (mod_code : Int32) (mod_shoes : Int32) (mod_claims : Int32) (mod_taped : Int32) (mod_suits : Int32) (mod_doneMany : Int32) (mod_undoneMany : Int32) (mod_open : Int32) (mod_laid : Int32) (mod_isBoth : Int32) (mod_wished : Int32) (mod_bestMany : Int32) (mod_bestRow : Int32) (mod_ringDigits : Int32) (mod_traces : Int32) (mod_tape : Nat → Int32) (x1 : Int32) (mod_here : Int32) (mod_fault : Int32) (mod_suedBy : Nat → Int32) (mod_suedOn : Nat → Int32) (mod_endKind : Nat → Int32) (mod_isWon : Nat → Int32) (mod_suitDay : Nat → Int32) (mod_suitLand : Nat → Int32) (mod_askedMany : Nat → Int32) (mod_firstMany : Nat → Int32) (mod_asked : Nat → Int32) (mod_pointIs : Nat → Int32) : Option (Int32 × Int32 × (Nat → Int32) × (Nat → Int32) × (Nat → Int32) × (Nat → Int32) × (Nat → Int32) × (Nat → Int32) × (Nat → Int32) × (Nat → Int32) × (Nat → Int32) × (Nat → Int32)) :=
  (zk_b4 (f_X12_readClaims 100000 x1 mod_code mod_shoes mod_claims mod_taped mod_here mod_fault mod_suits mod_doneMany mod_undoneMany mod_open mod_laid mod_isBoth mod_wished mod_bestMany mod_bestRow mod_ringDigits mod_traces mod_tape mod_askedMany mod_asked) (fun u_29 u_30 u_31 u_32 => (g83 x1 u_29 u_30 mod_suedBy mod_suedOn mod_endKind mod_isWon mod_suitDay mod_suitLand u_31 mod_firstMany u_32 mod_pointIs)))
set_option maxHeartbeats 4000000 in
set_option maxRecDepth 20000 in
theorem s1_sides {mod_code : Int32} {court_shoeCount : Int32} {mod_claims : Int32} {ts : Int32} {at_ : Int32} {f : Int32} {court_suitCount : Int32} {mod_doneMany : Int32} {mod_undoneMany : Int32} {mod_open : Int32} {mod_laid : Int32} {mod_isBoth : Int32} {mod_wished : Int32} {mod_bestMany : Int32} {mod_bestRow : Int32} {mod_ringDigits : Int32} {mod_traces : Int32} {tm : Nat → Int32} {mod_askedMany : Nat → Int32} {mod_asked : Nat → Int32} {mod_pointIs : Nat → Int32} {mod_endKind : Nat → Int32} {mod_isWon : Nat → Int32} {mod_firstMany : Nat → Int32} {mod_suedBy : Nat → Int32} {mod_suedOn : Nat → Int32} {mod_suitDay : Nat → Int32} {mod_suitLand : Nat → Int32} {tb : Nat → Int32} {su_who : Int32} {su_against : Int32} {su_kind : Int32} {su_won : Int32} {su_day : Int32} {su_land : Int32} {su_undoneFrom : Int32} {su_askedCount : Int32} {su_askedBits : Int32} {su_first : Int32} {su_foundSo : Int32} {su_foundNot : Int32} {su_fought : Int32} {su_needed : Int32} {sp : Value} {na : Int32} {g : Int32 → Int32 → Int32 → (Nat → Int32) → (Nat → Int32) → (Nat → Int32) → (Nat → Int32) → (Nat → Int32) → (Nat → Int32) → (Nat → Int32) → (Nat → Int32) → (Nat → Int32) → (Nat → Int32) → (Option (Int32 × Int32 × (Nat → Int32) × (Nat → Int32) × (Nat → Int32) × (Nat → Int32) × (Nat → Int32) × (Nat → Int32) × (Nat → Int32) × (Nat → Int32) × (Nat → Int32) × (Nat → Int32)))} {x1 a1 n1 f1 w1 g1 : Int32} {R : Int32 × Int32 × (Nat → Int32) × (Nat → Int32) × (Nat → Int32) × (Nat → Int32) × (Nat → Int32) × (Nat → Int32) × (Nat → Int32) × (Nat → Int32) × (Nat → Int32) × (Nat → Int32)} (hT : TS ts) (hR : TR ts tb tm) (hf : f.toInt < 0) (hp : PB ts at_) (h : f_X8_readSides ts tb sp at_ na f su_who su_against su_kind su_won su_day su_land su_undoneFrom su_askedCount su_askedBits su_first su_foundSo su_foundNot su_fought su_needed = some (a1, n1, f1, w1, g1)) (k : B_X12_readSuit_0 g mod_code court_shoeCount mod_claims ts court_suitCount mod_doneMany mod_undoneMany mod_open mod_laid mod_isBoth mod_wished mod_bestMany mod_bestRow mod_ringDigits mod_traces tm x1 at_ f mod_suedBy mod_suedOn mod_endKind mod_isWon mod_suitDay mod_suitLand mod_askedMany mod_firstMany mod_asked mod_pointIs = some R) : (0 ≤ f1.toInt ∧ R.2.1 = f1 ∧ RFR x1.toInt.toNat (mod_suedBy, mod_suedOn, mod_endKind, mod_isWon, mod_suitDay, mod_suitLand, mod_askedMany, mod_firstMany, mod_asked, mod_pointIs) R.2.2) ∨ (f1 = f ∧ PB ts a1 ∧ (0 ≤ w1.toInt ∧ w1.toInt ≤ 19 ∧ 0 ≤ g1.toInt ∧ g1.toInt ≤ 19) ∧ M68c g mod_code court_shoeCount mod_claims ts court_suitCount mod_doneMany mod_undoneMany mod_open mod_laid mod_isBoth mod_wished mod_bestMany mod_bestRow mod_ringDigits mod_traces tm x1 a1 f (upd mod_suedBy x1.toNatClampNeg w1) (upd mod_suedOn x1.toNatClampNeg g1) mod_endKind mod_isWon mod_suitDay mod_suitLand mod_askedMany mod_firstMany mod_asked mod_pointIs = some R) := by
  unfold f_X8_readSides B_X8_readSides_0 at h
  unfold B_X12_readSuit_0 at k
  replace h := zk_o4 h
  obtain ⟨cr_1, cu_2, cu_3, cu_4, ch1, h⟩ := h
  rcases cb_numberN2 hT hf hp ch1 with ⟨ck2, cq4, cq5, cq6, cq7, ck3⟩ | ⟨ck2, cq8, cq9, cq10, cq11⟩
  · replace cq4 := cq4.symm
    subst cq4
    replace cq5 := cq5.symm
    subst cq5
    replace cq6 := cq6.symm
    subst cq6
    replace cq7 := cq7.symm
    subst cq7
    have ck3a := ck3.1
    have ck3b := nmv_b2 (ts := ts) (tb := tb) at_
    by_cases cc12 : (20 : Int32) ≤ (nmv ts tb 2 at_)
    · replace h := zk_t cc12 h
      have cc12n := cc12
      (try simp only [i32_lt, i32_le, i32_e, z32_0, z32_1, z32L_2, z32L_20] at cc12n)
      unfold B_X8_readSides_24 at h
      replace h := zk_o1 h
      obtain ⟨cu_7, ch13, h⟩ := h
      obtain cq14 := cb_judge0N hf ch13
      replace cq14 := cq14.symm
      subst cq14
      replace h := zk_o2 h
      obtain ⟨cu_9, cu_10, ch15, h⟩ := h
      obtain ⟨cq16, cq17⟩ := cb_expectP (hp).1 ch15
      replace cq16 := cq16.symm
      subst cq16
      replace cq17 := cq17.symm
      subst cq17
      replace h := zk_o4 h
      obtain ⟨cr_12, cu_13, cu_14, cu_15, ch18, h⟩ := h
      obtain ⟨cq19, cq20, cq21, cq22⟩ := cb_numberP2 (hp).1 ch18
      replace cq19 := cq19.symm
      subst cq19
      replace cq20 := cq20.symm
      subst cq20
      replace cq21 := cq21.symm
      subst cq21
      replace cq22 := cq22.symm
      subst cq22
      replace h := zk_f (by decide) h
      by_cases cc23 : (0 : Int32) = (nmv ts tb 2 at_)
      · replace h := zk_t cc23 h
        have cc23n := cc23
        (try simp only [i32_lt, i32_le, i32_e, z32_0, z32_1, z32L_2] at cc23n)
        unfold B_X8_readSides_71 at h
        unfold B_X8_readSides_72 at h
        replace h := zk_o1 h
        obtain ⟨cu_19, ch24, h⟩ := h
        obtain cq25 := cb_judgeP (hp).1 ch24
        replace cq25 := cq25.symm
        subst cq25
        replace h := zk_o2 h
        obtain ⟨cu_21, cu_22, ch26, h⟩ := h
        obtain ⟨cq27, cq28⟩ := cb_expectP (hp).1 ch26
        replace cq27 := cq27.symm
        subst cq27
        replace cq28 := cq28.symm
        subst cq28
        simp only [Option.some.injEq, Prod.mk.injEq] at h
        obtain ⟨rfl, rfl, rfl, rfl, rfl⟩ := h
        replace k := zk_o3 k
        obtain ⟨mr_1, mu_2, mu_3, mh1, k⟩ := k
        rcases mb_number2 (m := 20) hT hR hf hp (by decide) mh1 with ⟨mk2, mk3, _, _, _, mk4⟩ | ⟨mk2, mk3, mq5, mq6, mq7, mk4⟩ | ⟨mk2, _, _, _⟩
        · exfalso; omega
        · replace mq5 := mq5.symm
          subst mq5
          replace mq6 := mq6.symm
          subst mq6
          replace mq7 := mq7.symm
          subst mq7
          have mk4a := mk4.1
          have mk4b := nmv_b2 (ts := ts) (tb := tb) at_
          replace k := zk_gd k
          obtain ⟨_, k⟩ := k
          replace k := zk_lt k
          obtain ⟨mf_6, me8, k⟩ := k
          have me8u : mf_6 x1.toNatClampNeg = (nmv ts tb 2 at_) := by rw [me8]; unfold upd; rw [if_pos rfl]
          rw [me8u] at k
          replace k := zk_o3 k
          obtain ⟨mr_7, mu_8, mu_9, mh9, k⟩ := k
          obtain ⟨mq10, mq11, mq12⟩ := mb_takesP (hp).1 mh9
          replace mq10 := mq10.symm
          subst mq10
          replace mq11 := mq11.symm
          subst mq11
          replace mq12 := mq12.symm
          subst mq12
          replace k := zk_t (by decide) k
          replace k := Option.some.inj k
          rw [← k]
          subst me8
          exact Or.inl ⟨(hp).1, rfl, ⟨by intro j hj; first | rfl | exact upd_n hj | exact (upd_n hj).trans (upd_n hj), by intro j hj; first | rfl | exact upd_n hj | exact (upd_n hj).trans (upd_n hj), by intro j hj; first | rfl | exact upd_n hj | exact (upd_n hj).trans (upd_n hj), by intro j hj; first | rfl | exact upd_n hj | exact (upd_n hj).trans (upd_n hj), by intro j hj; first | rfl | exact upd_n hj | exact (upd_n hj).trans (upd_n hj), by intro j hj; first | rfl | exact upd_n hj | exact (upd_n hj).trans (upd_n hj), by intro j hj; first | rfl | exact upd_n hj | exact (upd_n hj).trans (upd_n hj), by intro j hj; first | rfl | exact upd_n hj | exact (upd_n hj).trans (upd_n hj), fun _ _ => rfl, fun _ _ => rfl⟩⟩
        · exact (zx_2 ck2 mk2).elim
      · replace h := zk_f cc23 h
        have cc23n := cc23
        (try simp only [i32_lt, i32_le, i32_e, z32_0, z32_1, z32L_2] at cc23n)
        unfold B_X8_readSides_72 at h
        replace h := zk_o1 h
        obtain ⟨cu_19, ch29, h⟩ := h
        obtain cq30 := cb_judgeP (hp).1 ch29
        replace cq30 := cq30.symm
        subst cq30
        replace h := zk_o2 h
        obtain ⟨cu_21, cu_22, ch31, h⟩ := h
        obtain ⟨cq32, cq33⟩ := cb_expectP (hp).1 ch31
        replace cq32 := cq32.symm
        subst cq32
        replace cq33 := cq33.symm
        subst cq33
        simp only [Option.some.injEq, Prod.mk.injEq] at h
        obtain ⟨rfl, rfl, rfl, rfl, rfl⟩ := h
        replace k := zk_o3 k
        obtain ⟨mr_1, mu_2, mu_3, mh13, k⟩ := k
        rcases mb_number2 (m := 20) hT hR hf hp (by decide) mh13 with ⟨mk14, mk15, _, _, _, mk16⟩ | ⟨mk14, mk15, mq17, mq18, mq19, mk16⟩ | ⟨mk14, _, _, _⟩
        · exfalso; omega
        · replace mq17 := mq17.symm
          subst mq17
          replace mq18 := mq18.symm
          subst mq18
          replace mq19 := mq19.symm
          subst mq19
          have mk16a := mk16.1
          have mk16b := nmv_b2 (ts := ts) (tb := tb) at_
          replace k := zk_gd k
          obtain ⟨_, k⟩ := k
          replace k := zk_lt k
          obtain ⟨mf_6, me20, k⟩ := k
          have me20u : mf_6 x1.toNatClampNeg = (nmv ts tb 2 at_) := by rw [me20]; unfold upd; rw [if_pos rfl]
          rw [me20u] at k
          replace k := zk_o3 k
          obtain ⟨mr_7, mu_8, mu_9, mh21, k⟩ := k
          obtain ⟨mq22, mq23, mq24⟩ := mb_takesP (hp).1 mh21
          replace mq22 := mq22.symm
          subst mq22
          replace mq23 := mq23.symm
          subst mq23
          replace mq24 := mq24.symm
          subst mq24
          replace k := zk_t (by decide) k
          replace k := Option.some.inj k
          rw [← k]
          subst me20
          exact Or.inl ⟨(hp).1, rfl, ⟨by intro j hj; first | rfl | exact upd_n hj | exact (upd_n hj).trans (upd_n hj), by intro j hj; first | rfl | exact upd_n hj | exact (upd_n hj).trans (upd_n hj), by intro j hj; first | rfl | exact upd_n hj | exact (upd_n hj).trans (upd_n hj), by intro j hj; first | rfl | exact upd_n hj | exact (upd_n hj).trans (upd_n hj), by intro j hj; first | rfl | exact upd_n hj | exact (upd_n hj).trans (upd_n hj), by intro j hj; first | rfl | exact upd_n hj | exact (upd_n hj).trans (upd_n hj), by intro j hj; first | rfl | exact upd_n hj | exact (upd_n hj).trans (upd_n hj), by intro j hj; first | rfl | exact upd_n hj | exact (upd_n hj).trans (upd_n hj), fun _ _ => rfl, fun _ _ => rfl⟩⟩
        · exact (zx_2 ck2 mk14).elim
    · replace h := zk_f cc12 h
      have cc12n := cc12
      (try simp only [i32_lt, i32_le, i32_e, z32_0, z32_1, z32L_2, z32L_20] at cc12n)
      unfold B_X8_readSides_24 at h
      replace h := zk_o1 h
      obtain ⟨cu_7, ch34, h⟩ := h
      obtain cq35 := cb_judge1 ch34
      replace cq35 := cq35.symm
      subst cq35
      replace h := zk_o2 h
      obtain ⟨cu_9, cu_10, ch36, h⟩ := h
      rcases cb_expectN (n := 62) hT hf ck3 (by decide) ch36 with ⟨ck37, cq39, cq40, ck38⟩ | ⟨ck37, cq41, cq42⟩
      · replace cq39 := cq39.symm
        subst cq39
        replace cq40 := cq40.symm
        subst cq40
        have ck38a := ck38.1
        replace h := zk_o4 h
        obtain ⟨cr_12, cu_13, cu_14, cu_15, ch43, h⟩ := h
        rcases cb_numberN2 hT hf ck38 ch43 with ⟨ck44, cq46, cq47, cq48, cq49, ck45⟩ | ⟨ck44, cq50, cq51, cq52, cq53⟩
        · replace cq46 := cq46.symm
          subst cq46
          replace cq47 := cq47.symm
          subst cq47
          replace cq48 := cq48.symm
          subst cq48
          replace cq49 := cq49.symm
          subst cq49
          have ck45a := ck45.1
          have ck45b := nmv_b2 (ts := ts) (tb := tb) ((nma ts tb 2 at_) + 1)
          by_cases cc54 : (20 : Int32) ≤ (nmv ts tb 2 ((nma ts tb 2 at_) + 1))
          · replace h := zk_t cc54 h
            have cc54n := cc54
            (try simp only [i32_lt, i32_le, i32_e, z32_0, z32_1, z32L_2, z32L_20] at cc54n)
            unfold B_X8_readSides_71 at h
            unfold B_X8_readSides_72 at h
            replace h := zk_o1 h
            obtain ⟨cu_19, ch55, h⟩ := h
            obtain cq56 := cb_judge0N hf ch55
            replace cq56 := cq56.symm
            subst cq56
            replace h := zk_o2 h
            obtain ⟨cu_21, cu_22, ch57, h⟩ := h
            obtain ⟨cq58, cq59⟩ := cb_expectP (ck38).1 ch57
            replace cq58 := cq58.symm
            subst cq58
            replace cq59 := cq59.symm
            subst cq59
            simp only [Option.some.injEq, Prod.mk.injEq] at h
            obtain ⟨rfl, rfl, rfl, rfl, rfl⟩ := h
            replace k := zk_o3 k
            obtain ⟨mr_1, mu_2, mu_3, mh25, k⟩ := k
            rcases mb_number2 (m := 20) hT hR hf hp (by decide) mh25 with ⟨mk26, mk27, mq29, mq30, mq31, mk28⟩ | ⟨mk26, mk27, _, _, _, mk28⟩ | ⟨mk26, _, _, _⟩
            · replace mq29 := mq29.symm
              subst mq29
              replace mq30 := mq30.symm
              subst mq30
              replace mq31 := mq31.symm
              subst mq31
              have mk28a := mk28.1
              have mk28b := nmv_b2 (ts := ts) (tb := tb) at_
              replace k := zk_gd k
              obtain ⟨_, k⟩ := k
              replace k := zk_lt k
              obtain ⟨mf_6, me32, k⟩ := k
              have me32u : mf_6 x1.toNatClampNeg = (nmv ts tb 2 at_) := by rw [me32]; unfold upd; rw [if_pos rfl]
              rw [me32u] at k
              replace k := zk_o3 k
              obtain ⟨mr_7, mu_8, mu_9, mh33, k⟩ := k
              rcases mb_takesN (n := 62) hT hR hf mk28 (by decide) mh33 with ⟨mk34, mq36, mq37, mq38, mk35⟩ | ⟨mk34, _, _, _⟩
              · replace mq36 := mq36.symm
                subst mq36
                replace mq37 := mq37.symm
                subst mq37
                replace mq38 := mq38.symm
                subst mq38
                have mk35a := mk35.1
                replace k := zk_f (by decide) k
                replace k := zk_o3 k
                obtain ⟨mr_12, mu_13, mu_14, mh39, k⟩ := k
                rcases mb_number2 (m := 20) hT hR hf mk35 (by decide) mh39 with ⟨mk40, mk41, _, _, _, mk42⟩ | ⟨mk40, mk41, mq43, mq44, mq45, mk42⟩ | ⟨mk40, _, _, _⟩
                · exfalso; omega
                · replace mq43 := mq43.symm
                  subst mq43
                  replace mq44 := mq44.symm
                  subst mq44
                  replace mq45 := mq45.symm
                  subst mq45
                  have mk42a := mk42.1
                  have mk42b := nmv_b2 (ts := ts) (tb := tb) ((nma ts tb 2 at_) + 1)
                  replace k := zk_gd k
                  obtain ⟨_, k⟩ := k
                  replace k := zk_lt k
                  obtain ⟨mf_17, me46, k⟩ := k
                  have me46u : mf_17 x1.toNatClampNeg = (nmv ts tb 2 ((nma ts tb 2 at_) + 1)) := by rw [me46]; unfold upd; rw [if_pos rfl]
                  rw [me46u] at k
                  replace k := zk_t (by rw [i32_le, z32_0]; omega) k
                  unfold B_X12_readSuit_68 at k
                  replace k := zk_o3 k
                  obtain ⟨mr_24, mu_25, mu_26, mh47, k⟩ := k
                  obtain ⟨mq48, mq49, mq50⟩ := mb_takesP (mk35).1 mh47
                  replace mq48 := mq48.symm
                  subst mq48
                  replace mq49 := mq49.symm
                  subst mq49
                  replace mq50 := mq50.symm
                  subst mq50
                  replace k := zk_t (by decide) k
                  replace k := Option.some.inj k
                  rw [← k]
                  subst me32
                  subst me46
                  exact Or.inl ⟨(mk35).1, rfl, ⟨by intro j hj; first | rfl | exact upd_n hj | exact (upd_n hj).trans (upd_n hj), by intro j hj; first | rfl | exact upd_n hj | exact (upd_n hj).trans (upd_n hj), by intro j hj; first | rfl | exact upd_n hj | exact (upd_n hj).trans (upd_n hj), by intro j hj; first | rfl | exact upd_n hj | exact (upd_n hj).trans (upd_n hj), by intro j hj; first | rfl | exact upd_n hj | exact (upd_n hj).trans (upd_n hj), by intro j hj; first | rfl | exact upd_n hj | exact (upd_n hj).trans (upd_n hj), by intro j hj; first | rfl | exact upd_n hj | exact (upd_n hj).trans (upd_n hj), by intro j hj; first | rfl | exact upd_n hj | exact (upd_n hj).trans (upd_n hj), fun _ _ => rfl, fun _ _ => rfl⟩⟩
                · exact (zx_2 ck44 mk40).elim
              · exact (mk34 ck37).elim
            · exfalso; omega
            · exact (zx_2 ck2 mk26).elim
          · replace h := zk_f cc54 h
            have cc54n := cc54
            (try simp only [i32_lt, i32_le, i32_e, z32_0, z32_1, z32L_2, z32L_20] at cc54n)
            by_cases cc60 : (nmv ts tb 2 ((nma ts tb 2 at_) + 1)) = (nmv ts tb 2 at_)
            · replace h := zk_t cc60 h
              have cc60n := cc60
              (try simp only [i32_lt, i32_le, i32_e, z32_0, z32_1, z32L_2] at cc60n)
              unfold B_X8_readSides_71 at h
              unfold B_X8_readSides_72 at h
              replace h := zk_o1 h
              obtain ⟨cu_19, ch61, h⟩ := h
              obtain cq62 := cb_judge0N hf ch61
              replace cq62 := cq62.symm
              subst cq62
              replace h := zk_o2 h
              obtain ⟨cu_21, cu_22, ch63, h⟩ := h
              obtain ⟨cq64, cq65⟩ := cb_expectP (ck38).1 ch63
              replace cq64 := cq64.symm
              subst cq64
              replace cq65 := cq65.symm
              subst cq65
              simp only [Option.some.injEq, Prod.mk.injEq] at h
              obtain ⟨rfl, rfl, rfl, rfl, rfl⟩ := h
              replace k := zk_o3 k
              obtain ⟨mr_1, mu_2, mu_3, mh51, k⟩ := k
              rcases mb_number2 (m := 20) hT hR hf hp (by decide) mh51 with ⟨mk52, mk53, mq55, mq56, mq57, mk54⟩ | ⟨mk52, mk53, _, _, _, mk54⟩ | ⟨mk52, _, _, _⟩
              · replace mq55 := mq55.symm
                subst mq55
                replace mq56 := mq56.symm
                subst mq56
                replace mq57 := mq57.symm
                subst mq57
                have mk54a := mk54.1
                have mk54b := nmv_b2 (ts := ts) (tb := tb) at_
                replace k := zk_gd k
                obtain ⟨_, k⟩ := k
                replace k := zk_lt k
                obtain ⟨mf_6, me58, k⟩ := k
                have me58u : mf_6 x1.toNatClampNeg = (nmv ts tb 2 at_) := by rw [me58]; unfold upd; rw [if_pos rfl]
                rw [me58u] at k
                replace k := zk_o3 k
                obtain ⟨mr_7, mu_8, mu_9, mh59, k⟩ := k
                rcases mb_takesN (n := 62) hT hR hf mk54 (by decide) mh59 with ⟨mk60, mq62, mq63, mq64, mk61⟩ | ⟨mk60, _, _, _⟩
                · replace mq62 := mq62.symm
                  subst mq62
                  replace mq63 := mq63.symm
                  subst mq63
                  replace mq64 := mq64.symm
                  subst mq64
                  have mk61a := mk61.1
                  replace k := zk_f (by decide) k
                  replace k := zk_o3 k
                  obtain ⟨mr_12, mu_13, mu_14, mh65, k⟩ := k
                  rcases mb_number2 (m := 20) hT hR hf mk61 (by decide) mh65 with ⟨mk66, mk67, mq69, mq70, mq71, mk68⟩ | ⟨mk66, mk67, _, _, _, mk68⟩ | ⟨mk66, _, _, _⟩
                  · replace mq69 := mq69.symm
                    subst mq69
                    replace mq70 := mq70.symm
                    subst mq70
                    replace mq71 := mq71.symm
                    subst mq71
                    have mk68a := mk68.1
                    have mk68b := nmv_b2 (ts := ts) (tb := tb) ((nma ts tb 2 at_) + 1)
                    replace k := zk_gd k
                    obtain ⟨_, k⟩ := k
                    replace k := zk_lt k
                    obtain ⟨mf_17, me72, k⟩ := k
                    have me72u : mf_17 x1.toNatClampNeg = (nmv ts tb 2 ((nma ts tb 2 at_) + 1)) := by rw [me72]; unfold upd; rw [if_pos rfl]
                    rw [me72u] at k
                    replace k := zk_f (by rw [i32_le, z32_0]; omega) k
                    replace k := zk_gd k
                    obtain ⟨_, k⟩ := k
                    replace k := zk_gd k
                    obtain ⟨_, k⟩ := k
                    replace k := zk_t cc60 k
                    replace k := zk_o1 k
                    obtain ⟨mu_22, mh73, k⟩ := k
                    obtain mq74 := mb_wrongAtN hf mh73
                    replace mq74 := mq74.symm
                    subst mq74
                    unfold B_X12_readSuit_68 at k
                    replace k := zk_o3 k
                    obtain ⟨mr_24, mu_25, mu_26, mh75, k⟩ := k
                    obtain ⟨mq76, mq77, mq78⟩ := mb_takesP (mk61).1 mh75
                    replace mq76 := mq76.symm
                    subst mq76
                    replace mq77 := mq77.symm
                    subst mq77
                    replace mq78 := mq78.symm
                    subst mq78
                    replace k := zk_t (by decide) k
                    replace k := Option.some.inj k
                    rw [← k]
                    subst me58
                    subst me72
                    exact Or.inl ⟨(mk61).1, rfl, ⟨by intro j hj; first | rfl | exact upd_n hj | exact (upd_n hj).trans (upd_n hj), by intro j hj; first | rfl | exact upd_n hj | exact (upd_n hj).trans (upd_n hj), by intro j hj; first | rfl | exact upd_n hj | exact (upd_n hj).trans (upd_n hj), by intro j hj; first | rfl | exact upd_n hj | exact (upd_n hj).trans (upd_n hj), by intro j hj; first | rfl | exact upd_n hj | exact (upd_n hj).trans (upd_n hj), by intro j hj; first | rfl | exact upd_n hj | exact (upd_n hj).trans (upd_n hj), by intro j hj; first | rfl | exact upd_n hj | exact (upd_n hj).trans (upd_n hj), by intro j hj; first | rfl | exact upd_n hj | exact (upd_n hj).trans (upd_n hj), fun _ _ => rfl, fun _ _ => rfl⟩⟩
                  · exfalso; omega
                  · exact (zx_2 ck44 mk66).elim
                · exact (mk60 ck37).elim
              · exfalso; omega
              · exact (zx_2 ck2 mk52).elim
            · replace h := zk_f cc60 h
              have cc60n := cc60
              (try simp only [i32_lt, i32_le, i32_e, z32_0, z32_1, z32L_2] at cc60n)
              unfold B_X8_readSides_72 at h
              replace h := zk_o1 h
              obtain ⟨cu_19, ch66, h⟩ := h
              obtain cq67 := cb_judge1 ch66
              replace cq67 := cq67.symm
              subst cq67
              replace h := zk_o2 h
              obtain ⟨cu_21, cu_22, ch68, h⟩ := h
              rcases cb_expectN (n := 58) hT hf ck45 (by decide) ch68 with ⟨ck69, cq71, cq72, ck70⟩ | ⟨ck69, cq73, cq74⟩
              · replace cq71 := cq71.symm
                subst cq71
                replace cq72 := cq72.symm
                subst cq72
                have ck70a := ck70.1
                simp only [Option.some.injEq, Prod.mk.injEq] at h
                obtain ⟨rfl, rfl, rfl, rfl, rfl⟩ := h
                replace k := zk_o3 k
                obtain ⟨mr_1, mu_2, mu_3, mh79, k⟩ := k
                rcases mb_number2 (m := 20) hT hR hf hp (by decide) mh79 with ⟨mk80, mk81, mq83, mq84, mq85, mk82⟩ | ⟨mk80, mk81, _, _, _, mk82⟩ | ⟨mk80, _, _, _⟩
                · replace mq83 := mq83.symm
                  subst mq83
                  replace mq84 := mq84.symm
                  subst mq84
                  replace mq85 := mq85.symm
                  subst mq85
                  have mk82a := mk82.1
                  have mk82b := nmv_b2 (ts := ts) (tb := tb) at_
                  replace k := zk_gd k
                  obtain ⟨_, k⟩ := k
                  replace k := zk_lt k
                  obtain ⟨mf_6, me86, k⟩ := k
                  have me86u : mf_6 x1.toNatClampNeg = (nmv ts tb 2 at_) := by rw [me86]; unfold upd; rw [if_pos rfl]
                  rw [me86u] at k
                  replace k := zk_o3 k
                  obtain ⟨mr_7, mu_8, mu_9, mh87, k⟩ := k
                  rcases mb_takesN (n := 62) hT hR hf mk82 (by decide) mh87 with ⟨mk88, mq90, mq91, mq92, mk89⟩ | ⟨mk88, _, _, _⟩
                  · replace mq90 := mq90.symm
                    subst mq90
                    replace mq91 := mq91.symm
                    subst mq91
                    replace mq92 := mq92.symm
                    subst mq92
                    have mk89a := mk89.1
                    replace k := zk_f (by decide) k
                    replace k := zk_o3 k
                    obtain ⟨mr_12, mu_13, mu_14, mh93, k⟩ := k
                    rcases mb_number2 (m := 20) hT hR hf mk89 (by decide) mh93 with ⟨mk94, mk95, mq97, mq98, mq99, mk96⟩ | ⟨mk94, mk95, _, _, _, mk96⟩ | ⟨mk94, _, _, _⟩
                    · replace mq97 := mq97.symm
                      subst mq97
                      replace mq98 := mq98.symm
                      subst mq98
                      replace mq99 := mq99.symm
                      subst mq99
                      have mk96a := mk96.1
                      have mk96b := nmv_b2 (ts := ts) (tb := tb) ((nma ts tb 2 at_) + 1)
                      replace k := zk_gd k
                      obtain ⟨_, k⟩ := k
                      replace k := zk_lt k
                      obtain ⟨mf_17, me100, k⟩ := k
                      have me100u : mf_17 x1.toNatClampNeg = (nmv ts tb 2 ((nma ts tb 2 at_) + 1)) := by rw [me100]; unfold upd; rw [if_pos rfl]
                      rw [me100u] at k
                      replace k := zk_f (by rw [i32_le, z32_0]; omega) k
                      replace k := zk_gd k
                      obtain ⟨_, k⟩ := k
                      replace k := zk_gd k
                      obtain ⟨_, k⟩ := k
                      replace k := zk_f cc60 k
                      unfold B_X12_readSuit_68 at k
                      replace k := zk_o3 k
                      obtain ⟨mr_24, mu_25, mu_26, mh101, k⟩ := k
                      rcases mb_takesN (n := 58) hT hR hf mk96 (by decide) mh101 with ⟨mk102, mq104, mq105, mq106, mk103⟩ | ⟨mk102, _, _, _⟩
                      · replace mq104 := mq104.symm
                        subst mq104
                        replace mq105 := mq105.symm
                        subst mq105
                        replace mq106 := mq106.symm
                        subst mq106
                        have mk103a := mk103.1
                        replace k := zk_f (by decide) k
                        subst me86
                        subst me100
                        exact Or.inr ⟨rfl, mk103, ⟨by omega, by omega, by omega, by omega⟩, k⟩
                      · exact (mk102 ck69).elim
                    · exfalso; omega
                    · exact (zx_2 ck44 mk94).elim
                  · exact (mk88 ck37).elim
                · exfalso; omega
                · exact (zx_2 ck2 mk80).elim
              · replace cq73 := cq73.symm
                subst cq73
                replace cq74 := cq74.symm
                subst cq74
                simp only [Option.some.injEq, Prod.mk.injEq] at h
                obtain ⟨rfl, rfl, rfl, rfl, rfl⟩ := h
                replace k := zk_o3 k
                obtain ⟨mr_1, mu_2, mu_3, mh107, k⟩ := k
                rcases mb_number2 (m := 20) hT hR hf hp (by decide) mh107 with ⟨mk108, mk109, mq111, mq112, mq113, mk110⟩ | ⟨mk108, mk109, _, _, _, mk110⟩ | ⟨mk108, _, _, _⟩
                · replace mq111 := mq111.symm
                  subst mq111
                  replace mq112 := mq112.symm
                  subst mq112
                  replace mq113 := mq113.symm
                  subst mq113
                  have mk110a := mk110.1
                  have mk110b := nmv_b2 (ts := ts) (tb := tb) at_
                  replace k := zk_gd k
                  obtain ⟨_, k⟩ := k
                  replace k := zk_lt k
                  obtain ⟨mf_6, me114, k⟩ := k
                  have me114u : mf_6 x1.toNatClampNeg = (nmv ts tb 2 at_) := by rw [me114]; unfold upd; rw [if_pos rfl]
                  rw [me114u] at k
                  replace k := zk_o3 k
                  obtain ⟨mr_7, mu_8, mu_9, mh115, k⟩ := k
                  rcases mb_takesN (n := 62) hT hR hf mk110 (by decide) mh115 with ⟨mk116, mq118, mq119, mq120, mk117⟩ | ⟨mk116, _, _, _⟩
                  · replace mq118 := mq118.symm
                    subst mq118
                    replace mq119 := mq119.symm
                    subst mq119
                    replace mq120 := mq120.symm
                    subst mq120
                    have mk117a := mk117.1
                    replace k := zk_f (by decide) k
                    replace k := zk_o3 k
                    obtain ⟨mr_12, mu_13, mu_14, mh121, k⟩ := k
                    rcases mb_number2 (m := 20) hT hR hf mk117 (by decide) mh121 with ⟨mk122, mk123, mq125, mq126, mq127, mk124⟩ | ⟨mk122, mk123, _, _, _, mk124⟩ | ⟨mk122, _, _, _⟩
                    · replace mq125 := mq125.symm
                      subst mq125
                      replace mq126 := mq126.symm
                      subst mq126
                      replace mq127 := mq127.symm
                      subst mq127
                      have mk124a := mk124.1
                      have mk124b := nmv_b2 (ts := ts) (tb := tb) ((nma ts tb 2 at_) + 1)
                      replace k := zk_gd k
                      obtain ⟨_, k⟩ := k
                      replace k := zk_lt k
                      obtain ⟨mf_17, me128, k⟩ := k
                      have me128u : mf_17 x1.toNatClampNeg = (nmv ts tb 2 ((nma ts tb 2 at_) + 1)) := by rw [me128]; unfold upd; rw [if_pos rfl]
                      rw [me128u] at k
                      replace k := zk_f (by rw [i32_le, z32_0]; omega) k
                      replace k := zk_gd k
                      obtain ⟨_, k⟩ := k
                      replace k := zk_gd k
                      obtain ⟨_, k⟩ := k
                      replace k := zk_f cc60 k
                      unfold B_X12_readSuit_68 at k
                      replace k := zk_o3 k
                      obtain ⟨mr_24, mu_25, mu_26, mh129, k⟩ := k
                      rcases mb_takesN (n := 58) hT hR hf mk124 (by decide) mh129 with ⟨mk130, _, _, _, mk131⟩ | ⟨mk130, mq132, mq133, mq134⟩
                      · exact (ck69 mk130).elim
                      · replace mq132 := mq132.symm
                        subst mq132
                        replace mq133 := mq133.symm
                        subst mq133
                        replace mq134 := mq134.symm
                        subst mq134
                        replace k := zk_t (by decide) k
                        replace k := Option.some.inj k
                        rw [← k]
                        subst me114
                        subst me128
                        exact Or.inl ⟨(mk124).1, rfl, ⟨by intro j hj; first | rfl | exact upd_n hj | exact (upd_n hj).trans (upd_n hj), by intro j hj; first | rfl | exact upd_n hj | exact (upd_n hj).trans (upd_n hj), by intro j hj; first | rfl | exact upd_n hj | exact (upd_n hj).trans (upd_n hj), by intro j hj; first | rfl | exact upd_n hj | exact (upd_n hj).trans (upd_n hj), by intro j hj; first | rfl | exact upd_n hj | exact (upd_n hj).trans (upd_n hj), by intro j hj; first | rfl | exact upd_n hj | exact (upd_n hj).trans (upd_n hj), by intro j hj; first | rfl | exact upd_n hj | exact (upd_n hj).trans (upd_n hj), by intro j hj; first | rfl | exact upd_n hj | exact (upd_n hj).trans (upd_n hj), fun _ _ => rfl, fun _ _ => rfl⟩⟩
                    · exfalso; omega
                    · exact (zx_2 ck44 mk122).elim
                  · exact (mk116 ck37).elim
                · exfalso; omega
                · exact (zx_2 ck2 mk108).elim
        · replace cq50 := cq50.symm
          subst cq50
          replace cq51 := cq51.symm
          subst cq51
          replace cq52 := cq52.symm
          subst cq52
          replace cq53 := cq53.symm
          subst cq53
          replace h := zk_f (by decide) h
          by_cases cc75 : (0 : Int32) = (nmv ts tb 2 at_)
          · replace h := zk_t cc75 h
            have cc75n := cc75
            (try simp only [i32_lt, i32_le, i32_e, z32_0, z32_1, z32L_2] at cc75n)
            unfold B_X8_readSides_71 at h
            unfold B_X8_readSides_72 at h
            replace h := zk_o1 h
            obtain ⟨cu_19, ch76, h⟩ := h
            obtain cq77 := cb_judgeP (ck38).1 ch76
            replace cq77 := cq77.symm
            subst cq77
            replace h := zk_o2 h
            obtain ⟨cu_21, cu_22, ch78, h⟩ := h
            obtain ⟨cq79, cq80⟩ := cb_expectP (ck38).1 ch78
            replace cq79 := cq79.symm
            subst cq79
            replace cq80 := cq80.symm
            subst cq80
            simp only [Option.some.injEq, Prod.mk.injEq] at h
            obtain ⟨rfl, rfl, rfl, rfl, rfl⟩ := h
            replace k := zk_o3 k
            obtain ⟨mr_1, mu_2, mu_3, mh135, k⟩ := k
            rcases mb_number2 (m := 20) hT hR hf hp (by decide) mh135 with ⟨mk136, mk137, mq139, mq140, mq141, mk138⟩ | ⟨mk136, mk137, _, _, _, mk138⟩ | ⟨mk136, _, _, _⟩
            · replace mq139 := mq139.symm
              subst mq139
              replace mq140 := mq140.symm
              subst mq140
              replace mq141 := mq141.symm
              subst mq141
              have mk138a := mk138.1
              have mk138b := nmv_b2 (ts := ts) (tb := tb) at_
              replace k := zk_gd k
              obtain ⟨_, k⟩ := k
              replace k := zk_lt k
              obtain ⟨mf_6, me142, k⟩ := k
              have me142u : mf_6 x1.toNatClampNeg = (nmv ts tb 2 at_) := by rw [me142]; unfold upd; rw [if_pos rfl]
              rw [me142u] at k
              replace k := zk_o3 k
              obtain ⟨mr_7, mu_8, mu_9, mh143, k⟩ := k
              rcases mb_takesN (n := 62) hT hR hf mk138 (by decide) mh143 with ⟨mk144, mq146, mq147, mq148, mk145⟩ | ⟨mk144, _, _, _⟩
              · replace mq146 := mq146.symm
                subst mq146
                replace mq147 := mq147.symm
                subst mq147
                replace mq148 := mq148.symm
                subst mq148
                have mk145a := mk145.1
                replace k := zk_f (by decide) k
                replace k := zk_o3 k
                obtain ⟨mr_12, mu_13, mu_14, mh149, k⟩ := k
                rcases mb_number2 (m := 20) hT hR hf mk145 (by decide) mh149 with ⟨mk150, mk151, _, _, _, mk152⟩ | ⟨mk150, mk151, _, _, _, mk152⟩ | ⟨mk150, mq153, mq154, mq155⟩
                · exact (zx_2 mk150 ck44).elim
                · exact (zx_2 mk150 ck44).elim
                · replace mq153 := mq153.symm
                  subst mq153
                  replace mq154 := mq154.symm
                  subst mq154
                  replace mq155 := mq155.symm
                  subst mq155
                  replace k := zk_gd k
                  obtain ⟨_, k⟩ := k
                  replace k := zk_lt k
                  obtain ⟨mf_17, me156, k⟩ := k
                  have me156u : mf_17 x1.toNatClampNeg = (0 : Int32) := by rw [me156]; unfold upd; rw [if_pos rfl]
                  rw [me156u] at k
                  replace k := zk_t (by rw [i32_le, z32_0]; omega) k
                  unfold B_X12_readSuit_68 at k
                  replace k := zk_o3 k
                  obtain ⟨mr_24, mu_25, mu_26, mh157, k⟩ := k
                  obtain ⟨mq158, mq159, mq160⟩ := mb_takesP (mk145).1 mh157
                  replace mq158 := mq158.symm
                  subst mq158
                  replace mq159 := mq159.symm
                  subst mq159
                  replace mq160 := mq160.symm
                  subst mq160
                  replace k := zk_t (by decide) k
                  replace k := Option.some.inj k
                  rw [← k]
                  subst me142
                  subst me156
                  exact Or.inl ⟨(mk145).1, rfl, ⟨by intro j hj; first | rfl | exact upd_n hj | exact (upd_n hj).trans (upd_n hj), by intro j hj; first | rfl | exact upd_n hj | exact (upd_n hj).trans (upd_n hj), by intro j hj; first | rfl | exact upd_n hj | exact (upd_n hj).trans (upd_n hj), by intro j hj; first | rfl | exact upd_n hj | exact (upd_n hj).trans (upd_n hj), by intro j hj; first | rfl | exact upd_n hj | exact (upd_n hj).trans (upd_n hj), by intro j hj; first | rfl | exact upd_n hj | exact (upd_n hj).trans (upd_n hj), by intro j hj; first | rfl | exact upd_n hj | exact (upd_n hj).trans (upd_n hj), by intro j hj; first | rfl | exact upd_n hj | exact (upd_n hj).trans (upd_n hj), fun _ _ => rfl, fun _ _ => rfl⟩⟩
              · exact (mk144 ck37).elim
            · exfalso; omega
            · exact (zx_2 ck2 mk136).elim
          · replace h := zk_f cc75 h
            have cc75n := cc75
            (try simp only [i32_lt, i32_le, i32_e, z32_0, z32_1, z32L_2] at cc75n)
            unfold B_X8_readSides_72 at h
            replace h := zk_o1 h
            obtain ⟨cu_19, ch81, h⟩ := h
            obtain cq82 := cb_judgeP (ck38).1 ch81
            replace cq82 := cq82.symm
            subst cq82
            replace h := zk_o2 h
            obtain ⟨cu_21, cu_22, ch83, h⟩ := h
            obtain ⟨cq84, cq85⟩ := cb_expectP (ck38).1 ch83
            replace cq84 := cq84.symm
            subst cq84
            replace cq85 := cq85.symm
            subst cq85
            simp only [Option.some.injEq, Prod.mk.injEq] at h
            obtain ⟨rfl, rfl, rfl, rfl, rfl⟩ := h
            replace k := zk_o3 k
            obtain ⟨mr_1, mu_2, mu_3, mh161, k⟩ := k
            rcases mb_number2 (m := 20) hT hR hf hp (by decide) mh161 with ⟨mk162, mk163, mq165, mq166, mq167, mk164⟩ | ⟨mk162, mk163, _, _, _, mk164⟩ | ⟨mk162, _, _, _⟩
            · replace mq165 := mq165.symm
              subst mq165
              replace mq166 := mq166.symm
              subst mq166
              replace mq167 := mq167.symm
              subst mq167
              have mk164a := mk164.1
              have mk164b := nmv_b2 (ts := ts) (tb := tb) at_
              replace k := zk_gd k
              obtain ⟨_, k⟩ := k
              replace k := zk_lt k
              obtain ⟨mf_6, me168, k⟩ := k
              have me168u : mf_6 x1.toNatClampNeg = (nmv ts tb 2 at_) := by rw [me168]; unfold upd; rw [if_pos rfl]
              rw [me168u] at k
              replace k := zk_o3 k
              obtain ⟨mr_7, mu_8, mu_9, mh169, k⟩ := k
              rcases mb_takesN (n := 62) hT hR hf mk164 (by decide) mh169 with ⟨mk170, mq172, mq173, mq174, mk171⟩ | ⟨mk170, _, _, _⟩
              · replace mq172 := mq172.symm
                subst mq172
                replace mq173 := mq173.symm
                subst mq173
                replace mq174 := mq174.symm
                subst mq174
                have mk171a := mk171.1
                replace k := zk_f (by decide) k
                replace k := zk_o3 k
                obtain ⟨mr_12, mu_13, mu_14, mh175, k⟩ := k
                rcases mb_number2 (m := 20) hT hR hf mk171 (by decide) mh175 with ⟨mk176, mk177, _, _, _, mk178⟩ | ⟨mk176, mk177, _, _, _, mk178⟩ | ⟨mk176, mq179, mq180, mq181⟩
                · exact (zx_2 mk176 ck44).elim
                · exact (zx_2 mk176 ck44).elim
                · replace mq179 := mq179.symm
                  subst mq179
                  replace mq180 := mq180.symm
                  subst mq180
                  replace mq181 := mq181.symm
                  subst mq181
                  replace k := zk_gd k
                  obtain ⟨_, k⟩ := k
                  replace k := zk_lt k
                  obtain ⟨mf_17, me182, k⟩ := k
                  have me182u : mf_17 x1.toNatClampNeg = (0 : Int32) := by rw [me182]; unfold upd; rw [if_pos rfl]
                  rw [me182u] at k
                  replace k := zk_t (by rw [i32_le, z32_0]; omega) k
                  unfold B_X12_readSuit_68 at k
                  replace k := zk_o3 k
                  obtain ⟨mr_24, mu_25, mu_26, mh183, k⟩ := k
                  obtain ⟨mq184, mq185, mq186⟩ := mb_takesP (mk171).1 mh183
                  replace mq184 := mq184.symm
                  subst mq184
                  replace mq185 := mq185.symm
                  subst mq185
                  replace mq186 := mq186.symm
                  subst mq186
                  replace k := zk_t (by decide) k
                  replace k := Option.some.inj k
                  rw [← k]
                  subst me168
                  subst me182
                  exact Or.inl ⟨(mk171).1, rfl, ⟨by intro j hj; first | rfl | exact upd_n hj | exact (upd_n hj).trans (upd_n hj), by intro j hj; first | rfl | exact upd_n hj | exact (upd_n hj).trans (upd_n hj), by intro j hj; first | rfl | exact upd_n hj | exact (upd_n hj).trans (upd_n hj), by intro j hj; first | rfl | exact upd_n hj | exact (upd_n hj).trans (upd_n hj), by intro j hj; first | rfl | exact upd_n hj | exact (upd_n hj).trans (upd_n hj), by intro j hj; first | rfl | exact upd_n hj | exact (upd_n hj).trans (upd_n hj), by intro j hj; first | rfl | exact upd_n hj | exact (upd_n hj).trans (upd_n hj), by intro j hj; first | rfl | exact upd_n hj | exact (upd_n hj).trans (upd_n hj), fun _ _ => rfl, fun _ _ => rfl⟩⟩
              · exact (mk170 ck37).elim
            · exfalso; omega
            · exact (zx_2 ck2 mk162).elim
      · replace cq41 := cq41.symm
        subst cq41
        replace cq42 := cq42.symm
        subst cq42
        replace h := zk_o4 h
        obtain ⟨cr_12, cu_13, cu_14, cu_15, ch86, h⟩ := h
        obtain ⟨cq87, cq88, cq89, cq90⟩ := cb_numberP2 (ck3).1 ch86
        replace cq87 := cq87.symm
        subst cq87
        replace cq88 := cq88.symm
        subst cq88
        replace cq89 := cq89.symm
        subst cq89
        replace cq90 := cq90.symm
        subst cq90
        replace h := zk_f (by decide) h
        by_cases cc91 : (0 : Int32) = (nmv ts tb 2 at_)
        · replace h := zk_t cc91 h
          have cc91n := cc91
          (try simp only [i32_lt, i32_le, i32_e, z32_0, z32_1, z32L_2] at cc91n)
          unfold B_X8_readSides_71 at h
          unfold B_X8_readSides_72 at h
          replace h := zk_o1 h
          obtain ⟨cu_19, ch92, h⟩ := h
          obtain cq93 := cb_judgeP (ck3).1 ch92
          replace cq93 := cq93.symm
          subst cq93
          replace h := zk_o2 h
          obtain ⟨cu_21, cu_22, ch94, h⟩ := h
          obtain ⟨cq95, cq96⟩ := cb_expectP (ck3).1 ch94
          replace cq95 := cq95.symm
          subst cq95
          replace cq96 := cq96.symm
          subst cq96
          simp only [Option.some.injEq, Prod.mk.injEq] at h
          obtain ⟨rfl, rfl, rfl, rfl, rfl⟩ := h
          replace k := zk_o3 k
          obtain ⟨mr_1, mu_2, mu_3, mh187, k⟩ := k
          rcases mb_number2 (m := 20) hT hR hf hp (by decide) mh187 with ⟨mk188, mk189, mq191, mq192, mq193, mk190⟩ | ⟨mk188, mk189, _, _, _, mk190⟩ | ⟨mk188, _, _, _⟩
          · replace mq191 := mq191.symm
            subst mq191
            replace mq192 := mq192.symm
            subst mq192
            replace mq193 := mq193.symm
            subst mq193
            have mk190a := mk190.1
            have mk190b := nmv_b2 (ts := ts) (tb := tb) at_
            replace k := zk_gd k
            obtain ⟨_, k⟩ := k
            replace k := zk_lt k
            obtain ⟨mf_6, me194, k⟩ := k
            have me194u : mf_6 x1.toNatClampNeg = (nmv ts tb 2 at_) := by rw [me194]; unfold upd; rw [if_pos rfl]
            rw [me194u] at k
            replace k := zk_o3 k
            obtain ⟨mr_7, mu_8, mu_9, mh195, k⟩ := k
            rcases mb_takesN (n := 62) hT hR hf mk190 (by decide) mh195 with ⟨mk196, _, _, _, mk197⟩ | ⟨mk196, mq198, mq199, mq200⟩
            · exact (ck37 mk196).elim
            · replace mq198 := mq198.symm
              subst mq198
              replace mq199 := mq199.symm
              subst mq199
              replace mq200 := mq200.symm
              subst mq200
              replace k := zk_t (by decide) k
              replace k := Option.some.inj k
              rw [← k]
              subst me194
              exact Or.inl ⟨(mk190).1, rfl, ⟨by intro j hj; first | rfl | exact upd_n hj | exact (upd_n hj).trans (upd_n hj), by intro j hj; first | rfl | exact upd_n hj | exact (upd_n hj).trans (upd_n hj), by intro j hj; first | rfl | exact upd_n hj | exact (upd_n hj).trans (upd_n hj), by intro j hj; first | rfl | exact upd_n hj | exact (upd_n hj).trans (upd_n hj), by intro j hj; first | rfl | exact upd_n hj | exact (upd_n hj).trans (upd_n hj), by intro j hj; first | rfl | exact upd_n hj | exact (upd_n hj).trans (upd_n hj), by intro j hj; first | rfl | exact upd_n hj | exact (upd_n hj).trans (upd_n hj), by intro j hj; first | rfl | exact upd_n hj | exact (upd_n hj).trans (upd_n hj), fun _ _ => rfl, fun _ _ => rfl⟩⟩
          · exfalso; omega
          · exact (zx_2 ck2 mk188).elim
        · replace h := zk_f cc91 h
          have cc91n := cc91
          (try simp only [i32_lt, i32_le, i32_e, z32_0, z32_1, z32L_2] at cc91n)
          unfold B_X8_readSides_72 at h
          replace h := zk_o1 h
          obtain ⟨cu_19, ch97, h⟩ := h
          obtain cq98 := cb_judgeP (ck3).1 ch97
          replace cq98 := cq98.symm
          subst cq98
          replace h := zk_o2 h
          obtain ⟨cu_21, cu_22, ch99, h⟩ := h
          obtain ⟨cq100, cq101⟩ := cb_expectP (ck3).1 ch99
          replace cq100 := cq100.symm
          subst cq100
          replace cq101 := cq101.symm
          subst cq101
          simp only [Option.some.injEq, Prod.mk.injEq] at h
          obtain ⟨rfl, rfl, rfl, rfl, rfl⟩ := h
          replace k := zk_o3 k
          obtain ⟨mr_1, mu_2, mu_3, mh201, k⟩ := k
          rcases mb_number2 (m := 20) hT hR hf hp (by decide) mh201 with ⟨mk202, mk203, mq205, mq206, mq207, mk204⟩ | ⟨mk202, mk203, _, _, _, mk204⟩ | ⟨mk202, _, _, _⟩
          · replace mq205 := mq205.symm
            subst mq205
            replace mq206 := mq206.symm
            subst mq206
            replace mq207 := mq207.symm
            subst mq207
            have mk204a := mk204.1
            have mk204b := nmv_b2 (ts := ts) (tb := tb) at_
            replace k := zk_gd k
            obtain ⟨_, k⟩ := k
            replace k := zk_lt k
            obtain ⟨mf_6, me208, k⟩ := k
            have me208u : mf_6 x1.toNatClampNeg = (nmv ts tb 2 at_) := by rw [me208]; unfold upd; rw [if_pos rfl]
            rw [me208u] at k
            replace k := zk_o3 k
            obtain ⟨mr_7, mu_8, mu_9, mh209, k⟩ := k
            rcases mb_takesN (n := 62) hT hR hf mk204 (by decide) mh209 with ⟨mk210, _, _, _, mk211⟩ | ⟨mk210, mq212, mq213, mq214⟩
            · exact (ck37 mk210).elim
            · replace mq212 := mq212.symm
              subst mq212
              replace mq213 := mq213.symm
              subst mq213
              replace mq214 := mq214.symm
              subst mq214
              replace k := zk_t (by decide) k
              replace k := Option.some.inj k
              rw [← k]
              subst me208
              exact Or.inl ⟨(mk204).1, rfl, ⟨by intro j hj; first | rfl | exact upd_n hj | exact (upd_n hj).trans (upd_n hj), by intro j hj; first | rfl | exact upd_n hj | exact (upd_n hj).trans (upd_n hj), by intro j hj; first | rfl | exact upd_n hj | exact (upd_n hj).trans (upd_n hj), by intro j hj; first | rfl | exact upd_n hj | exact (upd_n hj).trans (upd_n hj), by intro j hj; first | rfl | exact upd_n hj | exact (upd_n hj).trans (upd_n hj), by intro j hj; first | rfl | exact upd_n hj | exact (upd_n hj).trans (upd_n hj), by intro j hj; first | rfl | exact upd_n hj | exact (upd_n hj).trans (upd_n hj), by intro j hj; first | rfl | exact upd_n hj | exact (upd_n hj).trans (upd_n hj), fun _ _ => rfl, fun _ _ => rfl⟩⟩
          · exfalso; omega
          · exact (zx_2 ck2 mk202).elim
  · replace cq8 := cq8.symm
    subst cq8
    replace cq9 := cq9.symm
    subst cq9
    replace cq10 := cq10.symm
    subst cq10
    replace cq11 := cq11.symm
    subst cq11
    replace h := zk_f (by decide) h
    unfold B_X8_readSides_24 at h
    replace h := zk_o1 h
    obtain ⟨cu_7, ch102, h⟩ := h
    obtain cq103 := cb_judgeP (hp).1 ch102
    replace cq103 := cq103.symm
    subst cq103
    replace h := zk_o2 h
    obtain ⟨cu_9, cu_10, ch104, h⟩ := h
    obtain ⟨cq105, cq106⟩ := cb_expectP (hp).1 ch104
    replace cq105 := cq105.symm
    subst cq105
    replace cq106 := cq106.symm
    subst cq106
    replace h := zk_o4 h
    obtain ⟨cr_12, cu_13, cu_14, cu_15, ch107, h⟩ := h
    obtain ⟨cq108, cq109, cq110, cq111⟩ := cb_numberP2 (hp).1 ch107
    replace cq108 := cq108.symm
    subst cq108
    replace cq109 := cq109.symm
    subst cq109
    replace cq110 := cq110.symm
    subst cq110
    replace cq111 := cq111.symm
    subst cq111
    replace h := zk_f (by decide) h
    replace h := zk_t (by decide) h
    unfold B_X8_readSides_71 at h
    unfold B_X8_readSides_72 at h
    replace h := zk_o1 h
    obtain ⟨cu_19, ch112, h⟩ := h
    obtain cq113 := cb_judgeP (hp).1 ch112
    replace cq113 := cq113.symm
    subst cq113
    replace h := zk_o2 h
    obtain ⟨cu_21, cu_22, ch114, h⟩ := h
    obtain ⟨cq115, cq116⟩ := cb_expectP (hp).1 ch114
    replace cq115 := cq115.symm
    subst cq115
    replace cq116 := cq116.symm
    subst cq116
    simp only [Option.some.injEq, Prod.mk.injEq] at h
    obtain ⟨rfl, rfl, rfl, rfl, rfl⟩ := h
    replace k := zk_o3 k
    obtain ⟨mr_1, mu_2, mu_3, mh215, k⟩ := k
    rcases mb_number2 (m := 20) hT hR hf hp (by decide) mh215 with ⟨mk216, mk217, _, _, _, mk218⟩ | ⟨mk216, mk217, _, _, _, mk218⟩ | ⟨mk216, mq219, mq220, mq221⟩
    · exact (zx_2 mk216 ck2).elim
    · exact (zx_2 mk216 ck2).elim
    · replace mq219 := mq219.symm
      subst mq219
      replace mq220 := mq220.symm
      subst mq220
      replace mq221 := mq221.symm
      subst mq221
      replace k := zk_gd k
      obtain ⟨_, k⟩ := k
      replace k := zk_lt k
      obtain ⟨mf_6, me222, k⟩ := k
      have me222u : mf_6 x1.toNatClampNeg = (0 : Int32) := by rw [me222]; unfold upd; rw [if_pos rfl]
      rw [me222u] at k
      replace k := zk_o3 k
      obtain ⟨mr_7, mu_8, mu_9, mh223, k⟩ := k
      obtain ⟨mq224, mq225, mq226⟩ := mb_takesP (hp).1 mh223
      replace mq224 := mq224.symm
      subst mq224
      replace mq225 := mq225.symm
      subst mq225
      replace mq226 := mq226.symm
      subst mq226
      replace k := zk_t (by decide) k
      replace k := Option.some.inj k
      rw [← k]
      subst me222
      exact Or.inl ⟨(hp).1, rfl, ⟨by intro j hj; first | rfl | exact upd_n hj | exact (upd_n hj).trans (upd_n hj), by intro j hj; first | rfl | exact upd_n hj | exact (upd_n hj).trans (upd_n hj), by intro j hj; first | rfl | exact upd_n hj | exact (upd_n hj).trans (upd_n hj), by intro j hj; first | rfl | exact upd_n hj | exact (upd_n hj).trans (upd_n hj), by intro j hj; first | rfl | exact upd_n hj | exact (upd_n hj).trans (upd_n hj), by intro j hj; first | rfl | exact upd_n hj | exact (upd_n hj).trans (upd_n hj), by intro j hj; first | rfl | exact upd_n hj | exact (upd_n hj).trans (upd_n hj), by intro j hj; first | rfl | exact upd_n hj | exact (upd_n hj).trans (upd_n hj), fun _ _ => rfl, fun _ _ => rfl⟩⟩
