
theorem pe_in (x lo hi : Int32) : f_X12_in x lo hi = some ((if x < lo ∨ hi < x then (0 : Int32) else 1), ()) := by
  unfold f_X12_in B_X12_in_0
  by_cases h1 : x < lo
  · rw [if_pos h1, if_pos (Or.inl h1)]
  · by_cases h2 : hi < x
    · rw [if_neg h1, if_pos h2, if_pos (Or.inr h2)]
    · rw [if_neg h1, if_neg h2, if_neg (fun z => z.elim h1 h2)]
def bz (ts : Int32) (tb : Nat → Int32) (x : Int32) : Int32 := if x < 0 then -1 else if ts ≤ x then -1 else tb x.toNatClampNeg
def bZ (ts : Int32) (tb : Nat → Int32) (x : Int32) : Int := (bz ts tb x).toInt
def PB (ts x : Int32) : Prop := 0 ≤ x.toInt ∧ x.toInt ≤ ts.toInt
def TR (ts : Int32) (tb tm : Nat → Int32) : Prop := ∀ k, k < ts.toInt.toNat → (0 ≤ (tb k).toInt ∧ (tb k).toInt ≤ 127 ∧ tm k = tb k) ∨ (128 ≤ (tb k).toInt ∧ (tm k).toInt < 0 ∧ -128 ≤ (tm k).toInt)
def BR (b r : Int32) : Prop := (0 ≤ b.toInt ∧ b.toInt ≤ 127 ∧ r = b) ∨ ((b.toInt < 0 ∨ 128 ≤ b.toInt) ∧ r.toInt < 0 ∧ -128 ≤ r.toInt)
def TS (ts : Int32) : Prop := 0 ≤ ts.toInt ∧ ts.toInt ≤ 120
theorem i32_lt {a b : Int32} : a < b ↔ a.toInt < b.toInt := Int32.lt_iff_toInt_lt
theorem i32_le {a b : Int32} : a ≤ b ↔ a.toInt ≤ b.toInt := Int32.le_iff_toInt_le
theorem i32_e {a b : Int32} : a = b ↔ a.toInt = b.toInt := Int32.toInt_inj.symm
theorem z32_0 : (0 : Int32).toInt = 0 := by decide
theorem z32_1 : (1 : Int32).toInt = 1 := by decide
theorem i32_s {a : Int32} (h : 0 ≤ a.toInt ∧ a.toInt ≤ 100000) : (a + 1).toInt = a.toInt + 1 := by
  rw [Int32.toInt_add, z32_1]
  exact zi_bm2 (by omega) (by omega)
theorem PB_s {ts at_ : Int32} {tb : Nat → Int32} (hT : TS ts) (h : PB ts at_) (hb : 0 ≤ bZ ts tb at_) : PB ts (at_ + 1) := by
  have h1 : at_.toInt < ts.toInt := by
    by_cases c : ts ≤ at_
    · exfalso
      unfold bZ bz at hb
      by_cases c2 : at_ < 0
      · rw [if_pos c2] at hb
        exact absurd hb (by decide)
      · rw [if_neg c2, if_pos c] at hb
        exact absurd hb (by decide)
    · rw [i32_le] at c
      omega
  obtain ⟨t1, t2⟩ := hT
  obtain ⟨p1, p2⟩ := h
  have e := i32_s (a := at_) (by omega)
  unfold PB
  omega
set_option maxHeartbeats 4000000 in
set_option maxRecDepth 20000 in
theorem cb_byte {ts : Int32} {tb : Nat → Int32} {x1 r : Int32} {u : Unit} (hT : TS ts) (h : f_X9_byteAt x1 ts tb = some (r, u)) : r = bz ts tb x1 := by
  unfold f_X9_byteAt B_X9_byteAt_0 at h
  unfold bz
  by_cases c1 : x1 < 0
  · rw [if_pos c1]
    exact (congrArg Prod.fst (Option.some.inj (zk_t c1 h))).symm
  · replace h := zk_f c1 h
    rw [if_neg c1]
    by_cases c2 : ts ≤ x1
    · rw [if_pos c2]
      exact (congrArg Prod.fst (Option.some.inj (zk_t c2 h))).symm
    · replace h := zk_f c2 h
      rw [if_neg c2]
      have c3 : ¬ (120 : Int32) ≤ x1 := by
        rw [i32_le] at c2 ⊢
        have e : (120 : Int32).toInt = 120 := by decide
        have := hT.2
        omega
      replace h := zk_f c3 h
      replace h := zk_gd h
      obtain ⟨_, h⟩ := h
      exact (congrArg Prod.fst (Option.some.inj h)).symm
set_option maxHeartbeats 4000000 in
set_option maxRecDepth 20000 in
theorem cb_dig {ts : Int32} {tb : Nat → Int32} {x1 r : Int32} {u : Unit} (hT : TS ts) (h : f_X9_isDigitAt x1 ts tb = some (r, u)) : (48 ≤ bZ ts tb x1 ∧ bZ ts tb x1 ≤ 57 ∧ r = 1) ∨ ((bZ ts tb x1 < 48 ∨ 57 < bZ ts tb x1) ∧ r = 0) := by
  unfold f_X9_isDigitAt B_X9_isDigitAt_0 at h
  replace h := zk_o2 h
  obtain ⟨r1, u1, h1, h⟩ := h
  have e := cb_byte hT h1
  have e48 : (48 : Int32).toInt = 48 := by decide
  have e57 : (57 : Int32).toInt = 57 := by decide
  unfold bZ
  rw [← e]
  by_cases c1 : r1 < (48 : Int32)
  · replace h := (congrArg Prod.fst (Option.some.inj (zk_t c1 h))).symm
    rw [i32_lt] at c1
    exact Or.inr ⟨Or.inl (by omega), h⟩
  · replace h := zk_f c1 h
    by_cases c2 : (57 : Int32) < r1
    · replace h := (congrArg Prod.fst (Option.some.inj (zk_t c2 h))).symm
      rw [i32_lt] at c2
      exact Or.inr ⟨Or.inr (by omega), h⟩
    · replace h := (congrArg Prod.fst (Option.some.inj (zk_f c2 h))).symm
      rw [i32_lt] at c1 c2
      exact Or.inl ⟨by omega, by omega, h⟩
set_option maxHeartbeats 4000000 in
set_option maxRecDepth 20000 in
theorem cb_judge {at_ : Int32} {f : Int32} {sp : Value} {na : Int32} {x1 x2 u : Int32} (h : f_X8_judge x1 x2 sp at_ na f = some u) : (x1 = 0 ∧ f.toInt < 0 ∧ u = x2) ∨ ((x1.toInt ≠ 0 ∨ 0 ≤ f.toInt) ∧ u = f) := by
  unfold f_X8_judge B_X8_judge_0 at h
  by_cases c1 : x1 = 0
  · replace h := zk_t c1 h
    by_cases c2 : 0 ≤ f
    · replace h := (Option.some.inj (zk_t c2 h)).symm
      rw [i32_le, z32_0] at c2
      exact Or.inr ⟨Or.inr c2, h⟩
    · replace h := (Option.some.inj (zk_f c2 h)).symm
      rw [i32_le, z32_0] at c2
      exact Or.inl ⟨c1, by omega, h⟩
  · replace h := (Option.some.inj (zk_f c1 h)).symm
    rw [i32_e, z32_0] at c1
    exact Or.inr ⟨Or.inl c1, h⟩
set_option maxHeartbeats 4000000 in
set_option maxRecDepth 20000 in
theorem cb_accept {ts : Int32} {at_ : Int32} {f : Int32} {tb : Nat → Int32} {sp : Value} {na : Int32} {x1 r u : Int32} {n : Int} (hT : TS ts) (hp : PB ts at_) (hn : x1.toInt = n ∧ 0 ≤ n) (h : f_X8_accept x1 ts tb sp at_ na f = some (r, u)) : (f.toInt < 0 ∧ bZ ts tb at_ = n ∧ r = 1 ∧ u = at_ + 1 ∧ PB ts (at_ + 1)) ∨ ((0 ≤ f.toInt ∨ bZ ts tb at_ ≠ n) ∧ r = 0 ∧ u = at_) := by
  unfold f_X8_accept B_X8_accept_0 at h
  by_cases c1 : 0 ≤ f
  · replace h := Option.some.inj (zk_t c1 h)
    rw [i32_le, z32_0] at c1
    exact Or.inr ⟨Or.inl c1, (congrArg Prod.fst h).symm, (congrArg Prod.snd h).symm⟩
  · replace h := zk_f c1 h
    rw [i32_le, z32_0] at c1
    replace h := zk_o2 h
    obtain ⟨r1, u1, h1, h⟩ := h
    have e := cb_byte hT h1
    by_cases c2 : r1 = x1
    · replace h := zk_t c2 h
      replace h := zk_lt h
      obtain ⟨v, ev, h⟩ := h
      replace h := Option.some.inj h
      have hb : bZ ts tb at_ = n := by unfold bZ; rw [← e, c2]; exact hn.1
      exact Or.inl ⟨by omega, hb, (congrArg Prod.fst h).symm, by rw [← ev]; exact (congrArg Prod.snd h).symm, PB_s hT hp (by rw [hb]; exact hn.2)⟩
    · replace h := Option.some.inj (zk_f c2 h)
      have hb : bZ ts tb at_ ≠ n := by
        unfold bZ
        rw [← e]
        intro z
        exact c2 (Int32.toInt_inj.mp (z.trans hn.1.symm))
      exact Or.inr ⟨Or.inr hb, (congrArg Prod.fst h).symm, (congrArg Prod.snd h).symm⟩
set_option maxHeartbeats 4000000 in
set_option maxRecDepth 20000 in
theorem cb_expect {ts : Int32} {f : Int32} {tb : Nat → Int32} {sp : Value} {na : Int32} {at_ x1 u v : Int32} {n : Int} (hT : TS ts) (hp : PB ts at_) (hn : x1.toInt = n ∧ 0 ≤ n) (h : f_X8_expect x1 ts tb sp at_ na f = some (u, v)) : (f.toInt < 0 ∧ bZ ts tb at_ = n ∧ u = at_ + 1 ∧ v = f ∧ PB ts (at_ + 1)) ∨ (f.toInt < 0 ∧ bZ ts tb at_ ≠ n ∧ u = at_ ∧ v = at_) ∨ (0 ≤ f.toInt ∧ u = at_ ∧ v = f) := by
  unfold f_X8_expect B_X8_expect_0 at h
  replace h := zk_o2 h
  obtain ⟨r1, u1, h1, h⟩ := h
  rcases cb_accept hT hp hn h1 with ⟨a1, a2, rfl, rfl, a3⟩ | ⟨a1, g1, g2⟩
  · replace h := Option.some.inj (zk_f (by decide) h)
    exact Or.inl ⟨a1, a2, (congrArg Prod.fst h).symm, (congrArg Prod.snd h).symm, a3⟩
  · replace g2 := g2.symm
    subst g1
    subst g2
    replace h := zk_t rfl h
    replace h := zk_o1 h
    obtain ⟨v1, h2, h⟩ := h
    replace h := Option.some.inj h
    have e1 := (congrArg Prod.fst h).symm
    have e2 := (congrArg Prod.snd h).symm
    dsimp only at e1 e2
    rcases cb_judge h2 with ⟨b1, b2, b3⟩ | ⟨b1, b3⟩
    · rcases a1 with a1 | a1
      · omega
      · exact Or.inr (Or.inl ⟨b2, a1, e1, e2.trans b3⟩)
    · rcases b1 with b1 | b1
      · exact absurd z32_0 b1
      · exact Or.inr (Or.inr ⟨b1, e1, e2.trans b3⟩)
set_option maxHeartbeats 4000000 in
set_option maxRecDepth 20000 in
theorem mb_look {mod_code : Int32} {court_shoeCount : Int32} {mod_claims : Int32} {ts : Int32} {f : Int32} {court_suitCount : Int32} {mod_doneMany : Int32} {mod_undoneMany : Int32} {mod_open : Int32} {mod_laid : Int32} {mod_isBoth : Int32} {mod_wished : Int32} {mod_bestMany : Int32} {mod_bestRow : Int32} {mod_ringDigits : Int32} {mod_traces : Int32} {tm : Nat → Int32} {tb : Nat → Int32} {at_ r : Int32} {u : Unit} (hT : TS ts) (hR : TR ts tb tm) (hp : PB ts at_) (h : f_X12_look mod_code court_shoeCount mod_claims ts at_ f court_suitCount mod_doneMany mod_undoneMany mod_open mod_laid mod_isBoth mod_wished mod_bestMany mod_bestRow mod_ringDigits mod_traces tm = some (r, u)) : BR (bz ts tb at_) r := by
  unfold f_X12_look B_X12_look_0 at h
  have c0 : ¬ at_ < 0 := by
    rw [i32_lt, z32_0]
    have := hp.1
    omega
  unfold bz
  rw [if_neg c0]
  by_cases c1 : ts ≤ at_
  · rw [if_pos c1]
    replace h := (congrArg Prod.fst (Option.some.inj (zk_t c1 h))).symm
    dsimp only at h
    subst h
    exact Or.inr ⟨Or.inl (by decide), by decide, by decide⟩
  · rw [if_neg c1]
    replace h := zk_f c1 h
    replace h := zk_gd h
    obtain ⟨_, h⟩ := h
    replace h := (congrArg Prod.fst (Option.some.inj h)).symm
    dsimp only at h
    subst h
    have ct : at_.toNatClampNeg < ts.toInt.toNat := by
      have e : at_.toNatClampNeg = at_.toInt.toNat := rfl
      rw [i32_le] at c1
      have := hp.1
      omega
    rcases hR at_.toNatClampNeg ct with ⟨a1, a2, a3⟩ | ⟨a1, a2⟩
    · exact Or.inl ⟨a1, a2, a3⟩
    · exact Or.inr ⟨Or.inr a1, a2⟩
theorem BR_e {b r c : Int32} {n : Int} (h : BR b r) (hc : c.toInt = n ∧ 0 ≤ n ∧ n ≤ 127) : (r = c ↔ b.toInt = n) := by
  rw [i32_e, hc.1]
  rcases h with ⟨h1, h2, rfl⟩ | ⟨h1, h2⟩
  · exact Iff.rfl
  · constructor
    · intro z; omega
    · intro z; omega
theorem BR_i {b r : Int32} (h : BR b r) (lo hi : Int) (h0 : 0 ≤ lo) (h1 : hi ≤ 127) : (lo ≤ r.toInt ∧ r.toInt ≤ hi) ↔ (lo ≤ b.toInt ∧ b.toInt ≤ hi) := by
  rcases h with ⟨_, _, rfl⟩ | ⟨h2, h3⟩
  · exact Iff.rfl
  · omega
set_option maxHeartbeats 4000000 in
set_option maxRecDepth 20000 in
theorem mb_isNext {mod_code : Int32} {court_shoeCount : Int32} {mod_claims : Int32} {ts : Int32} {f : Int32} {court_suitCount : Int32} {mod_doneMany : Int32} {mod_undoneMany : Int32} {mod_open : Int32} {mod_laid : Int32} {mod_isBoth : Int32} {mod_wished : Int32} {mod_bestMany : Int32} {mod_bestRow : Int32} {mod_ringDigits : Int32} {mod_traces : Int32} {tm : Nat → Int32} {tb : Nat → Int32} {at_ x1 r u : Int32} {n : Int} (hT : TS ts) (hR : TR ts tb tm) (hp : PB ts at_) (hn : x1.toInt = n ∧ 0 ≤ n ∧ n ≤ 127) (h : f_X12_isNext x1 mod_code court_shoeCount mod_claims ts at_ f court_suitCount mod_doneMany mod_undoneMany mod_open mod_laid mod_isBoth mod_wished mod_bestMany mod_bestRow mod_ringDigits mod_traces tm = some (r, u)) : (bZ ts tb at_ = n ∧ r = 1 ∧ u = at_ + 1 ∧ PB ts (at_ + 1)) ∨ (bZ ts tb at_ ≠ n ∧ r = 0 ∧ u = at_) := by
  unfold f_X12_isNext B_X12_isNext_0 at h
  replace h := zk_o2 h
  obtain ⟨r1, u1, h1, h⟩ := h
  have e := BR_e (mb_look hT hR hp h1) hn
  by_cases c : r1 = x1
  · replace h := zk_t c h
    replace h := zk_lt h
    obtain ⟨v, ev, h⟩ := h
    replace h := Option.some.inj h
    have hb : bZ ts tb at_ = n := e.mp c
    exact Or.inl ⟨hb, (congrArg Prod.fst h).symm, by rw [← ev]; exact (congrArg Prod.snd h).symm, PB_s hT hp (by rw [hb]; exact hn.2.1)⟩
  · replace h := Option.some.inj (zk_f c h)
    exact Or.inr ⟨fun z => c (e.mpr z), (congrArg Prod.fst h).symm, (congrArg Prod.snd h).symm⟩
set_option maxHeartbeats 4000000 in
set_option maxRecDepth 20000 in
theorem mb_wrongAt {mod_code : Int32} {court_shoeCount : Int32} {mod_claims : Int32} {ts : Int32} {at_ : Int32} {f : Int32} {court_suitCount : Int32} {mod_doneMany : Int32} {mod_undoneMany : Int32} {mod_open : Int32} {mod_laid : Int32} {mod_isBoth : Int32} {mod_wished : Int32} {mod_bestMany : Int32} {mod_bestRow : Int32} {mod_ringDigits : Int32} {mod_traces : Int32} {x1 u : Int32} (h : f_X12_wrongAt x1 mod_code court_shoeCount mod_claims ts at_ f court_suitCount mod_doneMany mod_undoneMany mod_open mod_laid mod_isBoth mod_wished mod_bestMany mod_bestRow mod_ringDigits mod_traces = some u) : (f.toInt < 0 ∧ u = x1) ∨ (0 ≤ f.toInt ∧ u = f) := by
  unfold f_X12_wrongAt B_X12_wrongAt_0 at h
  by_cases c : 0 ≤ f
  · replace h := (Option.some.inj (zk_t c h)).symm
    rw [i32_le, z32_0] at c
    exact Or.inr ⟨c, h⟩
  · replace h := (Option.some.inj (zk_f c h)).symm
    rw [i32_le, z32_0] at c
    exact Or.inl ⟨by omega, h⟩
set_option maxHeartbeats 4000000 in
set_option maxRecDepth 20000 in
theorem mb_wrong {mod_code : Int32} {court_shoeCount : Int32} {mod_claims : Int32} {ts : Int32} {f : Int32} {court_suitCount : Int32} {mod_doneMany : Int32} {mod_undoneMany : Int32} {mod_open : Int32} {mod_laid : Int32} {mod_isBoth : Int32} {mod_wished : Int32} {mod_bestMany : Int32} {mod_bestRow : Int32} {mod_ringDigits : Int32} {mod_traces : Int32} {at_ u : Int32} (h : f_X12_wrong mod_code court_shoeCount mod_claims ts at_ f court_suitCount mod_doneMany mod_undoneMany mod_open mod_laid mod_isBoth mod_wished mod_bestMany mod_bestRow mod_ringDigits mod_traces = some u) : (f.toInt < 0 ∧ u = at_) ∨ (0 ≤ f.toInt ∧ u = f) := by
  unfold f_X12_wrong B_X12_wrong_0 at h
  by_cases c : 0 ≤ f
  · replace h := (Option.some.inj (zk_t c h)).symm
    rw [i32_le, z32_0] at c
    exact Or.inr ⟨c, h⟩
  · replace h := (Option.some.inj (zk_f c h)).symm
    rw [i32_le, z32_0] at c
    exact Or.inl ⟨by omega, h⟩
set_option maxHeartbeats 4000000 in
set_option maxRecDepth 20000 in
theorem mb_takes {mod_code : Int32} {court_shoeCount : Int32} {mod_claims : Int32} {ts : Int32} {f : Int32} {court_suitCount : Int32} {mod_doneMany : Int32} {mod_undoneMany : Int32} {mod_open : Int32} {mod_laid : Int32} {mod_isBoth : Int32} {mod_wished : Int32} {mod_bestMany : Int32} {mod_bestRow : Int32} {mod_ringDigits : Int32} {mod_traces : Int32} {tm : Nat → Int32} {tb : Nat → Int32} {at_ x1 r u v : Int32} {n : Int} (hT : TS ts) (hR : TR ts tb tm) (hp : PB ts at_) (hn : x1.toInt = n ∧ 0 ≤ n ∧ n ≤ 127) (h : f_X12_takes x1 mod_code court_shoeCount mod_claims ts at_ f court_suitCount mod_doneMany mod_undoneMany mod_open mod_laid mod_isBoth mod_wished mod_bestMany mod_bestRow mod_ringDigits mod_traces tm = some (r, u, v)) : (f.toInt < 0 ∧ bZ ts tb at_ = n ∧ r = 1 ∧ u = at_ + 1 ∧ v = f ∧ PB ts (at_ + 1)) ∨ (f.toInt < 0 ∧ bZ ts tb at_ ≠ n ∧ r = 0 ∧ u = at_ ∧ v = at_) ∨ (0 ≤ f.toInt ∧ r = 0 ∧ u = at_ ∧ v = f) := by
  unfold f_X12_takes B_X12_takes_0 at h
  by_cases c1 : f < 0
  · replace h := zk_t c1 h
    rw [i32_lt, z32_0] at c1
    replace h := zk_o2 h
    obtain ⟨r1, u1, h1, h⟩ := h
    have e := BR_e (mb_look hT hR hp h1) hn
    by_cases c : r1 = x1
    · replace h := zk_t c h
      replace h := zk_lt h
      obtain ⟨v1, ev, h⟩ := h
      replace h := Option.some.inj h
      have hb : bZ ts tb at_ = n := e.mp c
      exact Or.inl ⟨c1, hb, (congrArg Prod.fst h).symm, by rw [← ev]; exact (congrArg (fun z => z.2.1) h).symm, (congrArg (fun z => z.2.2) h).symm, PB_s hT hp (by rw [hb]; exact hn.2.1)⟩
    · replace h := zk_f c h
      replace h := zk_o1 h
      obtain ⟨v1, h2, h⟩ := h
      replace h := Option.some.inj h
      rcases mb_wrong h2 with ⟨_, b⟩ | ⟨b, _⟩
      · exact Or.inr (Or.inl ⟨c1, fun z => c (e.mpr z), (congrArg Prod.fst h).symm, (congrArg (fun z => z.2.1) h).symm, (congrArg (fun z => z.2.2) h).symm.trans b⟩)
      · omega
  · replace h := Option.some.inj (zk_f c1 h)
    rw [i32_lt, z32_0] at c1
    exact Or.inr (Or.inr ⟨by omega, (congrArg Prod.fst h).symm, (congrArg (fun z => z.2.1) h).symm, (congrArg (fun z => z.2.2) h).symm⟩)
theorem upd_n {f : Nat → Int32} {k i : Nat} {v : Int32} (h : i ≠ k) : upd f k v i = f i := by
  unfold upd
  rw [if_neg h]
def RFR (i : Nat) (a b : (Nat → Int32) × (Nat → Int32) × (Nat → Int32) × (Nat → Int32) × (Nat → Int32) × (Nat → Int32) × (Nat → Int32) × (Nat → Int32) × (Nat → Int32) × (Nat → Int32)) : Prop := (∀ j, j ≠ i → b.1 j = a.1 j) ∧ (∀ j, j ≠ i → b.2.1 j = a.2.1 j) ∧ (∀ j, j ≠ i → b.2.2.1 j = a.2.2.1 j) ∧ (∀ j, j ≠ i → b.2.2.2.1 j = a.2.2.2.1 j) ∧ (∀ j, j ≠ i → b.2.2.2.2.1 j = a.2.2.2.2.1 j) ∧ (∀ j, j ≠ i → b.2.2.2.2.2.1 j = a.2.2.2.2.2.1 j) ∧ (∀ j, j ≠ i → b.2.2.2.2.2.2.1 j = a.2.2.2.2.2.2.1 j) ∧ (∀ j, j ≠ i → b.2.2.2.2.2.2.2.1 j = a.2.2.2.2.2.2.2.1 j) ∧ (∀ j, (j < 32 * i ∨ 32 * i + 32 ≤ j) → b.2.2.2.2.2.2.2.2.1 j = a.2.2.2.2.2.2.2.2.1 j) ∧ (∀ j, (j < 32 * i ∨ 32 * i + 32 ≤ j) → b.2.2.2.2.2.2.2.2.2 j = a.2.2.2.2.2.2.2.2.2 j)
theorem RFR_rf {i : Nat} {a : (Nat → Int32) × (Nat → Int32) × (Nat → Int32) × (Nat → Int32) × (Nat → Int32) × (Nat → Int32) × (Nat → Int32) × (Nat → Int32) × (Nat → Int32) × (Nat → Int32)} : RFR i a a := ⟨fun _ _ => rfl, fun _ _ => rfl, fun _ _ => rfl, fun _ _ => rfl, fun _ _ => rfl, fun _ _ => rfl, fun _ _ => rfl, fun _ _ => rfl, fun _ _ => rfl, fun _ _ => rfl⟩
theorem RFR_tr {i : Nat} {a b c : (Nat → Int32) × (Nat → Int32) × (Nat → Int32) × (Nat → Int32) × (Nat → Int32) × (Nat → Int32) × (Nat → Int32) × (Nat → Int32) × (Nat → Int32) × (Nat → Int32)} (h : RFR i a b) (h2 : RFR i b c) : RFR i a c := ⟨fun j hj => (h2.1 j hj).trans (h.1 j hj), fun j hj => (h2.2.1 j hj).trans (h.2.1 j hj), fun j hj => (h2.2.2.1 j hj).trans (h.2.2.1 j hj), fun j hj => (h2.2.2.2.1 j hj).trans (h.2.2.2.1 j hj), fun j hj => (h2.2.2.2.2.1 j hj).trans (h.2.2.2.2.1 j hj), fun j hj => (h2.2.2.2.2.2.1 j hj).trans (h.2.2.2.2.2.1 j hj), fun j hj => (h2.2.2.2.2.2.2.1 j hj).trans (h.2.2.2.2.2.2.1 j hj), fun j hj => (h2.2.2.2.2.2.2.2.1 j hj).trans (h.2.2.2.2.2.2.2.1 j hj), fun j hj => (h2.2.2.2.2.2.2.2.2.1 j hj).trans (h.2.2.2.2.2.2.2.2.1 j hj), fun j hj => (h2.2.2.2.2.2.2.2.2.2 j hj).trans (h.2.2.2.2.2.2.2.2.2 j hj)⟩
theorem RFR_rt {i : Nat} {a b c : (Nat → Int32) × (Nat → Int32) × (Nat → Int32) × (Nat → Int32) × (Nat → Int32) × (Nat → Int32) × (Nat → Int32) × (Nat → Int32) × (Nat → Int32) × (Nat → Int32)} (h2 : RFR i b c) (h : RFR i a b) : RFR i a c := RFR_tr h h2
def nmr (ts : Int32) (tb : Nat → Int32) : Nat → Int32 → Int32 → Int32 × Int32
  | 0, v, a => (v, a)
  | k + 1, v, a => if 48 ≤ bZ ts tb a ∧ bZ ts tb a ≤ 57 then nmr ts tb k (v * 10 + bz ts tb a - 48) (a + 1) else (v, a)
def nmv (ts : Int32) (tb : Nat → Int32) (k : Nat) (a : Int32) : Int32 := (nmr ts tb k 0 a).1
def nma (ts : Int32) (tb : Nat → Int32) (k : Nat) (a : Int32) : Int32 := (nmr ts tb k 0 a).2
def nbd : Nat → Int → Int
  | 0, m => m
  | k + 1, m => nbd k (10 * m + 9)
theorem nbd_le : ∀ (k : Nat) (m : Int), 0 ≤ m → m ≤ nbd k m
  | 0, m, _ => Int.le_refl m
  | k + 1, m, h => by
    have := nbd_le k (10 * m + 9) (by omega)
    show m ≤ nbd k (10 * m + 9)
    omega
theorem nmr_PB {ts : Int32} {tb : Nat → Int32} (hT : TS ts) : ∀ (k : Nat) (v a : Int32), PB ts a → PB ts (nmr ts tb k v a).2
  | 0, v, a, h => h
  | k + 1, v, a, h => by
    show PB ts (if 48 ≤ bZ ts tb a ∧ bZ ts tb a ≤ 57 then nmr ts tb k (v * 10 + bz ts tb a - 48) (a + 1) else (v, a)).2
    by_cases c : 48 ≤ bZ ts tb a ∧ bZ ts tb a ≤ 57
    · rw [if_pos c]
      exact nmr_PB hT k _ _ (PB_s (tb := tb) hT h (by omega))
    · rw [if_neg c]
      exact h
theorem nmr_b {ts : Int32} {tb : Nat → Int32} : ∀ (k : Nat) (v a : Int32) (m : Int), 0 ≤ v.toInt → v.toInt ≤ m → nbd k m ≤ 100000 → 0 ≤ (nmr ts tb k v a).1.toInt ∧ (nmr ts tb k v a).1.toInt ≤ nbd k m
  | 0, v, a, m, h0, h1, _ => ⟨h0, h1⟩
  | k + 1, v, a, m, h0, h1, h2 => by
    have h2 : nbd k (10 * m + 9) ≤ 100000 := h2
    have h3 := nbd_le k (10 * m + 9) (by omega)
    show 0 ≤ (if 48 ≤ bZ ts tb a ∧ bZ ts tb a ≤ 57 then nmr ts tb k (v * 10 + bz ts tb a - 48) (a + 1) else (v, a)).1.toInt ∧ (if 48 ≤ bZ ts tb a ∧ bZ ts tb a ≤ 57 then nmr ts tb k (v * 10 + bz ts tb a - 48) (a + 1) else (v, a)).1.toInt ≤ nbd k (10 * m + 9)
    by_cases c : 48 ≤ bZ ts tb a ∧ bZ ts tb a ≤ 57
    · rw [if_pos c]
      have e10 : (10 : Int32).toInt = 10 := by decide
      have e48 : (48 : Int32).toInt = 48 := by decide
      have hb : bZ ts tb a = (bz ts tb a).toInt := rfl
      have e : (v * 10 + bz ts tb a - 48).toInt = v.toInt * 10 + bZ ts tb a - 48 := by
        rw [Int32.toInt_sub, Int32.toInt_add, Int32.toInt_mul, e10, e48, ← hb]
        rw [zi_bm2 (e := v.toInt * 10) (by omega) (by omega), zi_bm2 (e := v.toInt * 10 + bZ ts tb a) (by omega) (by omega), zi_bm2 (by omega) (by omega)]
      exact nmr_b k _ _ (10 * m + 9) (by omega) (by omega) h2
    · rw [if_neg c]
      show 0 ≤ v.toInt ∧ v.toInt ≤ _
      omega
theorem nmv_b1 {ts : Int32} {tb : Nat → Int32} (a : Int32) : 0 ≤ (nmv ts tb 1 a).toInt ∧ (nmv ts tb 1 a).toInt ≤ 9 := nmr_b 1 0 a 0 (by decide) (by decide) (by decide)
theorem nmv_b2 {ts : Int32} {tb : Nat → Int32} (a : Int32) : 0 ≤ (nmv ts tb 2 a).toInt ∧ (nmv ts tb 2 a).toInt ≤ 99 := nmr_b 2 0 a 0 (by decide) (by decide) (by decide)
theorem nmv_b4 {ts : Int32} {tb : Nat → Int32} (a : Int32) : 0 ≤ (nmv ts tb 4 a).toInt ∧ (nmv ts tb 4 a).toInt ≤ 9999 := nmr_b 4 0 a 0 (by decide) (by decide) (by decide)
theorem nma_PB {ts : Int32} {tb : Nat → Int32} (hT : TS ts) (k : Nat) {a : Int32} (h : PB ts a) : PB ts (nma ts tb k a) := nmr_PB hT k 0 a h
theorem nm_digit {ts : Int32} {tb : Nat → Int32} {a : Int32} (h : 48 ≤ bZ ts tb a ∧ bZ ts tb a ≤ 57) : nmv ts tb 1 a = bz ts tb a - 48 ∧ nma ts tb 1 a = a + 1 := by
  unfold nmv nma
  show (if 48 ≤ bZ ts tb a ∧ bZ ts tb a ≤ 57 then nmr ts tb 0 (0 * 10 + bz ts tb a - 48) (a + 1) else (0, a)).1 = _ ∧ (if 48 ≤ bZ ts tb a ∧ bZ ts tb a ≤ 57 then nmr ts tb 0 (0 * 10 + bz ts tb a - 48) (a + 1) else (0, a)).2 = _
  rw [if_pos h]
  refine ⟨?_, rfl⟩
  show (0 : Int32) * 10 + bz ts tb a - 48 = _
  rw [Int32.zero_mul, Int32.zero_add]
set_option maxHeartbeats 4000000 in
set_option maxRecDepth 20000 in
theorem cb_numL {ts : Int32} {f : Int32} {tb : Nat → Int32} {sp : Value} {na : Int32} (hT : TS ts) (hf : f.toInt < 0) : ∀ (n k : Nat) (x1 x3 v a : Int32) (R : Int32 × Int32 × Int32 × Int32), x1.toInt = x3.toInt + (k : Int) → 0 ≤ x3.toInt → x1.toInt ≤ 10 → G_X8_number ts tb sp n x1 v x3 a na f = some R → R = ((nmr ts tb k v a).1, (nmr ts tb k v a).2, na, f) := by
  intro n
  induction n with
  | zero => intro k x1 x3 v a R h1 h2 h3 h; cases h
  | succ n ih =>
    intro k x1 x3 v a R h1 h2 h3 h
    replace h : B_X8_number_31 (G_X8_number ts tb sp n) ts tb sp x1 v x3 a na f = some R := h
    unfold B_X8_number_31 at h
    cases k with
    | zero =>
      have c : x1 ≤ x3 := by rw [i32_le]; omega
      exact (Option.some.inj (zk_t c h)).symm
    | succ k =>
      replace h := zk_f (show ¬ x1 ≤ x3 by rw [i32_le]; omega) h
      replace h := zk_f (show ¬ 0 ≤ f by rw [i32_le, z32_0]; omega) h
      replace h := zk_o2 h
      obtain ⟨r1, u1, a1, h⟩ := h
      show R = ((if 48 ≤ bZ ts tb a ∧ bZ ts tb a ≤ 57 then nmr ts tb k (v * 10 + bz ts tb a - 48) (a + 1) else (v, a)).1, (if 48 ≤ bZ ts tb a ∧ bZ ts tb a ≤ 57 then nmr ts tb k (v * 10 + bz ts tb a - 48) (a + 1) else (v, a)).2, na, f)
      rcases cb_dig hT a1 with ⟨d1, d2, rfl⟩ | ⟨d1, rfl⟩
      · replace h := zk_f (by decide) h
        replace h := zk_o2 h
        obtain ⟨r2, u2, a2, h⟩ := h
        have e := cb_byte hT a2
        subst e
        replace h := zk_lt h
        obtain ⟨v1, e1, h⟩ := h
        replace h := zk_lt h
        obtain ⟨v2, e2, h⟩ := h
        replace h := zk_lt h
        obtain ⟨v3, e3, h⟩ := h
        subst e1
        subst e2
        subst e3
        rw [if_pos ⟨d1, d2⟩]
        have e3 := i32_s (a := x3) (by omega)
        exact ih k x1 _ _ _ R (by omega) (by omega) h3 h
      · replace h := zk_t rfl h
        rw [if_neg (fun z => by omega)]
        exact (Option.some.inj h).symm
set_option maxHeartbeats 4000000 in
set_option maxRecDepth 20000 in
theorem cb_number1 {ts : Int32} {at_ : Int32} {f : Int32} {tb : Nat → Int32} {sp : Value} {na : Int32} {n : Nat} {r u v w : Int32} (hT : TS ts) (hp : PB ts at_) (h : f_X8_number n (1 : Int32) ts tb sp at_ na f = some (r, u, v, w)) : (f.toInt < 0 ∧ (48 ≤ bZ ts tb at_ ∧ bZ ts tb at_ ≤ 57) ∧ r = nmv ts tb 1 at_ ∧ u = nma ts tb 1 at_ ∧ v = at_ ∧ w = f ∧ PB ts (nma ts tb 1 at_)) ∨ (f.toInt < 0 ∧ (bZ ts tb at_ < 48 ∨ 57 < bZ ts tb at_) ∧ r = 0 ∧ u = at_ ∧ v = at_ ∧ w = at_) ∨ (0 ≤ f.toInt ∧ r = 0 ∧ u = at_ ∧ v = at_ ∧ w = f) := by
  unfold f_X8_number B_X8_number_0 at h
  replace h := zk_o2 h
  obtain ⟨r1, u1, a1, h⟩ := h
  replace h := zk_o1 h
  obtain ⟨u2, a2, h⟩ := h
  rcases cb_judge a2 with ⟨b1, b2, e0⟩ | ⟨b1, e0⟩ <;> (have e0 := e0.symm; subst e0)
  · have hd : bZ ts tb at_ < 48 ∨ 57 < bZ ts tb at_ := by
      rcases cb_dig hT a1 with ⟨_, _, d3⟩ | ⟨d1, _⟩
      · rw [b1] at d3; exact absurd d3 (by decide)
      · exact d1
    refine Or.inr (Or.inl ⟨b2, hd, ?_⟩)
    cases n with
    | zero => cases h
    | succ n =>
      replace h : B_X8_number_31 (G_X8_number ts tb sp n) ts tb sp (1 : Int32) 0 0 at_ at_ at_ = some (r, u, v, w) := h
      unfold B_X8_number_31 at h
      replace h := zk_f (show ¬ (1 : Int32) ≤ 0 by decide) h
      replace h := Option.some.inj (zk_t (show 0 ≤ at_ by rw [i32_le, z32_0]; exact hp.1) h)
      exact ⟨(congrArg Prod.fst h).symm, (congrArg (fun z => z.2.1) h).symm, (congrArg (fun z => z.2.2.1) h).symm, (congrArg (fun z => z.2.2.2) h).symm⟩
  · by_cases hf : f.toInt < 0
    · have hd : 48 ≤ bZ ts tb at_ ∧ bZ ts tb at_ ≤ 57 := by
        rcases cb_dig hT a1 with ⟨d1, d2, _⟩ | ⟨_, d3⟩
        · exact ⟨d1, d2⟩
        · rcases b1 with b1 | b1
          · exact absurd (by rw [d3]; decide) b1
          · omega
      have e := cb_numL hT hf n 1 (1 : Int32) 0 0 at_ _ (by decide) (by decide) (by decide) h
      have e1 := congrArg Prod.fst e
      have e2 := congrArg (fun z => z.2.1) e
      have e3 := congrArg (fun z => z.2.2.1) e
      have e4 := congrArg (fun z => z.2.2.2) e
      exact Or.inl ⟨hf, hd, e1, e2, e3, e4, nma_PB hT 1 hp⟩
    · refine Or.inr (Or.inr ⟨by omega, ?_⟩)
      cases n with
      | zero => cases h
      | succ n =>
        replace h : B_X8_number_31 (G_X8_number ts tb sp n) ts tb sp (1 : Int32) 0 0 at_ at_ f = some (r, u, v, w) := h
        unfold B_X8_number_31 at h
        replace h := zk_f (show ¬ (1 : Int32) ≤ 0 by decide) h
        replace h := Option.some.inj (zk_t (show 0 ≤ f by rw [i32_le, z32_0]; omega) h)
        exact ⟨(congrArg Prod.fst h).symm, (congrArg (fun z => z.2.1) h).symm, (congrArg (fun z => z.2.2.1) h).symm, (congrArg (fun z => z.2.2.2) h).symm⟩
set_option maxHeartbeats 4000000 in
set_option maxRecDepth 20000 in
theorem cb_number2 {ts : Int32} {at_ : Int32} {f : Int32} {tb : Nat → Int32} {sp : Value} {na : Int32} {n : Nat} {r u v w : Int32} (hT : TS ts) (hp : PB ts at_) (h : f_X8_number n (2 : Int32) ts tb sp at_ na f = some (r, u, v, w)) : (f.toInt < 0 ∧ (48 ≤ bZ ts tb at_ ∧ bZ ts tb at_ ≤ 57) ∧ r = nmv ts tb 2 at_ ∧ u = nma ts tb 2 at_ ∧ v = at_ ∧ w = f ∧ PB ts (nma ts tb 2 at_)) ∨ (f.toInt < 0 ∧ (bZ ts tb at_ < 48 ∨ 57 < bZ ts tb at_) ∧ r = 0 ∧ u = at_ ∧ v = at_ ∧ w = at_) ∨ (0 ≤ f.toInt ∧ r = 0 ∧ u = at_ ∧ v = at_ ∧ w = f) := by
  unfold f_X8_number B_X8_number_0 at h
  replace h := zk_o2 h
  obtain ⟨r1, u1, a1, h⟩ := h
  replace h := zk_o1 h
  obtain ⟨u2, a2, h⟩ := h
  rcases cb_judge a2 with ⟨b1, b2, e0⟩ | ⟨b1, e0⟩ <;> (have e0 := e0.symm; subst e0)
  · have hd : bZ ts tb at_ < 48 ∨ 57 < bZ ts tb at_ := by
      rcases cb_dig hT a1 with ⟨_, _, d3⟩ | ⟨d1, _⟩
      · rw [b1] at d3; exact absurd d3 (by decide)
      · exact d1
    refine Or.inr (Or.inl ⟨b2, hd, ?_⟩)
    cases n with
    | zero => cases h
    | succ n =>
      replace h : B_X8_number_31 (G_X8_number ts tb sp n) ts tb sp (2 : Int32) 0 0 at_ at_ at_ = some (r, u, v, w) := h
      unfold B_X8_number_31 at h
      replace h := zk_f (show ¬ (2 : Int32) ≤ 0 by decide) h
      replace h := Option.some.inj (zk_t (show 0 ≤ at_ by rw [i32_le, z32_0]; exact hp.1) h)
      exact ⟨(congrArg Prod.fst h).symm, (congrArg (fun z => z.2.1) h).symm, (congrArg (fun z => z.2.2.1) h).symm, (congrArg (fun z => z.2.2.2) h).symm⟩
  · by_cases hf : f.toInt < 0
    · have hd : 48 ≤ bZ ts tb at_ ∧ bZ ts tb at_ ≤ 57 := by
        rcases cb_dig hT a1 with ⟨d1, d2, _⟩ | ⟨_, d3⟩
        · exact ⟨d1, d2⟩
        · rcases b1 with b1 | b1
          · exact absurd (by rw [d3]; decide) b1
          · omega
      have e := cb_numL hT hf n 2 (2 : Int32) 0 0 at_ _ (by decide) (by decide) (by decide) h
      have e1 := congrArg Prod.fst e
      have e2 := congrArg (fun z => z.2.1) e
      have e3 := congrArg (fun z => z.2.2.1) e
      have e4 := congrArg (fun z => z.2.2.2) e
      exact Or.inl ⟨hf, hd, e1, e2, e3, e4, nma_PB hT 2 hp⟩
    · refine Or.inr (Or.inr ⟨by omega, ?_⟩)
      cases n with
      | zero => cases h
      | succ n =>
        replace h : B_X8_number_31 (G_X8_number ts tb sp n) ts tb sp (2 : Int32) 0 0 at_ at_ f = some (r, u, v, w) := h
        unfold B_X8_number_31 at h
        replace h := zk_f (show ¬ (2 : Int32) ≤ 0 by decide) h
        replace h := Option.some.inj (zk_t (show 0 ≤ f by rw [i32_le, z32_0]; omega) h)
        exact ⟨(congrArg Prod.fst h).symm, (congrArg (fun z => z.2.1) h).symm, (congrArg (fun z => z.2.2.1) h).symm, (congrArg (fun z => z.2.2.2) h).symm⟩
set_option maxHeartbeats 4000000 in
set_option maxRecDepth 20000 in
theorem cb_number4 {ts : Int32} {at_ : Int32} {f : Int32} {tb : Nat → Int32} {sp : Value} {na : Int32} {n : Nat} {r u v w : Int32} (hT : TS ts) (hp : PB ts at_) (h : f_X8_number n (4 : Int32) ts tb sp at_ na f = some (r, u, v, w)) : (f.toInt < 0 ∧ (48 ≤ bZ ts tb at_ ∧ bZ ts tb at_ ≤ 57) ∧ r = nmv ts tb 4 at_ ∧ u = nma ts tb 4 at_ ∧ v = at_ ∧ w = f ∧ PB ts (nma ts tb 4 at_)) ∨ (f.toInt < 0 ∧ (bZ ts tb at_ < 48 ∨ 57 < bZ ts tb at_) ∧ r = 0 ∧ u = at_ ∧ v = at_ ∧ w = at_) ∨ (0 ≤ f.toInt ∧ r = 0 ∧ u = at_ ∧ v = at_ ∧ w = f) := by
  unfold f_X8_number B_X8_number_0 at h
  replace h := zk_o2 h
  obtain ⟨r1, u1, a1, h⟩ := h
  replace h := zk_o1 h
  obtain ⟨u2, a2, h⟩ := h
  rcases cb_judge a2 with ⟨b1, b2, e0⟩ | ⟨b1, e0⟩ <;> (have e0 := e0.symm; subst e0)
  · have hd : bZ ts tb at_ < 48 ∨ 57 < bZ ts tb at_ := by
      rcases cb_dig hT a1 with ⟨_, _, d3⟩ | ⟨d1, _⟩
      · rw [b1] at d3; exact absurd d3 (by decide)
      · exact d1
    refine Or.inr (Or.inl ⟨b2, hd, ?_⟩)
    cases n with
    | zero => cases h
    | succ n =>
      replace h : B_X8_number_31 (G_X8_number ts tb sp n) ts tb sp (4 : Int32) 0 0 at_ at_ at_ = some (r, u, v, w) := h
      unfold B_X8_number_31 at h
      replace h := zk_f (show ¬ (4 : Int32) ≤ 0 by decide) h
      replace h := Option.some.inj (zk_t (show 0 ≤ at_ by rw [i32_le, z32_0]; exact hp.1) h)
      exact ⟨(congrArg Prod.fst h).symm, (congrArg (fun z => z.2.1) h).symm, (congrArg (fun z => z.2.2.1) h).symm, (congrArg (fun z => z.2.2.2) h).symm⟩
  · by_cases hf : f.toInt < 0
    · have hd : 48 ≤ bZ ts tb at_ ∧ bZ ts tb at_ ≤ 57 := by
        rcases cb_dig hT a1 with ⟨d1, d2, _⟩ | ⟨_, d3⟩
        · exact ⟨d1, d2⟩
        · rcases b1 with b1 | b1
          · exact absurd (by rw [d3]; decide) b1
          · omega
      have e := cb_numL hT hf n 4 (4 : Int32) 0 0 at_ _ (by decide) (by decide) (by decide) h
      have e1 := congrArg Prod.fst e
      have e2 := congrArg (fun z => z.2.1) e
      have e3 := congrArg (fun z => z.2.2.1) e
      have e4 := congrArg (fun z => z.2.2.2) e
      exact Or.inl ⟨hf, hd, e1, e2, e3, e4, nma_PB hT 4 hp⟩
    · refine Or.inr (Or.inr ⟨by omega, ?_⟩)
      cases n with
      | zero => cases h
      | succ n =>
        replace h : B_X8_number_31 (G_X8_number ts tb sp n) ts tb sp (4 : Int32) 0 0 at_ at_ f = some (r, u, v, w) := h
        unfold B_X8_number_31 at h
        replace h := zk_f (show ¬ (4 : Int32) ≤ 0 by decide) h
        replace h := Option.some.inj (zk_t (show 0 ≤ f by rw [i32_le, z32_0]; omega) h)
        exact ⟨(congrArg Prod.fst h).symm, (congrArg (fun z => z.2.1) h).symm, (congrArg (fun z => z.2.2.1) h).symm, (congrArg (fun z => z.2.2.2) h).symm⟩
set_option maxHeartbeats 4000000 in
set_option maxRecDepth 20000 in
theorem mb_numW {mod_code : Int32} {court_shoeCount : Int32} {mod_claims : Int32} {ts : Int32} {f : Int32} {court_suitCount : Int32} {mod_doneMany : Int32} {mod_undoneMany : Int32} {mod_open : Int32} {mod_laid : Int32} {mod_isBoth : Int32} {mod_wished : Int32} {mod_bestMany : Int32} {mod_bestRow : Int32} {mod_ringDigits : Int32} {mod_traces : Int32} {tm : Nat → Int32} {g : Int32 → Int32 → Int32 → Int32 → Int32 → Int32 → Int32 → (Option (Int32 × Int32 × Int32))} {x2 x3 x4 x5 a : Int32} {R : Int32 × Int32 × Int32} (hf : f.toInt < 0) (h : B_X12_number_62 g mod_code court_shoeCount mod_claims ts court_suitCount mod_doneMany mod_undoneMany mod_open mod_laid mod_isBoth mod_wished mod_bestMany mod_bestRow mod_ringDigits mod_traces tm x2 x3 x4 x5 a f = some R) : R.1 = x4 ∧ R.2.1 = a ∧ ((x5 = 0 ∨ x2.toInt ≤ x4.toInt) → R.2.2 = x3) ∧ ((x5 ≠ 0 ∧ x4.toInt < x2.toInt) → R.2.2 = f) := by
  unfold B_X12_number_62 B_X12_number_73 at h
  by_cases c1 : x5 = 0
  · replace h := zk_t c1 h
    replace h := zk_o1 h
    obtain ⟨u, a1, h⟩ := h
    replace h := Option.some.inj h
    rw [← h]
    rcases mb_wrongAt a1 with ⟨_, b⟩ | ⟨b, _⟩
    · exact ⟨rfl, rfl, fun _ => b, fun z => absurd c1 z.1⟩
    · omega
  · replace h := zk_f c1 h
    by_cases c2 : x4 < x2
    · replace h := Option.some.inj (zk_t c2 h)
      rw [i32_lt] at c2
      rw [← h]
      exact ⟨rfl, rfl, fun z => z.elim (fun y => absurd y c1) (fun y => by omega), fun _ => rfl⟩
    · replace h := zk_f c2 h
      replace h := zk_o1 h
      obtain ⟨u, a1, h⟩ := h
      replace h := Option.some.inj h
      rw [i32_lt] at c2
      rw [← h]
      rcases mb_wrongAt a1 with ⟨_, b⟩ | ⟨b, _⟩
      · exact ⟨rfl, rfl, fun _ => b, fun z => by have := z.2; omega⟩
      · omega
set_option maxHeartbeats 4000000 in
set_option maxRecDepth 20000 in
theorem mb_numL {mod_code : Int32} {court_shoeCount : Int32} {mod_claims : Int32} {ts : Int32} {f : Int32} {court_suitCount : Int32} {mod_doneMany : Int32} {mod_undoneMany : Int32} {mod_open : Int32} {mod_laid : Int32} {mod_isBoth : Int32} {mod_wished : Int32} {mod_bestMany : Int32} {mod_bestRow : Int32} {mod_ringDigits : Int32} {mod_traces : Int32} {tm : Nat → Int32} {tb : Nat → Int32} (hT : TS ts) (hR : TR ts tb tm) (hf : f.toInt < 0) : ∀ (n k : Nat) (x1 x2 x3 x4 x5 a : Int32) (R : Int32 × Int32 × Int32), x1.toInt = x5.toInt + (k : Int) → 0 ≤ x5.toInt → x1.toInt ≤ 10 → PB ts a → G_X12_number mod_code court_shoeCount mod_claims ts court_suitCount mod_doneMany mod_undoneMany mod_open mod_laid mod_isBoth mod_wished mod_bestMany mod_bestRow mod_ringDigits mod_traces tm n x1 x2 x3 x4 x5 a f = some R → R.1 = (nmr ts tb k x4 a).1 ∧ R.2.1 = (nmr ts tb k x4 a).2 ∧ (((x5 = 0 ∧ (k = 0 ∨ ¬ (48 ≤ bZ ts tb a ∧ bZ ts tb a ≤ 57))) ∨ x2.toInt ≤ (nmr ts tb k x4 a).1.toInt) → R.2.2 = x3) ∧ ((¬ (x5 = 0 ∧ (k = 0 ∨ ¬ (48 ≤ bZ ts tb a ∧ bZ ts tb a ≤ 57))) ∧ (nmr ts tb k x4 a).1.toInt < x2.toInt) → R.2.2 = f) := by
  intro n
  induction n with
  | zero => intro k x1 x2 x3 x4 x5 a R h1 h2 h3 h4 h; cases h
  | succ n ih =>
    intro k x1 x2 x3 x4 x5 a R h1 h2 h3 h4 h
    replace h : B_X12_number_11 (G_X12_number mod_code court_shoeCount mod_claims ts court_suitCount mod_doneMany mod_undoneMany mod_open mod_laid mod_isBoth mod_wished mod_bestMany mod_bestRow mod_ringDigits mod_traces tm n) mod_code court_shoeCount mod_claims ts court_suitCount mod_doneMany mod_undoneMany mod_open mod_laid mod_isBoth mod_wished mod_bestMany mod_bestRow mod_ringDigits mod_traces tm x1 x2 x3 x4 x5 a f = some R := h
    unfold B_X12_number_11 at h
    cases k with
    | zero =>
      replace h := zk_t (show x1 ≤ x5 by rw [i32_le]; omega) h
      obtain ⟨q1, q2, q3, q4⟩ := mb_numW hf h
      exact ⟨q1, q2, fun z => q3 (z.elim (fun y => Or.inl y.1) Or.inr), fun z => q4 ⟨fun y => z.1 ⟨y, Or.inl rfl⟩, z.2⟩⟩
    | succ k =>
      replace h := zk_f (show ¬ x1 ≤ x5 by rw [i32_le]; omega) h
      replace h := zk_o2 h
      obtain ⟨r1, u1, a1, h⟩ := h
      have hb := mb_look hT hR h4 a1
      replace h := zk_o2 h
      obtain ⟨r2, u2, a2, h⟩ := h
      rw [pe_in] at a2
      have e2 := congrArg Prod.fst (Option.some.inj a2)
      dsimp only at e2
      have e48 : (48 : Int32).toInt = 48 := by decide
      have e57 : (57 : Int32).toInt = 57 := by decide
      have hi := BR_i hb 48 57 (by decide) (by decide)
      have hbz : bZ ts tb a = (bz ts tb a).toInt := rfl
      rw [← hbz] at hi
      by_cases c : 48 ≤ bZ ts tb a ∧ bZ ts tb a ≤ 57
      · have hr := hi.mpr c
        rw [if_neg (by rw [i32_lt, i32_lt, e48, e57]; omega)] at e2
        subst e2
        replace h := zk_f (by decide) h
        replace h := zk_o2 h
        obtain ⟨r3, u3, a3, h⟩ := h
        have hb3 := mb_look hT hR h4 a3
        have er : r3 = bz ts tb a := by
          rcases hb3 with ⟨_, _, e⟩ | ⟨e, _⟩
          · exact e
          · omega
        subst er
        replace h := zk_lt h
        obtain ⟨v1, e1, h⟩ := h
        replace h := zk_lt h
        obtain ⟨v2, e2, h⟩ := h
        replace h := zk_lt h
        obtain ⟨v3, e3, h⟩ := h
        subst e1
        subst e2
        subst e3
        have e5 := i32_s (a := x5) (by omega)
        have hn : nmr ts tb (k + 1) x4 a = nmr ts tb k ((10 : Int32) * x4 + bz ts tb a - 48) (a + 1) := by
          show (if 48 ≤ bZ ts tb a ∧ bZ ts tb a ≤ 57 then nmr ts tb k (x4 * 10 + bz ts tb a - 48) (a + 1) else (x4, a)) = _
          rw [if_pos c, Int32.mul_comm]
        obtain ⟨q1, q2, q3, q4⟩ := ih k x1 x2 x3 _ _ _ R (by omega) (by omega) h3 (PB_s (tb := tb) hT h4 (by omega)) h
        have n0 : ¬ (x5 + 1 : Int32) = 0 := by rw [i32_e, z32_0]; omega
        rw [hn]
        exact ⟨q1, q2, fun z => q3 (z.elim (fun y => (y.2.elim (fun w => absurd w (Nat.succ_ne_zero k)) (fun w => absurd c w))) Or.inr), fun z => q4 ⟨fun y => n0 y.1, z.2⟩⟩
      · have hr := fun z => c (hi.mp z)
        rw [if_pos (by rw [i32_lt, i32_lt, e48, e57]; omega)] at e2
        subst e2
        replace h := zk_t rfl h
        have hn : nmr ts tb (k + 1) x4 a = (x4, a) := by
          show (if 48 ≤ bZ ts tb a ∧ bZ ts tb a ≤ 57 then nmr ts tb k (x4 * 10 + bz ts tb a - 48) (a + 1) else (x4, a)) = _
          rw [if_neg c]
        rw [hn]
        obtain ⟨q1, q2, q3, q4⟩ := mb_numW hf h
        exact ⟨q1, q2, fun z => q3 (z.elim (fun y => Or.inl y.1) Or.inr), fun z => q4 ⟨fun y => z.1 ⟨y, Or.inr c⟩, z.2⟩⟩
set_option maxHeartbeats 4000000 in
set_option maxRecDepth 20000 in
theorem mb_number1 {mod_code : Int32} {court_shoeCount : Int32} {mod_claims : Int32} {ts : Int32} {at_ : Int32} {f : Int32} {court_suitCount : Int32} {mod_doneMany : Int32} {mod_undoneMany : Int32} {mod_open : Int32} {mod_laid : Int32} {mod_isBoth : Int32} {mod_wished : Int32} {mod_bestMany : Int32} {mod_bestRow : Int32} {mod_ringDigits : Int32} {mod_traces : Int32} {tm : Nat → Int32} {tb : Nat → Int32} {n : Nat} {x2 r u w : Int32} {m : Int} (hT : TS ts) (hR : TR ts tb tm) (hf : f.toInt < 0) (hp : PB ts at_) (hm : x2.toInt = m) (h : f_X12_number n (1 : Int32) x2 mod_code court_shoeCount mod_claims ts at_ f court_suitCount mod_doneMany mod_undoneMany mod_open mod_laid mod_isBoth mod_wished mod_bestMany mod_bestRow mod_ringDigits mod_traces tm = some (r, u, w)) : ((48 ≤ bZ ts tb at_ ∧ bZ ts tb at_ ≤ 57) ∧ (nmv ts tb 1 at_).toInt < m ∧ r = nmv ts tb 1 at_ ∧ u = nma ts tb 1 at_ ∧ w = f ∧ PB ts (nma ts tb 1 at_)) ∨ ((48 ≤ bZ ts tb at_ ∧ bZ ts tb at_ ≤ 57) ∧ m ≤ (nmv ts tb 1 at_).toInt ∧ r = nmv ts tb 1 at_ ∧ u = nma ts tb 1 at_ ∧ w = at_ ∧ PB ts (nma ts tb 1 at_)) ∨ ((bZ ts tb at_ < 48 ∨ 57 < bZ ts tb at_) ∧ r = 0 ∧ u = at_ ∧ w = at_) := by
  unfold f_X12_number B_X12_number_0 at h
  obtain ⟨q1, q2, q3, q4⟩ := mb_numL hT hR hf n 1 (1 : Int32) x2 at_ 0 0 at_ _ (by decide) (by decide) (by decide) hp h
  by_cases c : 48 ≤ bZ ts tb at_ ∧ bZ ts tb at_ ≤ 57
  · by_cases c2 : (nmv ts tb 1 at_).toInt < m
    · exact Or.inl ⟨c, c2, q1, q2, q4 ⟨fun z => z.2.elim (fun y => absurd y (by decide)) (fun y => y c), by rw [hm]; exact c2⟩, nma_PB hT 1 hp⟩
    · have c3 : m ≤ (nmv ts tb 1 at_).toInt := by omega
      exact Or.inr (Or.inl ⟨c, c3, q1, q2, q3 (Or.inr (by rw [hm]; exact c3)), nma_PB hT 1 hp⟩)
  · have hn : nmr ts tb 1 0 at_ = (0, at_) := by
      show (if 48 ≤ bZ ts tb at_ ∧ bZ ts tb at_ ≤ 57 then nmr ts tb 0 (0 * 10 + bz ts tb at_ - 48) (at_ + 1) else (0, at_)) = _
      rw [if_neg c]
    rw [hn] at q1 q2
    exact Or.inr (Or.inr ⟨by omega, q1, q2, q3 (Or.inl ⟨rfl, Or.inr c⟩)⟩)
set_option maxHeartbeats 4000000 in
set_option maxRecDepth 20000 in
theorem mb_number2 {mod_code : Int32} {court_shoeCount : Int32} {mod_claims : Int32} {ts : Int32} {at_ : Int32} {f : Int32} {court_suitCount : Int32} {mod_doneMany : Int32} {mod_undoneMany : Int32} {mod_open : Int32} {mod_laid : Int32} {mod_isBoth : Int32} {mod_wished : Int32} {mod_bestMany : Int32} {mod_bestRow : Int32} {mod_ringDigits : Int32} {mod_traces : Int32} {tm : Nat → Int32} {tb : Nat → Int32} {n : Nat} {x2 r u w : Int32} {m : Int} (hT : TS ts) (hR : TR ts tb tm) (hf : f.toInt < 0) (hp : PB ts at_) (hm : x2.toInt = m) (h : f_X12_number n (2 : Int32) x2 mod_code court_shoeCount mod_claims ts at_ f court_suitCount mod_doneMany mod_undoneMany mod_open mod_laid mod_isBoth mod_wished mod_bestMany mod_bestRow mod_ringDigits mod_traces tm = some (r, u, w)) : ((48 ≤ bZ ts tb at_ ∧ bZ ts tb at_ ≤ 57) ∧ (nmv ts tb 2 at_).toInt < m ∧ r = nmv ts tb 2 at_ ∧ u = nma ts tb 2 at_ ∧ w = f ∧ PB ts (nma ts tb 2 at_)) ∨ ((48 ≤ bZ ts tb at_ ∧ bZ ts tb at_ ≤ 57) ∧ m ≤ (nmv ts tb 2 at_).toInt ∧ r = nmv ts tb 2 at_ ∧ u = nma ts tb 2 at_ ∧ w = at_ ∧ PB ts (nma ts tb 2 at_)) ∨ ((bZ ts tb at_ < 48 ∨ 57 < bZ ts tb at_) ∧ r = 0 ∧ u = at_ ∧ w = at_) := by
  unfold f_X12_number B_X12_number_0 at h
  obtain ⟨q1, q2, q3, q4⟩ := mb_numL hT hR hf n 2 (2 : Int32) x2 at_ 0 0 at_ _ (by decide) (by decide) (by decide) hp h
  by_cases c : 48 ≤ bZ ts tb at_ ∧ bZ ts tb at_ ≤ 57
  · by_cases c2 : (nmv ts tb 2 at_).toInt < m
    · exact Or.inl ⟨c, c2, q1, q2, q4 ⟨fun z => z.2.elim (fun y => absurd y (by decide)) (fun y => y c), by rw [hm]; exact c2⟩, nma_PB hT 2 hp⟩
    · have c3 : m ≤ (nmv ts tb 2 at_).toInt := by omega
      exact Or.inr (Or.inl ⟨c, c3, q1, q2, q3 (Or.inr (by rw [hm]; exact c3)), nma_PB hT 2 hp⟩)
  · have hn : nmr ts tb 2 0 at_ = (0, at_) := by
      show (if 48 ≤ bZ ts tb at_ ∧ bZ ts tb at_ ≤ 57 then nmr ts tb 1 (0 * 10 + bz ts tb at_ - 48) (at_ + 1) else (0, at_)) = _
      rw [if_neg c]
    rw [hn] at q1 q2
    exact Or.inr (Or.inr ⟨by omega, q1, q2, q3 (Or.inl ⟨rfl, Or.inr c⟩)⟩)
