
def zbt (b : Int32) (v : Nat) : Bool := b.toBitVec.getLsbD v
theorem bv_one (y : BitVec 32) : (y &&& 1#32) = 0#32 ↔ y.getLsbD 0 = false := by
  constructor
  · intro h
    have h2 := congrArg (fun z => BitVec.getLsbD z 0) h
    simpa using h2
  · intro h
    apply BitVec.eq_of_getLsbD_eq
    intro i hi
    rw [BitVec.getLsbD_and]
    by_cases c : i = 0
    · subst c
      rw [h]
      simp
    · have e : (1#32).getLsbD i = false := by
        rw [BitVec.getLsbD_one]
        simp [c]
      simp [e]
theorem bt_sh : ∀ n : Nat, n < 32 → ((Int32.ofNat n &&& 31).toBitVec.smod 32).toNat = n := by decide +kernel
theorem bt_ofn {v : Int32} (h : 0 ≤ v.toInt ∧ v.toInt ≤ 31) : v = Int32.ofNat v.toInt.toNat := by
  apply Int32.toInt_inj.mp
  rw [Int32.toInt_ofNat_of_lt (by omega)]
  omega
theorem bt_0 {b v : Int32} (h : 0 ≤ v.toInt ∧ v.toInt ≤ 31) : ((b >>> (v &&& 31)) &&& 1) = 0 ↔ zbt b v.toInt.toNat = false := by
  have hn : v.toInt.toNat < 32 := by omega
  have e := bt_ofn h
  have key : ∀ n : Nat, n < 32 → (((b >>> (Int32.ofNat n &&& 31)) &&& 1) = 0 ↔ zbt b n = false) := by
    intro n hn
    rw [← Int32.toBitVec_inj]
    show ((b.toBitVec.sshiftRight' ((Int32.ofNat n &&& 31).toBitVec.smod 32)) &&& 1#32) = 0#32 ↔ _
    rw [BitVec.sshiftRight', bt_sh n hn, bv_one, BitVec.getLsbD_sshiftRight]
    unfold zbt
    simp [hn]
  have k := key v.toInt.toNat hn
  rw [← e] at k
  exact k
theorem bt_or {b w : Int32} (h : 0 ≤ w.toInt ∧ w.toInt ≤ 31) {k : Nat} (hk : k < 32) : zbt (b ||| (1 <<< (w &&& 31))) k = (zbt b k || decide (k = w.toInt.toNat)) := by
  have hn : w.toInt.toNat < 32 := by omega
  have e := bt_ofn h
  have key : ∀ n : Nat, n < 32 → zbt (b ||| (1 <<< (Int32.ofNat n &&& 31))) k = (zbt b k || decide (k = n)) := by
    intro n hn
    unfold zbt
    show (b.toBitVec ||| ((1#32) <<< ((Int32.ofNat n &&& 31).toBitVec.smod 32))).getLsbD k = _
    rw [BitVec.getLsbD_or, BitVec.shiftLeft_eq', bt_sh n hn, BitVec.getLsbD_shiftLeft, BitVec.getLsbD_one]
    congr 1
    by_cases c : k = n
    · subst c
      simp [hk]
    · have : ¬ (k - n = 0 ∧ ¬ k < n) := by omega
      by_cases c2 : k < n
      · simp [c2, c]
      · have c3 : ¬ k - n = 0 := by omega
        simp [c3, c]
  have q := key w.toInt.toNat hn
  rw [← e] at q
  exact q
theorem php : ∀ (n : Nat) (g : Nat → Nat), (∀ k, k < n + 1 → g k < n) → (∀ j k, j < n + 1 → k < n + 1 → g j = g k → j = k) → False
  | 0, g, h1, _ => absurd (h1 0 (by omega)) (Nat.not_lt_zero _)
  | n + 1, g, h1, h2 => by
    refine php n (fun k => if g k = n then g (n + 1) else g k) (fun k hk => ?_) (fun j k hj hk e => ?_)
    · try dsimp only
      have a1 := h1 k (by omega)
      have a2 := h1 (n + 1) (by omega)
      by_cases c : g k = n
      · rw [if_pos c]
        have c2 : g (n + 1) ≠ n := fun z => by have := h2 k (n + 1) (by omega) (by omega) (c.trans z.symm); omega
        omega
      · rw [if_neg c]
        omega
    · try dsimp only at e
      by_cases c : g j = n
      · by_cases c2 : g k = n
        · exact h2 j k (by omega) (by omega) (c.trans c2.symm)
        · rw [if_pos c, if_neg c2] at e
          have := h2 (n + 1) k (by omega) (by omega) e
          omega
      · by_cases c2 : g k = n
        · rw [if_neg c, if_pos c2] at e
          have := h2 j (n + 1) (by omega) (by omega) e
          omega
        · rw [if_neg c, if_neg c2] at e
          exact h2 j k (by omega) (by omega) e
theorem ix32 {x y : Int32} (hx : 0 ≤ x.toInt ∧ x.toInt ≤ 44) (hy : 0 ≤ y.toInt ∧ y.toInt ≤ 40) : ((32 : Int32) * x + y).toNatClampNeg = 32 * x.toInt.toNat + y.toInt.toNat := by
  have e32 : (32 : Int32).toInt = 32 := by decide
  have e : ((32 : Int32) * x + y).toInt = 32 * x.toInt + y.toInt := by
    rw [Int32.toInt_add, Int32.toInt_mul, e32, zi_bm2 (e := 32 * x.toInt) (by omega) (by omega), zi_bm2 (by omega) (by omega)]
  show ((32 : Int32) * x + y).toInt.toNat = _
  rw [e]
  omega
theorem nb32 {v : Int32} (h : 0 ≤ v.toInt ∧ v.toInt ≤ 31) : vp_nar .byte (v.toInt8.toInt32) = v := by
  have all : (List.range 32).all (fun n => decide (vp_nar .byte ((Int32.ofNat n).toInt8.toInt32) = Int32.ofNat n)) = true := by decide +kernel
  have h1 := List.all_eq_true.mp all v.toInt.toNat (List.mem_range.mpr (by omega))
  rw [← bt_ofn h] at h1
  exact of_decide_eq_true h1
/-- the CLAIMS asked so far, in the class and in the reference -/
def CI (x1 n : Int32) (am ma : Nat → Int32) (as : Nat → Int32) (b : Int32) : Prop :=
  (0 ≤ n.toInt ∧ n.toInt ≤ 32) ∧ am x1.toInt.toNat = n ∧ (∀ k, k < n.toInt.toNat → ma (32 * x1.toInt.toNat + k) = as k) ∧ (∀ k, k < n.toInt.toNat → 0 ≤ (as k).toInt ∧ (as k).toInt ≤ 31) ∧ (∀ v, v < 32 → (zbt b v = true ↔ ∃ k, k < n.toInt.toNat ∧ (as k).toInt.toNat = v)) ∧ (∀ j k, j < n.toInt.toNat → k < n.toInt.toNat → as j = as k → j = k)
theorem CI_room {x1 n b v : Int32} {am ma as : Nat → Int32} (hI : CI x1 n am ma as b) (hv : 0 ≤ v.toInt ∧ v.toInt ≤ 31) (hb : zbt b v.toInt.toNat = false) : n.toInt < 32 := by
  obtain ⟨h1, h2, h3, h4, h5, h6⟩ := hI
  by_cases c : n.toInt < 32
  · exact c
  exfalso
  have hn : n.toInt.toNat = 32 := by omega
  refine php 32 (fun k => if k < 32 then (as k).toInt.toNat else v.toInt.toNat) (fun k hk => ?_) (fun j k hj hk e => ?_)
  · try dsimp only
    by_cases c2 : k < 32
    · rw [if_pos c2]
      have := h4 k (by omega)
      omega
    · rw [if_neg c2]
      omega
  · try dsimp only at e
    have hnot : ∀ q, q < 32 → (as q).toInt.toNat = v.toInt.toNat → False := fun q hq z => by
      have := (h5 v.toInt.toNat (by omega)).mpr ⟨q, by omega, z⟩
      rw [hb] at this
      cases this
    by_cases c2 : j < 32
    · by_cases c3 : k < 32
      · rw [if_pos c2, if_pos c3] at e
        have a1 := h4 j (by omega)
        have a2 := h4 k (by omega)
        exact h6 j k (by omega) (by omega) (Int32.toInt_inj.mp (by omega))
      · rw [if_pos c2, if_neg c3] at e
        exact absurd e (fun z => hnot j c2 z)
    · by_cases c3 : k < 32
      · rw [if_neg c2, if_pos c3] at e
        exact absurd e.symm (fun z => hnot k c3 z)
      · omega
theorem CI_ask {x1 n b v : Int32} {am ma as : Nat → Int32} (hI : CI x1 n am ma as b) (hx : 0 ≤ x1.toInt ∧ x1.toInt ≤ 44) (hv : 0 ≤ v.toInt ∧ v.toInt ≤ 31) (hb : zbt b v.toInt.toNat = false) {w : Int32} (hw : w = v) {i : Nat} (hi : i = 32 * x1.toInt.toNat + n.toInt.toNat) : CI x1 (n + 1) (upd am x1.toNatClampNeg (n + 1)) (upd ma i w) (upd as n.toNatClampNeg v) (b ||| (1 <<< (v &&& 31))) := by
  have hr := CI_room hI hv hb
  obtain ⟨h1, h2, h3, h4, h5, h6⟩ := hI
  have e1 := i32_s (a := n) (by omega)
  have hn : (n + 1).toInt.toNat = n.toInt.toNat + 1 := by omega
  have ex : x1.toNatClampNeg = x1.toInt.toNat := rfl
  have en : n.toNatClampNeg = n.toInt.toNat := rfl
  subst hw
  subst hi
  unfold CI
  rw [hn, ex, en]
  refine ⟨by omega, by unfold upd; rw [if_pos rfl], fun k hk => ?_, fun k hk => ?_, fun q hq => ?_, fun j k hj hk e => ?_⟩
  · unfold upd
    by_cases c : k = n.toInt.toNat
    · rw [if_pos (by omega), if_pos c]
    · rw [if_neg (by omega), if_neg c]
      exact h3 k (by omega)
  · unfold upd
    by_cases c : k = n.toInt.toNat
    · rw [if_pos c]; exact hv
    · rw [if_neg c]; exact h4 k (by omega)
  · rw [bt_or hv hq]
    constructor
    · intro z
      by_cases c : q = w.toInt.toNat
      · exact ⟨n.toInt.toNat, by omega, by unfold upd; rw [if_pos rfl]; exact c.symm⟩
      · have z : zbt b q = true := by rw [decide_eq_false c, Bool.or_false] at z; exact z
        obtain ⟨k, hk, ek⟩ := (h5 q hq).mp z
        exact ⟨k, by omega, by unfold upd; rw [if_neg (by omega)]; exact ek⟩
    · rintro ⟨k, hk, ek⟩
      unfold upd at ek
      by_cases c : k = n.toInt.toNat
      · rw [if_pos c] at ek
        rw [decide_eq_true ek.symm, Bool.or_true]
      · rw [if_neg c] at ek
        have := (h5 q hq).mpr ⟨k, by omega, ek⟩
        simp [this]
  · unfold upd at e
    have hnot : ∀ q, q < n.toInt.toNat → as q = w → False := fun q hq z => by
      have := (h5 w.toInt.toNat (by omega)).mpr ⟨q, hq, by rw [z]⟩
      rw [hb] at this
      cases this
    by_cases c : j = n.toInt.toNat
    · by_cases c2 : k = n.toInt.toNat
      · omega
      · rw [if_pos c, if_neg c2] at e
        exact absurd e.symm (fun z => hnot k (by omega) z)
    · by_cases c2 : k = n.toInt.toNat
      · rw [if_neg c, if_pos c2] at e
        exact absurd e (fun z => hnot j (by omega) z)
      · rw [if_neg c, if_neg c2] at e
        exact h6 j k (by omega) (by omega) e
set_option maxHeartbeats 4000000 in
set_option maxRecDepth 20000 in
theorem cb_hasAsked {su_who : Int32} {su_against : Int32} {su_kind : Int32} {su_won : Int32} {su_day : Int32} {su_land : Int32} {su_undoneFrom : Int32} {su_askedCount : Int32} {su_askedBits : Int32} {su_first : Int32} {su_foundSo : Int32} {su_foundNot : Int32} {su_fought : Int32} {su_needed : Int32} {v r : Int32} {u : Unit} (hv : 0 ≤ v.toInt ∧ v.toInt ≤ 31) (h : f_X7_hasAsked v su_who su_against su_kind su_won su_day su_land su_undoneFrom su_askedCount su_askedBits su_first su_foundSo su_foundNot su_fought su_needed = some (r, u)) : (zbt su_askedBits v.toInt.toNat = true ∧ r = 1) ∨ (zbt su_askedBits v.toInt.toNat = false ∧ r = 0) := by
  unfold f_X7_hasAsked B_X7_hasAsked_0 at h
  by_cases c : ((su_askedBits >>> (v &&& 31)) &&& 1) = 0
  · replace h := (congrArg Prod.fst (Option.some.inj (zk_t c h))).symm
    exact Or.inr ⟨(bt_0 hv).mp c, h⟩
  · replace h := (congrArg Prod.fst (Option.some.inj (zk_f c h))).symm
    have c2 : ¬ zbt su_askedBits v.toInt.toNat = false := fun z => c ((bt_0 hv).mpr z)
    exact Or.inl ⟨by simpa using c2, h⟩
set_option maxHeartbeats 4000000 in
set_option maxRecDepth 20000 in
theorem cb_ask {su_who : Int32} {su_against : Int32} {su_kind : Int32} {su_won : Int32} {su_day : Int32} {su_land : Int32} {su_undoneFrom : Int32} {su_askedCount : Int32} {su_askedBits : Int32} {su_first : Int32} {su_foundSo : Int32} {su_foundNot : Int32} {su_fought : Int32} {su_needed : Int32} {su_asked : Nat → Int32} {v u1 u2 : Int32} {u3 : Nat → Int32} (hr : su_askedCount.toInt < 32) (h0 : 0 ≤ su_askedCount.toInt ∧ su_askedCount.toInt ≤ 32) (h : f_X7_ask v su_who su_against su_kind su_won su_day su_land su_undoneFrom su_askedCount su_askedBits su_first su_foundSo su_foundNot su_fought su_needed su_asked = some (u1, u2, u3)) : u1 = su_askedCount + 1 ∧ u2 = su_askedBits ||| (1 <<< (v &&& 31)) ∧ u3 = upd su_asked su_askedCount.toNatClampNeg v := by
  unfold f_X7_ask B_X7_ask_0 at h
  replace h := zk_f (show ¬ (32 : Int32) ≤ su_askedCount by rw [i32_le, z32L_32]; omega) h
  replace h := zk_gd h
  obtain ⟨_, h⟩ := h
  replace h := zk_lt h
  obtain ⟨a1, e1, h⟩ := h
  replace h := zk_lt h
  obtain ⟨a2, e2, h⟩ := h
  replace h := zk_lt h
  obtain ⟨a3, e3, h⟩ := h
  replace h := Option.some.inj h
  exact ⟨by rw [← e2]; exact (congrArg Prod.fst h).symm, by rw [← e3]; exact (congrArg (fun z => z.2.1) h).symm, by rw [← e1]; exact (congrArg (fun z => z.2.2) h).symm⟩
set_option maxHeartbeats 4000000 in
set_option maxRecDepth 20000 in
theorem mb_wasL {mod_code : Int32} {court_shoeCount : Int32} {mod_claims : Int32} {ts : Int32} {at_ : Int32} {f : Int32} {court_suitCount : Int32} {mod_doneMany : Int32} {mod_undoneMany : Int32} {mod_open : Int32} {mod_laid : Int32} {mod_isBoth : Int32} {mod_wished : Int32} {mod_bestMany : Int32} {mod_bestRow : Int32} {mod_ringDigits : Int32} {mod_traces : Int32} {mod_askedMany : Nat → Int32} {mod_asked : Nat → Int32} {x1 su_askedCount : Int32} {su_asked : Nat → Int32} (hm : mod_askedMany x1.toInt.toNat = su_askedCount) (h3 : ∀ k, k < su_askedCount.toInt.toNat → mod_asked (32 * x1.toInt.toNat + k) = su_asked k) (h1 : 0 ≤ su_askedCount.toInt ∧ su_askedCount.toInt ≤ 32) (hx : 0 ≤ x1.toInt ∧ x1.toInt ≤ 44) : ∀ (n : Nat) (x2 x3 r : Int32) (u : Unit), 0 ≤ x3.toInt → x3.toInt ≤ su_askedCount.toInt → G_X12_wasAsked mod_code court_shoeCount mod_claims ts at_ f court_suitCount mod_doneMany mod_undoneMany mod_open mod_laid mod_isBoth mod_wished mod_bestMany mod_bestRow mod_ringDigits mod_traces mod_askedMany mod_asked n x1 x2 x3 = some (r, u) → (r = 1 ∧ ∃ k, x3.toInt.toNat ≤ k ∧ k < su_askedCount.toInt.toNat ∧ su_asked k = x2) ∨ (r = 0 ∧ ∀ k, x3.toInt.toNat ≤ k → k < su_askedCount.toInt.toNat → su_asked k ≠ x2) := by
  intro n
  induction n with
  | zero => intro x2 x3 r u _ _ h; cases h
  | succ n ih =>
    intro x2 x3 r u hx3 hx3b h
    replace h : B_X12_wasAsked_2 (G_X12_wasAsked mod_code court_shoeCount mod_claims ts at_ f court_suitCount mod_doneMany mod_undoneMany mod_open mod_laid mod_isBoth mod_wished mod_bestMany mod_bestRow mod_ringDigits mod_traces mod_askedMany mod_asked n) mod_code court_shoeCount mod_claims ts at_ f court_suitCount mod_doneMany mod_undoneMany mod_open mod_laid mod_isBoth mod_wished mod_bestMany mod_bestRow mod_ringDigits mod_traces mod_askedMany mod_asked x1 x2 x3 = some (r, u) := h
    unfold B_X12_wasAsked_2 at h
    replace h := zk_gd h
    obtain ⟨_, h⟩ := h
    rw [show mod_askedMany x1.toNatClampNeg = su_askedCount from hm] at h
    by_cases c : su_askedCount ≤ x3
    · replace h := (congrArg Prod.fst (Option.some.inj (zk_t c h))).symm
      rw [i32_le] at c
      exact Or.inr ⟨h, fun k k1 k2 => by omega⟩
    · replace h := zk_f c h
      rw [i32_le] at c
      replace h := zk_gd h
      obtain ⟨_, h⟩ := h
      rw [ix32 hx (by omega), h3 _ (by omega)] at h
      by_cases c2 : su_asked x3.toInt.toNat = x2
      · replace h := (congrArg Prod.fst (Option.some.inj (zk_t c2 h))).symm
        exact Or.inl ⟨h, x3.toInt.toNat, Nat.le_refl _, by omega, c2⟩
      · replace h := zk_f c2 h
        replace h := zk_lt h
        obtain ⟨v, e, h⟩ := h
        subst e
        have e3 := i32_s (a := x3) (by omega)
        rcases ih x2 _ r u (by omega) (by omega) h with ⟨q1, k, q2, q3, q4⟩ | ⟨q1, q2⟩
        · exact Or.inl ⟨q1, k, by omega, q3, q4⟩
        · refine Or.inr ⟨q1, fun k k1 k2 z => ?_⟩
          by_cases ck : k = x3.toInt.toNat
          · rw [ck] at z; exact c2 z
          · exact q2 k (by omega) k2 z
set_option maxHeartbeats 4000000 in
set_option maxRecDepth 20000 in
theorem mb_was {mod_code : Int32} {court_shoeCount : Int32} {mod_claims : Int32} {ts : Int32} {at_ : Int32} {f : Int32} {court_suitCount : Int32} {mod_doneMany : Int32} {mod_undoneMany : Int32} {mod_open : Int32} {mod_laid : Int32} {mod_isBoth : Int32} {mod_wished : Int32} {mod_bestMany : Int32} {mod_bestRow : Int32} {mod_ringDigits : Int32} {mod_traces : Int32} {mod_askedMany : Nat → Int32} {mod_asked : Nat → Int32} {n : Nat} {x1 v r su_askedCount su_askedBits : Int32} {u : Unit} {su_asked : Nat → Int32} (hI : CI x1 su_askedCount mod_askedMany mod_asked su_asked su_askedBits) (hx : 0 ≤ x1.toInt ∧ x1.toInt ≤ 44) (hv : 0 ≤ v.toInt ∧ v.toInt ≤ 31) (h : f_X12_wasAsked n x1 v mod_code court_shoeCount mod_claims ts at_ f court_suitCount mod_doneMany mod_undoneMany mod_open mod_laid mod_isBoth mod_wished mod_bestMany mod_bestRow mod_ringDigits mod_traces mod_askedMany mod_asked = some (r, u)) : (zbt su_askedBits v.toInt.toNat = true ∧ r = 1) ∨ (zbt su_askedBits v.toInt.toNat = false ∧ r = 0) := by
  obtain ⟨h1, h2, h3, h4, h5, h6⟩ := hI
  unfold f_X12_wasAsked B_X12_wasAsked_0 at h
  rcases mb_wasL h2 h3 h1 hx n v 0 r u (by decide) (by rw [z32_0]; omega) h with ⟨q1, k, _, q3, q4⟩ | ⟨q1, q2⟩
  · exact Or.inl ⟨(h5 _ (by omega)).mpr ⟨k, q3, by rw [q4]⟩, q1⟩
  · refine Or.inr ⟨?_, q1⟩
    by_cases c : zbt su_askedBits v.toInt.toNat = true
    · obtain ⟨k, hk, ek⟩ := (h5 _ (by omega)).mp c
      have a := h4 k hk
      exact absurd (Int32.toInt_inj.mp (by omega)) (q2 k (by rw [z32_0]; exact Nat.zero_le _) hk)
    · simpa using c
set_option maxHeartbeats 4000000 in
set_option maxRecDepth 20000 in
theorem mb_was1 {mod_code : Int32} {court_shoeCount : Int32} {mod_claims : Int32} {ts : Int32} {at_ : Int32} {f : Int32} {court_suitCount : Int32} {mod_doneMany : Int32} {mod_undoneMany : Int32} {mod_open : Int32} {mod_laid : Int32} {mod_isBoth : Int32} {mod_wished : Int32} {mod_bestMany : Int32} {mod_bestRow : Int32} {mod_ringDigits : Int32} {mod_traces : Int32} {mod_askedMany : Nat → Int32} {mod_asked : Nat → Int32} {n : Nat} {x1 v r su_askedCount su_askedBits : Int32} {u : Unit} {su_asked : Nat → Int32} (hI : CI x1 su_askedCount mod_askedMany mod_asked su_asked su_askedBits) (hx : 0 ≤ x1.toInt ∧ x1.toInt ≤ 44) (hv : 0 ≤ v.toInt ∧ v.toInt ≤ 31) (hb : zbt su_askedBits v.toInt.toNat = true) (h : f_X12_wasAsked n x1 v mod_code court_shoeCount mod_claims ts at_ f court_suitCount mod_doneMany mod_undoneMany mod_open mod_laid mod_isBoth mod_wished mod_bestMany mod_bestRow mod_ringDigits mod_traces mod_askedMany mod_asked = some (r, u)) : r = 1 := by
  rcases mb_was hI hx hv h with ⟨a, b⟩ | ⟨a, b⟩
  · exact b
  · rw [hb] at a; cases a
set_option maxHeartbeats 4000000 in
set_option maxRecDepth 20000 in
theorem mb_was0 {mod_code : Int32} {court_shoeCount : Int32} {mod_claims : Int32} {ts : Int32} {at_ : Int32} {f : Int32} {court_suitCount : Int32} {mod_doneMany : Int32} {mod_undoneMany : Int32} {mod_open : Int32} {mod_laid : Int32} {mod_isBoth : Int32} {mod_wished : Int32} {mod_bestMany : Int32} {mod_bestRow : Int32} {mod_ringDigits : Int32} {mod_traces : Int32} {mod_askedMany : Nat → Int32} {mod_asked : Nat → Int32} {n : Nat} {x1 v r su_askedCount su_askedBits : Int32} {u : Unit} {su_asked : Nat → Int32} (hI : CI x1 su_askedCount mod_askedMany mod_asked su_asked su_askedBits) (hx : 0 ≤ x1.toInt ∧ x1.toInt ≤ 44) (hv : 0 ≤ v.toInt ∧ v.toInt ≤ 31) (hb : zbt su_askedBits v.toInt.toNat = false) (h : f_X12_wasAsked n x1 v mod_code court_shoeCount mod_claims ts at_ f court_suitCount mod_doneMany mod_undoneMany mod_open mod_laid mod_isBoth mod_wished mod_bestMany mod_bestRow mod_ringDigits mod_traces mod_askedMany mod_asked = some (r, u)) : r = 0 := by
  rcases mb_was hI hx hv h with ⟨a, b⟩ | ⟨a, b⟩
  · rw [hb] at a; cases a
  · exact b
def FR (x1 : Int32) (am ma am2 ma2 : Nat → Int32) : Prop := (∀ j, j ≠ x1.toInt.toNat → am2 j = am j) ∧ (∀ j, (j < 32 * x1.toInt.toNat ∨ 32 * x1.toInt.toNat + 32 ≤ j) → ma2 j = ma j)
theorem FR_rf {x1 : Int32} {am ma : Nat → Int32} : FR x1 am ma am ma := ⟨fun _ _ => rfl, fun _ _ => rfl⟩
theorem FR_tr {x1 : Int32} {am ma am2 ma2 am3 ma3 : Nat → Int32} (h : FR x1 am ma am2 ma2) (h2 : FR x1 am2 ma2 am3 ma3) : FR x1 am ma am3 ma3 := ⟨fun j hj => (h2.1 j hj).trans (h.1 j hj), fun j hj => (h2.2 j hj).trans (h.2 j hj)⟩
theorem FR_up {x1 : Int32} {am ma : Nat → Int32} {w z : Int32} {i n : Nat} (hi : i = 32 * x1.toInt.toNat + n) (hn : n < 32) : FR x1 am ma (upd am x1.toNatClampNeg w) (upd ma i z) := by
  refine ⟨fun j hj => ?_, fun j hj => ?_⟩
  · unfold upd
    exact if_neg (show ¬ j = x1.toNatClampNeg from hj)
  · unfold upd
    rw [if_neg (by omega)]
set_option maxHeartbeats 4000000 in
set_option maxRecDepth 20000 in
theorem s2_loop {mod_code : Int32} {court_shoeCount : Int32} {mod_claims : Int32} {ts : Int32} {f : Int32} {court_suitCount : Int32} {mod_doneMany : Int32} {mod_undoneMany : Int32} {mod_open : Int32} {mod_laid : Int32} {mod_isBoth : Int32} {mod_wished : Int32} {mod_bestMany : Int32} {mod_bestRow : Int32} {mod_ringDigits : Int32} {mod_traces : Int32} {tm : Nat → Int32} {tb : Nat → Int32} {su_who : Int32} {su_against : Int32} {su_kind : Int32} {su_won : Int32} {su_day : Int32} {su_land : Int32} {su_undoneFrom : Int32} {su_first : Int32} {su_foundSo : Int32} {su_foundNot : Int32} {su_fought : Int32} {su_needed : Int32} {sp : Value} {x1 : Int32} (hT : TS ts) (hR : TR ts tb tm) (hf : f.toInt < 0) (hx : 0 ≤ x1.toInt ∧ x1.toInt ≤ 44) (hcc : 0 ≤ mod_claims.toInt ∧ mod_claims.toInt ≤ 32) : ∀ (N M : Nat) (at_ na su_askedCount su_askedBits : Int32) (su_asked mod_askedMany mod_asked : Nat → Int32) (RC : Int32 × Int32 × Int32 × Int32 × Int32 × (Nat → Int32)) (RM : Int32 × Int32 × (Nat → Int32) × (Nat → Int32)), PB ts at_ → CI x1 su_askedCount mod_askedMany mod_asked su_asked su_askedBits → G_X8_readClaims ts tb sp su_who su_against su_kind su_won su_day su_land su_undoneFrom su_first su_foundSo su_foundNot su_fought su_needed N mod_claims su_askedCount at_ na f su_askedCount su_askedBits su_asked = some RC → G_X12_readClaims mod_code court_shoeCount mod_claims ts court_suitCount mod_doneMany mod_undoneMany mod_open mod_laid mod_isBoth mod_wished mod_bestMany mod_bestRow mod_ringDigits mod_traces tm M x1 at_ f mod_askedMany mod_asked = some RM → (0 ≤ RC.2.2.1.toInt ∧ RM.2.1 = RC.2.2.1 ∧ FR x1 mod_askedMany mod_asked RM.2.2.1 RM.2.2.2) ∨ (RC.2.2.1 = f ∧ RM.2.1 = f ∧ RM.1 = RC.1 ∧ PB ts RC.1 ∧ CI x1 RC.2.2.2.1 RM.2.2.1 RM.2.2.2 RC.2.2.2.2.2 RC.2.2.2.2.1 ∧ FR x1 mod_askedMany mod_asked RM.2.2.1 RM.2.2.2) := by
  intro N
  induction N with
  | zero => intro M at_ na su_askedCount su_askedBits su_asked mod_askedMany mod_asked RC RM hp hI h k; cases h
  | succ N ih =>
    intro M at_ na su_askedCount su_askedBits su_asked mod_askedMany mod_asked RC RM hp hI h k
    cases M with
    | zero => cases k
    | succ M =>
      have hI1 := hI.1
      have hpa := hp.1
      replace h : B_X8_readClaims_2 (G_X8_readClaims ts tb sp su_who su_against su_kind su_won su_day su_land su_undoneFrom su_first su_foundSo su_foundNot su_fought su_needed N) ts tb sp su_who su_against su_kind su_won su_day su_land su_undoneFrom su_first su_foundSo su_foundNot su_fought su_needed mod_claims su_askedCount at_ na f su_askedCount su_askedBits su_asked = some RC := h
      replace k : B_X12_readClaims_0 (G_X12_readClaims mod_code court_shoeCount mod_claims ts court_suitCount mod_doneMany mod_undoneMany mod_open mod_laid mod_isBoth mod_wished mod_bestMany mod_bestRow mod_ringDigits mod_traces tm M) mod_code court_shoeCount mod_claims ts court_suitCount mod_doneMany mod_undoneMany mod_open mod_laid mod_isBoth mod_wished mod_bestMany mod_bestRow mod_ringDigits mod_traces tm x1 at_ f mod_askedMany mod_asked = some RM := k
      unfold B_X8_readClaims_2 at h
      unfold B_X12_readClaims_0 at k
      replace h := zk_f (by rw [i32_lt, z32L_32]; omega) h
      replace h := zk_f (by rw [i32_le, z32_0]; omega) h
      replace h := zk_o4 h
      obtain ⟨cr_3, cu_4, cu_5, cu_6, ch1, h⟩ := h
      rcases cb_numberN2 hT hf hp ch1 with ⟨ck2, cq4, cq5, cq6, cq7, ck3⟩ | ⟨ck2, cq8, cq9, cq10, cq11⟩
      · replace cq4 := cq4.symm
        subst cq4
        replace cq5 := cq5.symm
        subst cq5
        replace cq6 := cq6.symm
        subst cq6
        replace cq7 := cq7.symm
        subst cq7
        have ck3a := ck3.1
        have ck3b := nmv_b2 (ts := ts) (tb := tb) at_
        by_cases cc12 : mod_claims ≤ (nmv ts tb 2 at_)
        · replace h := zk_t cc12 h
          have cc12n := cc12
          (try simp only [i32_lt, i32_le, i32_e, z32_0, z32_1, z32L_2] at cc12n)
          unfold B_X8_readClaims_42 at h
          unfold B_X8_readClaims_43 at h
          replace h := zk_o1 h
          obtain ⟨cu_13, ch13, h⟩ := h
          obtain cq14 := cb_judge0N hf ch13
          replace cq14 := cq14.symm
          subst cq14
          replace h := zk_t (by rw [i32_le, z32_0]; omega) h
          unfold B_X8_readClaims_63 at h
          replace h := zk_o2 h
          obtain ⟨cr_20, cu_21, ch15, h⟩ := h
          obtain ⟨cq16, cq17⟩ := cb_acceptP (hp).1 ch15
          replace cq16 := cq16.symm
          subst cq16
          replace cq17 := cq17.symm
          subst cq17
          replace h := zk_t (by decide) h
          replace k := zk_f (by rw [i32_le, z32_0]; omega) k
          replace k := zk_o3 k
          obtain ⟨mr_2, mu_3, mu_4, mh1, k⟩ := k
          rcases mb_number2 (m := mod_claims.toInt) hT hR hf hp rfl mh1 with ⟨mk2, mk3, _, _, _, mk4⟩ | ⟨mk2, mk3, mq5, mq6, mq7, mk4⟩ | ⟨mk2, _, _, _⟩
          · exfalso; omega
          · replace mq5 := mq5.symm
            subst mq5
            replace mq6 := mq6.symm
            subst mq6
            replace mq7 := mq7.symm
            subst mq7
            have mk4a := mk4.1
            have mk4b := nmv_b2 (ts := ts) (tb := tb) at_
            replace k := zk_t (by rw [i32_le, z32_0]; omega) k
            unfold B_X12_readClaims_43 at k
            rw [(show mod_askedMany x1.toNatClampNeg = su_askedCount from hI.2.1)] at k
            replace k := zk_f (by rw [i32_lt, z32_0]; omega) k
            replace h := Option.some.inj h
            replace k := Option.some.inj k
            rw [← h, ← k]
            first | (exfalso; omega) | exact Or.inl ⟨(hp).1, rfl, FR_rf⟩
          · exact (zx_2 ck2 mk2).elim
        · replace h := zk_f cc12 h
          have cc12n := cc12
          (try simp only [i32_lt, i32_le, i32_e, z32_0, z32_1, z32L_2] at cc12n)
          replace h := zk_o2 h
          obtain ⟨cr_9, cu_10, ch18, h⟩ := h
          rcases cb_hasAsked (by first | omega | decide) ch18 with ⟨ck19, cq20⟩ | ⟨ck19, cq21⟩
          · replace cq20 := cq20.symm
            subst cq20
            replace h := zk_f (by decide) h
            unfold B_X8_readClaims_42 at h
            unfold B_X8_readClaims_43 at h
            replace h := zk_o1 h
            obtain ⟨cu_13, ch22, h⟩ := h
            obtain cq23 := cb_judge0N hf ch22
            replace cq23 := cq23.symm
            subst cq23
            replace h := zk_t (by rw [i32_le, z32_0]; omega) h
            unfold B_X8_readClaims_63 at h
            replace h := zk_o2 h
            obtain ⟨cr_20, cu_21, ch24, h⟩ := h
            obtain ⟨cq25, cq26⟩ := cb_acceptP (hp).1 ch24
            replace cq25 := cq25.symm
            subst cq25
            replace cq26 := cq26.symm
            subst cq26
            replace h := zk_t (by decide) h
            replace k := zk_f (by rw [i32_le, z32_0]; omega) k
            replace k := zk_o3 k
            obtain ⟨mr_2, mu_3, mu_4, mh8, k⟩ := k
            rcases mb_number2 (m := mod_claims.toInt) hT hR hf hp rfl mh8 with ⟨mk9, mk10, mq12, mq13, mq14, mk11⟩ | ⟨mk9, mk10, _, _, _, mk11⟩ | ⟨mk9, _, _, _⟩
            · replace mq12 := mq12.symm
              subst mq12
              replace mq13 := mq13.symm
              subst mq13
              replace mq14 := mq14.symm
              subst mq14
              have mk11a := mk11.1
              have mk11b := nmv_b2 (ts := ts) (tb := tb) at_
              replace k := zk_f (by rw [i32_le, z32_0]; omega) k
              replace k := zk_o2 k
              obtain ⟨mr_7, mu_8, mh15, k⟩ := k
              obtain mq17 := mb_was1 hI hx (by first | omega | decide) ck19 mh15
              replace mq17 := mq17.symm
              subst mq17
              replace k := zk_f (by decide) k
              replace k := zk_o1 k
              obtain ⟨mu_11, mh18, k⟩ := k
              obtain mq19 := mb_wrongAtN hf mh18
              replace mq19 := mq19.symm
              subst mq19
              unfold B_X12_readClaims_43 at k
              rw [(show mod_askedMany x1.toNatClampNeg = su_askedCount from hI.2.1)] at k
              replace k := zk_f (by rw [i32_lt, z32_0]; omega) k
              replace h := Option.some.inj h
              replace k := Option.some.inj k
              rw [← h, ← k]
              first | (exfalso; omega) | exact Or.inl ⟨(hp).1, rfl, FR_rf⟩
            · exfalso; omega
            · exact (zx_2 ck2 mk9).elim
          · replace cq21 := cq21.symm
            subst cq21
            replace h := zk_t (by decide) h
            unfold B_X8_readClaims_43 at h
            replace h := zk_o1 h
            obtain ⟨cu_13, ch27, h⟩ := h
            obtain cq28 := cb_judge1 ch27
            replace cq28 := cq28.symm
            subst cq28
            replace h := zk_f (by rw [i32_le, z32_0]; omega) h
            replace h := zk_o3 h
            obtain ⟨cu_16, cu_17, cu_18, ch29, h⟩ := h
            obtain ⟨cq31, cq32, cq33⟩ := cb_ask (CI_room hI (by first | omega | decide) ck19) hI.1 ch29
            replace cq31 := cq31.symm
            subst cq31
            replace cq32 := cq32.symm
            subst cq32
            replace cq33 := cq33.symm
            subst cq33
            unfold B_X8_readClaims_63 at h
            replace h := zk_o2 h
            obtain ⟨cr_20, cu_21, ch34, h⟩ := h
            rcases cb_acceptN (n := 44) hT hf ck3 (by decide) ch34 with ⟨ck35, cq37, cq38, ck36⟩ | ⟨ck35, cq39, cq40⟩
            · replace cq37 := cq37.symm
              subst cq37
              replace cq38 := cq38.symm
              subst cq38
              have ck36a := ck36.1
              replace h := zk_f (by decide) h
              replace h := zk_lt h
              obtain ⟨cv_24, ce41, h⟩ := h
              subst ce41
              have hroom := CI_room hI (by first | omega | decide) ck19
              replace k := zk_f (by rw [i32_le, z32_0]; omega) k
              replace k := zk_o3 k
              obtain ⟨mr_2, mu_3, mu_4, mh20, k⟩ := k
              rcases mb_number2 (m := mod_claims.toInt) hT hR hf hp rfl mh20 with ⟨mk21, mk22, mq24, mq25, mq26, mk23⟩ | ⟨mk21, mk22, _, _, _, mk23⟩ | ⟨mk21, _, _, _⟩
              · replace mq24 := mq24.symm
                subst mq24
                replace mq25 := mq25.symm
                subst mq25
                replace mq26 := mq26.symm
                subst mq26
                have mk23a := mk23.1
                have mk23b := nmv_b2 (ts := ts) (tb := tb) at_
                replace k := zk_f (by rw [i32_le, z32_0]; omega) k
                replace k := zk_o2 k
                obtain ⟨mr_7, mu_8, mh27, k⟩ := k
                obtain mq29 := mb_was0 hI hx (by first | omega | decide) ck19 mh27
                replace mq29 := mq29.symm
                subst mq29
                replace k := zk_t (by decide) k
                unfold B_X12_readClaims_43 at k
                rw [(show mod_askedMany x1.toNatClampNeg = su_askedCount from hI.2.1)] at k
                replace k := zk_t (by rw [i32_lt, z32_0]; omega) k
                replace k := zk_gd k
                obtain ⟨_, k⟩ := k
                replace k := zk_lt k
                obtain ⟨mv_15, me30, k⟩ := k
                subst me30
                replace k := zk_gd k
                obtain ⟨_, k⟩ := k
                replace k := zk_lt k
                obtain ⟨mf_17, me31, k⟩ := k
                replace k := zk_gd k
                obtain ⟨_, k⟩ := k
                replace k := zk_lt k
                obtain ⟨mv_19, me32, k⟩ := k
                subst me32
                replace k := zk_gd k
                obtain ⟨_, k⟩ := k
                replace k := zk_lt k
                obtain ⟨mf_21, me33, k⟩ := k
                replace k := zk_o2 k
                obtain ⟨mr_22, mu_23, mh34, k⟩ := k
                rcases mb_isNext (n := 44) hT hR mk23 (by decide) mh34 with ⟨mk35, mq37, mq38, mk36⟩ | ⟨mk35, _, _⟩
                · replace mq37 := mq37.symm
                  subst mq37
                  replace mq38 := mq38.symm
                  subst mq38
                  have mk36a := mk36.1
                  replace k := zk_f (by decide) k
                  subst me31
                  subst me33
                  rcases ih M _ _ _ _ _ _ _ RC RM ck36 (CI_ask hI hx (by omega) ck19 (nb32 (by omega)) (ix32 hx (by omega))) h k with q | ⟨q1, q2, q3, q4, q5, q6⟩
                  · exact Or.inl ⟨q.1, q.2.1, FR_tr (FR_up (ix32 hx (by omega)) (by omega)) q.2.2⟩
                  · exact Or.inr ⟨q1, q2, q3, q4, q5, FR_tr (FR_up (ix32 hx (by omega)) (by omega)) q6⟩
                · exact (mk35 ck35).elim
              · exfalso; omega
              · exact (zx_2 ck2 mk21).elim
            · replace cq39 := cq39.symm
              subst cq39
              replace cq40 := cq40.symm
              subst cq40
              replace h := zk_t (by decide) h
              have hroom := CI_room hI (by first | omega | decide) ck19
              replace k := zk_f (by rw [i32_le, z32_0]; omega) k
              replace k := zk_o3 k
              obtain ⟨mr_2, mu_3, mu_4, mh39, k⟩ := k
              rcases mb_number2 (m := mod_claims.toInt) hT hR hf hp rfl mh39 with ⟨mk40, mk41, mq43, mq44, mq45, mk42⟩ | ⟨mk40, mk41, _, _, _, mk42⟩ | ⟨mk40, _, _, _⟩
              · replace mq43 := mq43.symm
                subst mq43
                replace mq44 := mq44.symm
                subst mq44
                replace mq45 := mq45.symm
                subst mq45
                have mk42a := mk42.1
                have mk42b := nmv_b2 (ts := ts) (tb := tb) at_
                replace k := zk_f (by rw [i32_le, z32_0]; omega) k
                replace k := zk_o2 k
                obtain ⟨mr_7, mu_8, mh46, k⟩ := k
                obtain mq48 := mb_was0 hI hx (by first | omega | decide) ck19 mh46
                replace mq48 := mq48.symm
                subst mq48
                replace k := zk_t (by decide) k
                unfold B_X12_readClaims_43 at k
                rw [(show mod_askedMany x1.toNatClampNeg = su_askedCount from hI.2.1)] at k
                replace k := zk_t (by rw [i32_lt, z32_0]; omega) k
                replace k := zk_gd k
                obtain ⟨_, k⟩ := k
                replace k := zk_lt k
                obtain ⟨mv_15, me49, k⟩ := k
                subst me49
                replace k := zk_gd k
                obtain ⟨_, k⟩ := k
                replace k := zk_lt k
                obtain ⟨mf_17, me50, k⟩ := k
                replace k := zk_gd k
                obtain ⟨_, k⟩ := k
                replace k := zk_lt k
                obtain ⟨mv_19, me51, k⟩ := k
                subst me51
                replace k := zk_gd k
                obtain ⟨_, k⟩ := k
                replace k := zk_lt k
                obtain ⟨mf_21, me52, k⟩ := k
                replace k := zk_o2 k
                obtain ⟨mr_22, mu_23, mh53, k⟩ := k
                rcases mb_isNext (n := 44) hT hR mk42 (by decide) mh53 with ⟨mk54, _, _, mk55⟩ | ⟨mk54, mq56, mq57⟩
                · exact (ck35 mk54).elim
                · replace mq56 := mq56.symm
                  subst mq56
                  replace mq57 := mq57.symm
                  subst mq57
                  replace k := zk_t (by decide) k
                  subst me50
                  subst me52
                  replace h := Option.some.inj h
                  replace k := Option.some.inj k
                  rw [← h, ← k]
                  first | (exfalso; omega) | exact Or.inr ⟨rfl, rfl, rfl, ck3, (CI_ask hI hx (by omega) ck19 (nb32 (by omega)) (ix32 hx (by omega))), (FR_up (ix32 hx (by omega)) (by omega))⟩
              · exfalso; omega
              · exact (zx_2 ck2 mk40).elim
      · replace cq8 := cq8.symm
        subst cq8
        replace cq9 := cq9.symm
        subst cq9
        replace cq10 := cq10.symm
        subst cq10
        replace cq11 := cq11.symm
        subst cq11
        by_cases cc42 : mod_claims ≤ (0 : Int32)
        · replace h := zk_t cc42 h
          have cc42n := cc42
          (try simp only [i32_lt, i32_le, i32_e, z32_0, z32_1] at cc42n)
          unfold B_X8_readClaims_42 at h
          unfold B_X8_readClaims_43 at h
          replace h := zk_o1 h
          obtain ⟨cu_13, ch43, h⟩ := h
          obtain cq44 := cb_judgeP (hp).1 ch43
          replace cq44 := cq44.symm
          subst cq44
          replace h := zk_t (by rw [i32_le, z32_0]; omega) h
          unfold B_X8_readClaims_63 at h
          replace h := zk_o2 h
          obtain ⟨cr_20, cu_21, ch45, h⟩ := h
          obtain ⟨cq46, cq47⟩ := cb_acceptP (hp).1 ch45
          replace cq46 := cq46.symm
          subst cq46
          replace cq47 := cq47.symm
          subst cq47
          replace h := zk_t (by decide) h
          replace k := zk_f (by rw [i32_le, z32_0]; omega) k
          replace k := zk_o3 k
          obtain ⟨mr_2, mu_3, mu_4, mh58, k⟩ := k
          rcases mb_number2 (m := mod_claims.toInt) hT hR hf hp rfl mh58 with ⟨mk59, mk60, _, _, _, mk61⟩ | ⟨mk59, mk60, _, _, _, mk61⟩ | ⟨mk59, mq62, mq63, mq64⟩
          · exact (zx_2 mk59 ck2).elim
          · exact (zx_2 mk59 ck2).elim
          · replace mq62 := mq62.symm
            subst mq62
            replace mq63 := mq63.symm
            subst mq63
            replace mq64 := mq64.symm
            subst mq64
            replace k := zk_t (by rw [i32_le, z32_0]; omega) k
            unfold B_X12_readClaims_43 at k
            rw [(show mod_askedMany x1.toNatClampNeg = su_askedCount from hI.2.1)] at k
            replace k := zk_f (by rw [i32_lt, z32_0]; omega) k
            replace h := Option.some.inj h
            replace k := Option.some.inj k
            rw [← h, ← k]
            first | (exfalso; omega) | exact Or.inl ⟨(hp).1, rfl, FR_rf⟩
        · replace h := zk_f cc42 h
          have cc42n := cc42
          (try simp only [i32_lt, i32_le, i32_e, z32_0, z32_1] at cc42n)
          replace h := zk_o2 h
          obtain ⟨cr_9, cu_10, ch48, h⟩ := h
          rcases cb_hasAsked (by first | omega | decide) ch48 with ⟨ck49, cq50⟩ | ⟨ck49, cq51⟩
          · replace cq50 := cq50.symm
            subst cq50
            replace h := zk_f (by decide) h
            unfold B_X8_readClaims_42 at h
            unfold B_X8_readClaims_43 at h
            replace h := zk_o1 h
            obtain ⟨cu_13, ch52, h⟩ := h
            obtain cq53 := cb_judgeP (hp).1 ch52
            replace cq53 := cq53.symm
            subst cq53
            replace h := zk_t (by rw [i32_le, z32_0]; omega) h
            unfold B_X8_readClaims_63 at h
            replace h := zk_o2 h
            obtain ⟨cr_20, cu_21, ch54, h⟩ := h
            obtain ⟨cq55, cq56⟩ := cb_acceptP (hp).1 ch54
            replace cq55 := cq55.symm
            subst cq55
            replace cq56 := cq56.symm
            subst cq56
            replace h := zk_t (by decide) h
            replace k := zk_f (by rw [i32_le, z32_0]; omega) k
            replace k := zk_o3 k
            obtain ⟨mr_2, mu_3, mu_4, mh65, k⟩ := k
            rcases mb_number2 (m := mod_claims.toInt) hT hR hf hp rfl mh65 with ⟨mk66, mk67, _, _, _, mk68⟩ | ⟨mk66, mk67, _, _, _, mk68⟩ | ⟨mk66, mq69, mq70, mq71⟩
            · exact (zx_2 mk66 ck2).elim
            · exact (zx_2 mk66 ck2).elim
            · replace mq69 := mq69.symm
              subst mq69
              replace mq70 := mq70.symm
              subst mq70
              replace mq71 := mq71.symm
              subst mq71
              replace k := zk_t (by rw [i32_le, z32_0]; omega) k
              unfold B_X12_readClaims_43 at k
              rw [(show mod_askedMany x1.toNatClampNeg = su_askedCount from hI.2.1)] at k
              replace k := zk_f (by rw [i32_lt, z32_0]; omega) k
              replace h := Option.some.inj h
              replace k := Option.some.inj k
              rw [← h, ← k]
              first | (exfalso; omega) | exact Or.inl ⟨(hp).1, rfl, FR_rf⟩
          · replace cq51 := cq51.symm
            subst cq51
            replace h := zk_t (by decide) h
            unfold B_X8_readClaims_43 at h
            replace h := zk_o1 h
            obtain ⟨cu_13, ch57, h⟩ := h
            obtain cq58 := cb_judgeP (hp).1 ch57
            replace cq58 := cq58.symm
            subst cq58
            replace h := zk_t (by rw [i32_le, z32_0]; omega) h
            unfold B_X8_readClaims_63 at h
            replace h := zk_o2 h
            obtain ⟨cr_20, cu_21, ch59, h⟩ := h
            obtain ⟨cq60, cq61⟩ := cb_acceptP (hp).1 ch59
            replace cq60 := cq60.symm
            subst cq60
            replace cq61 := cq61.symm
            subst cq61
            replace h := zk_t (by decide) h
            have hroom := CI_room hI (by first | omega | decide) ck49
            replace k := zk_f (by rw [i32_le, z32_0]; omega) k
            replace k := zk_o3 k
            obtain ⟨mr_2, mu_3, mu_4, mh72, k⟩ := k
            rcases mb_number2 (m := mod_claims.toInt) hT hR hf hp rfl mh72 with ⟨mk73, mk74, _, _, _, mk75⟩ | ⟨mk73, mk74, _, _, _, mk75⟩ | ⟨mk73, mq76, mq77, mq78⟩
            · exact (zx_2 mk73 ck2).elim
            · exact (zx_2 mk73 ck2).elim
            · replace mq76 := mq76.symm
              subst mq76
              replace mq77 := mq77.symm
              subst mq77
              replace mq78 := mq78.symm
              subst mq78
              replace k := zk_t (by rw [i32_le, z32_0]; omega) k
              unfold B_X12_readClaims_43 at k
              rw [(show mod_askedMany x1.toNatClampNeg = su_askedCount from hI.2.1)] at k
              replace k := zk_f (by rw [i32_lt, z32_0]; omega) k
              replace h := Option.some.inj h
              replace k := Option.some.inj k
              rw [← h, ← k]
              first | (exfalso; omega) | exact Or.inl ⟨(hp).1, rfl, FR_rf⟩
