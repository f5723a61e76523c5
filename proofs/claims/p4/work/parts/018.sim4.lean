
theorem HH_1 {o : Int32} (a : 0 ≤ o.toInt) (b : o.toInt < 6) : HH0 (o + 1) + 6 ≤ HH0 o + 1 := by
  unfold HH0
  rw [i32_s ⟨a, by omega⟩]
  omega
set_option maxHeartbeats 4000000 in
set_option maxRecDepth 20000 in
theorem law_lv {mod_code : Int32} {court_shoeCount : Int32} {mod_claims : Int32} {ts : Int32} {f : Int32} {court_suitCount : Int32} {mod_doneMany : Int32} {mod_undoneMany : Int32} {mod_isBoth : Int32} {mod_wished : Int32} {mod_bestMany : Int32} {mod_bestRow : Int32} {mod_ringDigits : Int32} {mod_traces : Int32} {tm : Nat → Int32} {tb : Nat → Int32} (hT : TS ts) (hR : TR ts tb tm) (hB : ∀ k, k < ts.toInt.toNat → (tb k).toInt ≤ 255) : ∀ (n m : Nat) (o : Int32), SUBS ts tb (HH0 o + 6) o (fun sz a f cd => (grp_lawgrp n).1 0 o ts tb sz a f cd) (fun he g o l ac wi => (grp_grp43 m).2.2.1 mod_code court_shoeCount mod_claims ts he g court_suitCount mod_doneMany mod_undoneMany o l mod_isBoth mod_wished mod_bestMany mod_bestRow mod_ringDigits mod_traces tm ac wi) ∧ SUBS ts tb (HH0 o + 5) o (fun sz a f cd => (grp_lawgrp n).1 1 o ts tb sz a f cd) (fun he g o l ac wi => (grp_grp43 m).1 mod_code court_shoeCount mod_claims ts he g court_suitCount mod_doneMany mod_undoneMany o l mod_isBoth mod_wished mod_bestMany mod_bestRow mod_ringDigits mod_traces tm ac wi) ∧ SUBS ts tb (HH0 o + 4) o (fun sz a f cd => (grp_lawgrp n).1 2 o ts tb sz a f cd) (fun he g o l ac wi => (grp_grp43 m).2.1 mod_code court_shoeCount mod_claims ts he g court_suitCount mod_doneMany mod_undoneMany o l mod_isBoth mod_wished mod_bestMany mod_bestRow mod_ringDigits mod_traces tm ac wi) ∧ SUBS ts tb (HH0 o + 3) o (fun sz a f cd => (grp_lawgrp n).1 3 o ts tb sz a f cd) (fun he g o l ac wi => (grp_grp43 m).2.2.2.2.2 mod_code court_shoeCount mod_claims ts he g court_suitCount mod_doneMany mod_undoneMany o l mod_isBoth mod_wished mod_bestMany mod_bestRow mod_ringDigits mod_traces tm ac wi) ∧ SUBS ts tb (HH0 o + 2) o (fun sz a f cd => (grp_lawgrp n).1 4 o ts tb sz a f cd) (fun he g o l ac wi => (grp_grp43 m).2.2.2.2.1 mod_code court_shoeCount mod_claims ts he g court_suitCount mod_doneMany mod_undoneMany o l mod_isBoth mod_wished mod_bestMany mod_bestRow mod_ringDigits mod_traces tm ac wi) ∧ SUBS ts tb (HH0 o + 1) o (fun sz a f cd => (grp_lawgrp n).1 5 o ts tb sz a f cd) (fun he g o l ac wi => (grp_grp43 m).2.2.2.1 mod_code court_shoeCount mod_claims ts he g court_suitCount mod_doneMany mod_undoneMany o l mod_isBoth mod_wished mod_bestMany mod_bestRow mod_ringDigits mod_traces tm ac wi) ∧ SUBS ts tb (HH0 o + 1) o (fun sz a f cd => (grp_lawgrp n).2 o ts tb sz a f cd) (fun he g o l ac wi => (grp_grp43 m).2.2.2.1 mod_code court_shoeCount mod_claims ts he g court_suitCount mod_doneMany mod_undoneMany o l mod_isBoth mod_wished mod_bestMany mod_bestRow mod_ringDigits mod_traces tm ac wi) := by
  intro n
  induction n with
  | zero =>
    intro m o
    refine ⟨?_, ?_, ?_, ?_, ?_, ?_, ?_⟩ <;>
    · intro sz a f cd he g o2 l ac wi R S hp h h2
      cases h
  | succ n ih =>
    intro m o
    have k5 : SUBS ts tb (HH0 o + 1) o (fun sz a f cd => (grp_lawgrp (n + 1)).1 5 o ts tb sz a f cd) (fun he g o l ac wi => (grp_grp43 m).2.2.2.1 mod_code court_shoeCount mod_claims ts he g court_suitCount mod_doneMany mod_undoneMany o l mod_isBoth mod_wished mod_bestMany mod_bestRow mod_ringDigits mod_traces tm ac wi) := by
      intro sz a f cd he g o2 l ac wi R S hp h h2
      have h : f_X5_readLevel ((grp_lawgrp n).1) ((grp_lawgrp n).2) 100000 5 o ts tb sz a f cd = some R := h
      unfold f_X5_readLevel B_X5_readLevel_0 at h
      have h := zk_f (show ¬ (5 : Int32) ≤ (4 : Int32) by decide) h
      obtain ⟨v1, v2, v3, v4, j1, h⟩ := zk_o4 h
      have h := Option.some.inj h
      rw [← h]
      exact (ih m o).2.2.2.2.2.2 _ _ _ _ _ _ _ _ _ _ _ _ hp j1 h2
    cases m with
    | zero =>
      refine ⟨?_, ?_, ?_, ?_, ?_, k5, ?_⟩ <;>
      · intro sz a f cd he g o2 l ac wi R S hp h h2
        cases h2
    | succ m =>
      have i0 := ih m o
      have i1 := ih m (o + 1)
      refine ⟨?_, ?_, ?_, ?_, ?_, k5, ?_⟩
      · exact lv_go (lv := 0) hT ⟨by decide, by decide⟩ (by decide) (rs_either (r_X12_both := (grp_grp43 m).1) (r_X12_compared := (grp_grp43 m).2.1) (r_X12_either := (grp_grp43 m).2.2.1) (r_X12_operand := (grp_grp43 m).2.2.2.1) (r_X12_product := (grp_grp43 m).2.2.2.2.1) (r_X12_sum := (grp_grp43 m).2.2.2.2.2) hT hR) i0.2.1 (fun he g o2 l ac wi S h => rf_either (r_X12_both := (grp_grp43 m).1) (r_X12_compared := (grp_grp43 m).2.1) (r_X12_either := (grp_grp43 m).2.2.1) (r_X12_operand := (grp_grp43 m).2.2.2.1) (r_X12_product := (grp_grp43 m).2.2.2.2.1) (r_X12_sum := (grp_grp43 m).2.2.2.2.2) h)
      · exact lv_go (lv := 1) hT ⟨by decide, by decide⟩ (by decide) (rs_both (r_X12_both := (grp_grp43 m).1) (r_X12_compared := (grp_grp43 m).2.1) (r_X12_either := (grp_grp43 m).2.2.1) (r_X12_operand := (grp_grp43 m).2.2.2.1) (r_X12_product := (grp_grp43 m).2.2.2.2.1) (r_X12_sum := (grp_grp43 m).2.2.2.2.2) hT hR) i0.2.2.1 (fun he g o2 l ac wi S h => rf_both (r_X12_both := (grp_grp43 m).1) (r_X12_compared := (grp_grp43 m).2.1) (r_X12_either := (grp_grp43 m).2.2.1) (r_X12_operand := (grp_grp43 m).2.2.2.1) (r_X12_product := (grp_grp43 m).2.2.2.2.1) (r_X12_sum := (grp_grp43 m).2.2.2.2.2) h)
      · exact lv_cmp hT i0.2.2.2.1 (fun he g o2 l ac wi S h => rf_compared (r_X12_both := (grp_grp43 m).1) (r_X12_compared := (grp_grp43 m).2.1) (r_X12_either := (grp_grp43 m).2.2.1) (r_X12_operand := (grp_grp43 m).2.2.2.1) (r_X12_product := (grp_grp43 m).2.2.2.2.1) (r_X12_sum := (grp_grp43 m).2.2.2.2.2) hT hR h)
      · exact lv_go (lv := 3) hT ⟨by decide, by decide⟩ (by decide) (rs_sum (r_X12_both := (grp_grp43 m).1) (r_X12_compared := (grp_grp43 m).2.1) (r_X12_either := (grp_grp43 m).2.2.1) (r_X12_operand := (grp_grp43 m).2.2.2.1) (r_X12_product := (grp_grp43 m).2.2.2.2.1) (r_X12_sum := (grp_grp43 m).2.2.2.2.2) hT hR) i0.2.2.2.2.1 (fun he g o2 l ac wi S h => rf_sum (r_X12_both := (grp_grp43 m).1) (r_X12_compared := (grp_grp43 m).2.1) (r_X12_either := (grp_grp43 m).2.2.1) (r_X12_operand := (grp_grp43 m).2.2.2.1) (r_X12_product := (grp_grp43 m).2.2.2.2.1) (r_X12_sum := (grp_grp43 m).2.2.2.2.2) h)
      · exact lv_go (lv := 4) hT ⟨by decide, by decide⟩ (by decide) (rs_product (r_X12_both := (grp_grp43 m).1) (r_X12_compared := (grp_grp43 m).2.1) (r_X12_either := (grp_grp43 m).2.2.1) (r_X12_operand := (grp_grp43 m).2.2.2.1) (r_X12_product := (grp_grp43 m).2.2.2.2.1) (r_X12_sum := (grp_grp43 m).2.2.2.2.2) hT hR) i0.2.2.2.2.2.1 (fun he g o2 l ac wi S h => rf_product (r_X12_both := (grp_grp43 m).1) (r_X12_compared := (grp_grp43 m).2.1) (r_X12_either := (grp_grp43 m).2.2.1) (r_X12_operand := (grp_grp43 m).2.2.2.1) (r_X12_product := (grp_grp43 m).2.2.2.2.1) (r_X12_sum := (grp_grp43 m).2.2.2.2.2) h)
      · exact op_sub (r_X12_both := (grp_grp43 m).1) (r_X12_compared := (grp_grp43 m).2.1) (r_X12_either := (grp_grp43 m).2.2.1) (r_X12_operand := (grp_grp43 m).2.2.2.1) (r_X12_product := (grp_grp43 m).2.2.2.2.1) (r_X12_sum := (grp_grp43 m).2.2.2.2.2) hT hR hB (Nat.le_add_left 1 _) (fun a b => HH_1 a b) (fun a b => Nat.le_trans (by omega) (HH_1 a b)) i1.1 i1.2.2.2.2.2.2
/-- a line: its test (empty: none), its value -/
def lnl (ln : List (Int32 × Int32) × List (Int32 × Int32)) : Nat := if ln.1.length = 0 then ln.2.length + 1 else ln.1.length + ln.2.length + 2
def LNS (ln : List (Int32 × Int32) × List (Int32 × Int32)) : Prop := TSG 36 ln.2 ∧ (ln.1 = [] ∨ TSG 36 ln.1)
def LNC (cd : Nat → Int32) (a : Nat) (ln : List (Int32 × Int32) × List (Int32 × Int32)) : Prop := (ln.1 = [] ∧ CTk cd a ln.2 ∧ cd (a + ln.2.length) = 2) ∨ (0 < ln.1.length ∧ CTk cd a ln.1 ∧ cd (a + ln.1.length) = ((Int32.ofNat (a + ln.1.length + ln.2.length + 2)) <<< ((5 : Int32) &&& 31)) ||| (3 : Int32) ∧ CTk cd (a + ln.1.length + 1) ln.2 ∧ cd (a + ln.1.length + 1 + ln.2.length) = 2)
def LNM (ac wi te le : Nat → Int32) (b r l : Nat) (ln : List (Int32 × Int32) × List (Int32 × Int32)) : Prop := MTk ac wi (b + l) (ln.1 ++ ln.2) ∧ (te r).toInt = ((l + ln.1.length : Nat) : Int) ∧ (le r).toInt = ((l + ln.1.length + ln.2.length : Nat) : Int)
theorem TSG_pos {H : Nat} {L : List (Int32 × Int32)} (h : TSG H L) : 0 < L.length := by
  cases L with
  | nil =>
    obtain ⟨v, e, _⟩ := h (fun _ => 0) []
    have e : some [] = some [v] := e
    cases e
  | cons x t => exact Nat.succ_pos _
theorem CTk_fr {cd cd2 : Nat → Int32} {a : Nat} {L : List (Int32 × Int32)} (h : CTk cd a L) (hf : ∀ k, a ≤ k → k < a + L.length → cd2 k = cd k) : CTk cd2 a L := fun k x hk => by
  have hl := (List.getElem?_eq_some_iff.mp hk).1
  rw [hf _ (by omega) (by omega)]
  exact h k x hk
theorem MTk_fr {ac wi ac2 wi2 : Nat → Int32} {b : Nat} {L : List (Int32 × Int32)} (h : MTk ac wi b L) (hf : ∀ k, b ≤ k → k < b + L.length → ac2 k = ac k ∧ wi2 k = wi k) : MTk ac2 wi2 b L := fun k x hk => by
  have hl := (List.getElem?_eq_some_iff.mp hk).1
  rw [(hf _ (by omega) (by omega)).1, (hf _ (by omega) (by omega)).2]
  exact h k x hk
theorem upd_at {f : Nat → Int32} {k i : Nat} {v : Int32} (h : i = k) : upd f k v i = v := by
  unfold upd
  exact if_pos h
def LNO (ts sz a l : Int32) (cd ac wi lm te le : Nat → Int32) (R : Int32 × Int32 × Int32 × (Nat → Int32)) (S : Int32 × Int32 × Int32 × Int32 × (Nat → Int32) × (Nat → Int32) × (Nat → Int32) × (Nat → Int32) × (Nat → Int32)) : Prop := (R.2.2.1.toInt < 0 ∧ S.2.1.toInt < 0 ∧ S.1 = R.2.1 ∧ PB ts R.2.1 ∧ S.2.2.1 = 0 ∧ 0 ≤ R.1.toInt ∧ R.1.toInt ≤ R.2.1.toInt + 1 ∧ 0 ≤ S.2.2.2.1.toInt ∧ S.2.2.2.1.toInt ≤ R.2.1.toInt ∧ a.toInt + 1 ≤ R.2.1.toInt) ∧ S.2.2.2.2.2.2.1 = upd lm 32 (lm 32 + 1) ∧ ∃ ln : List (Int32 × Int32) × List (Int32 × Int32), LNS ln ∧ LNC R.2.2.2 sz.toInt.toNat ln ∧ R.1.toInt = sz.toInt + (lnl ln : Int) ∧ (∀ k, k < sz.toInt.toNat → R.2.2.2 k = cd k) ∧ LNM S.2.2.2.2.1 S.2.2.2.2.2.1 S.2.2.2.2.2.2.2.1 S.2.2.2.2.2.2.2.2 4160 (1952 + (lm 32).toInt.toNat) l.toInt.toNat ln ∧ S.2.2.2.1.toInt = l.toInt + ((ln.1.length + ln.2.length : Nat) : Int) ∧ (∀ k, k < 4160 + l.toInt.toNat → S.2.2.2.2.1 k = ac k ∧ S.2.2.2.2.2.1 k = wi k) ∧ (∀ i, i ≠ 1952 + (lm 32).toInt.toNat → S.2.2.2.2.2.2.2.1 i = te i ∧ S.2.2.2.2.2.2.2.2 i = le i)
set_option maxHeartbeats 4000000 in
set_option maxRecDepth 20000 in
theorem m5_l68 {mod_code : Int32} {court_shoeCount : Int32} {mod_claims : Int32} {ts : Int32} {court_suitCount : Int32} {mod_doneMany : Int32} {mod_undoneMany : Int32} {mod_isBoth : Int32} {mod_wished : Int32} {mod_bestMany : Int32} {mod_bestRow : Int32} {mod_ringDigits : Int32} {mod_traces : Int32} {tm : Nat → Int32} {x1 q1 q2 q3 q4 : Int32} {q5 q6 lm te le : Nat → Int32} {S : Int32 × Int32 × Int32 × Int32 × (Nat → Int32) × (Nat → Int32) × (Nat → Int32) × (Nat → Int32) × (Nat → Int32)} (h : B_X12_line_68 mod_code court_shoeCount mod_claims ts court_suitCount mod_doneMany mod_undoneMany mod_isBoth mod_wished mod_bestMany mod_bestRow mod_ringDigits mod_traces tm x1 q1 q2 q3 q4 q5 q6 lm te le = some S) : S = (q1, q2, q3, q4, q5, q6, upd lm 32 (lm 32 + 1), te, upd le x1.toNatClampNeg (vp_nar .short q4.toInt16.toInt32)) := by
  have e32 : (32 : Int32).toNatClampNeg = 32 := by decide
  unfold B_X12_line_68 at h
  obtain ⟨v1, e1, h⟩ := zk_lt h
  obtain ⟨_, h⟩ := zk_gd h
  obtain ⟨v2, e2, h⟩ := zk_lt h
  obtain ⟨v3, e3, h⟩ := zk_lt h
  obtain ⟨v4, e4, h⟩ := zk_lt h
  rw [e32] at e3 e4
  have h := (Option.some.inj h).symm
  rw [h, e2, e4, e3, e1]
set_option maxHeartbeats 4000000 in
set_option maxRecDepth 20000 in
theorem ln_rel {mod_code : Int32} {court_shoeCount : Int32} {mod_claims : Int32} {ts : Int32} {court_suitCount : Int32} {mod_doneMany : Int32} {mod_undoneMany : Int32} {mod_isBoth : Int32} {mod_wished : Int32} {mod_bestMany : Int32} {mod_bestRow : Int32} {mod_ringDigits : Int32} {mod_traces : Int32} {tm : Nat → Int32} {tb : Nat → Int32} {sz a f he g l : Int32} {cd ac wi lm te le : Nat → Int32} {R : Int32 × Int32 × Int32 × (Nat → Int32)} {S : Int32 × Int32 × Int32 × Int32 × (Nat → Int32) × (Nat → Int32) × (Nat → Int32) × (Nat → Int32) × (Nat → Int32)} (hT : TS ts) (hR : TR ts tb tm) (hB : ∀ k, k < ts.toInt.toNat → (tb k).toInt ≤ 255) (hp : LPR ts 0 sz a f he g 0 l) (hk : 0 ≤ (lm 32).toInt ∧ (lm 32).toInt ≤ 60) (h : f_X5_readLine ts tb sz a f cd = some R) (k : f_X12_line mod_code court_shoeCount mod_claims ts he g court_suitCount mod_doneMany mod_undoneMany 0 l mod_isBoth mod_wished mod_bestMany mod_bestRow mod_ringDigits mod_traces tm ac wi lm te le = some S) : LNO ts sz a l cd ac wi lm te le R S ∨ LBAD ts tb R.2.1 R.2.2.1 S.2.1 := by
  have e32 : (32 : Int32).toNatClampNeg = 32 := by decide
  have hT2 := hT.2
  have hr : ((1952 : Int32) + lm 32).toNatClampNeg = 1952 + (lm 32).toInt.toNat := by
    have e0 : (1952 : Int32).toInt = 1952 := by decide
    show ((1952 : Int32) + lm 32).toInt.toNat = _
    rw [i32_a (by decide) (by omega), e0]
    omega
  obtain ⟨p1, p2, p3, p4, p5, p6, p7, p8, p9, p10, p11⟩ := id hp
  subst p3
  have p4' := p4.2
  have lv := (law_lv hT hR hB 60 60 0).1
  rw [show HH0 0 + 6 = 36 from by decide] at lv
  unfold f_X5_readLine B_X5_readLine_0 at h
  obtain ⟨u1, u2, u3, u4, a1, h⟩ := zk_o4 h
  unfold f_X12_line B_X12_line_0 at k
  rw [e32] at k
  obtain ⟨v1, e1, k⟩ := zk_lt k
  obtain ⟨v2, e2, k⟩ := zk_lt k
  obtain ⟨_, k⟩ := zk_gd k
  obtain ⟨t4, e4, k⟩ := zk_lt k
  obtain ⟨y5, y6, y7, y8, y9, y10, b1, k⟩ := zk_o6 k
  subst e1
  subst e2
  rcases lv _ _ _ _ _ _ _ _ _ _ _ _ hp a1 b1 with ⟨hp1, L1, t1, q1⟩ | hb
  · have hp1 : LPR ts 0 u1 u2 u3 y5 y6 y7 y8 := hp1
    have q1 : SEGS sz.toInt he.toInt l.toInt cd ac wi u1.toInt u2.toInt y8.toInt u4 y9 y10 L1 := q1
    obtain ⟨g1, g2, g3, g4, g5, g6, g7, g8, g9, g10, g11⟩ := id hp1
    have g4' := g4.2
    subst g3
    subst g5
    have tp1 := TSG_pos t1
    obtain ⟨s1, s2, s3, s4, s5, s6, s7⟩ := q1
    have k := zk_f (show ¬ 0 ≤ y6 by rw [i32_le, z32_0]; omega) k
    obtain ⟨r13, w14, c1, k⟩ := zk_o2 k
    have hb1 := mb_look hT hR g4 c1
    obtain ⟨r6, w7, c2, h⟩ := zk_o2 h
    rcases c5_accept hT (fun _ => g4) (x1 := 63) (n := 63) ⟨by decide, by decide⟩ c2 with ⟨_, z, r1, r2, r3⟩ | ⟨z, r1, r2⟩
    · have r1 := r1.symm
      subst r1
      subst r2
      have e13 : r13 = (63 : Int32) := (BR_e hb1 ⟨by decide, by decide, by decide⟩).mpr z
      have k := zk_t e13 k
      obtain ⟨v17, e17, k⟩ := zk_lt k
      obtain ⟨v18, e18, k⟩ := zk_lt k
      obtain ⟨_, k⟩ := zk_gd k
      obtain ⟨f20, e20, k⟩ := zk_lt k
      obtain ⟨z5, z6, z7, z8, z9, z10, b2, k⟩ := zk_o6 k
      subst e17
      subst e18
      have h := zk_f (show ¬ (1 : Int32) = 0 by decide) h
      obtain ⟨u13, u14, c3, h⟩ := zk_o2 h
      obtain ⟨u16, u17, u18, u19, a2, h⟩ := zk_o4 h
      obtain ⟨u21, u22, c4, h⟩ := zk_o2 h
      have r3' := r3.2
      have en := i32_s (a := y5) (by have := g4.1; omega)
      obtain ⟨d1, d2, d3⟩ := (c5_emit c3).1 g1 g8 (by omega)
      have d1 : u13.toInt = u1.toInt + 1 := d1
      have d3 : u14 = upd u4 u1.toInt.toNat 3 := d3
      have hp2 : LPR ts 0 u13 (y5 + 1) u3 (y5 + 1) y6 0 y8 := ⟨g1, g2, rfl, r3, rfl, g6, g7, by omega, by omega, g10, by omega⟩
      rcases lv _ _ _ _ _ _ _ _ _ _ _ _ hp2 a2 b2 with ⟨hp3, L2, t2, q2⟩ | hb
      · have hp3 : LPR ts 0 u16 u17 u18 z5 z6 z7 z8 := hp3
        have q2 : SEGS u13.toInt (y5 + 1).toInt y8.toInt u14 y9 y10 u16.toInt u17.toInt z8.toInt u19 z9 z10 L2 := q2
        obtain ⟨j1, j2, j3, j4, j5, j6, j7, j8, j9, j10, j11⟩ := id hp3
        subst j3
        subst j5
        have j4' := j4.2
        have tp2 := TSG_pos t2
        obtain ⟨w1, w2, w3, w4, w5, w6, w7⟩ := q2
        obtain ⟨x1, x2, x3⟩ := (c5_emit c4).1 j1 j8 (by omega)
        have x1 : u21.toInt = u16.toInt + 1 := x1
        have x3 : u22 = upd u19 u16.toInt.toNat 2 := x3
        have h := zk_f (show ¬ (121 : Int32) ≤ u1 by
          rw [i32_le, show (121 : Int32).toInt = 121 from by decide]
          omega) h
        obtain ⟨v25, e25, h⟩ := zk_lt h
        obtain ⟨_, h⟩ := zk_gd h
        obtain ⟨f27, e27, h⟩ := zk_lt h
        unfold B_X5_readLine_59 at h
        have h := (Option.some.inj h).symm
        have k := m5_l68 k
        have eu : u1.toNatClampNeg = u1.toInt.toNat := rfl
        have fr : ∀ i, i ≠ u1.toInt.toNat → i ≠ u16.toInt.toNat → f27 i = u19 i := fun i n1 n2 => by
          rw [e27, upd_n (by rw [eu]; exact n1), x3, upd_n n2]
        have fr1 : ∀ i, i < u1.toInt.toNat → f27 i = u4 i := fun i hi => by
          rw [fr i (by omega) (by omega), w5 i (by omega), d3, upd_n (by omega)]
        have ez8 : vp_nar .short (z8.toInt16.toInt32) = z8 := by
          rw [zn_short0 ⟨by omega, by omega⟩]
          exact zn_shortI ⟨by omega, by omega⟩
        have ey8 : vp_nar .short (y8.toInt16.toInt32) = y8 := by
          rw [zn_short0 ⟨by omega, by omega⟩]
          exact zn_shortI ⟨by omega, by omega⟩
        refine Or.inl ?_
        rw [h, k]
        refine ⟨⟨j1, j2, rfl, j4, rfl, by show 0 ≤ u21.toInt; omega, by show u21.toInt ≤ z5.toInt + 1; omega, j10, j11, by show he.toInt + 1 ≤ z5.toInt; omega⟩, rfl, (L1, L2), ⟨t2, Or.inr t1⟩, Or.inr ⟨tp1, ?_, ?_, ?_, ?_⟩, ?_, ?_, ⟨?_, ?_, ?_⟩, ?_, ?_, ?_⟩
        · exact CTk_fr s4 (fun i i1 i2 => fr1 i (by omega))
        · show f27 (sz.toInt.toNat + L1.length) = _
          have ei : sz.toInt.toNat + L1.length = u1.toInt.toNat := by omega
          rw [ei, e27, upd_at eu.symm, e25]
          congr 2
          rw [i32_n (x := u21) (by omega)]
          congr 1
          show u21.toInt.toNat = u1.toInt.toNat + L2.length + 2
          omega
        · show CTk f27 (sz.toInt.toNat + L1.length + 1) L2
          have ei : u13.toInt.toNat = sz.toInt.toNat + L1.length + 1 := by omega
          rw [← ei]
          exact CTk_fr w4 (fun i i1 i2 => fr i (by omega) (by omega))
        · show f27 (sz.toInt.toNat + L1.length + 1 + L2.length) = 2
          have ei : sz.toInt.toNat + L1.length + 1 + L2.length = u16.toInt.toNat := by omega
          rw [ei, e27, upd_n (by rw [eu]; omega), x3, upd_at rfl]
        · show u21.toInt = sz.toInt + ((lnl (L1, L2) : Nat) : Int)
          unfold lnl
          rw [if_neg (show ¬ L1.length = 0 by omega)]
          show u21.toInt = sz.toInt + ((L1.length + L2.length + 2 : Nat) : Int)
          omega
        · intro i hi
          show f27 i = cd i
          rw [fr1 i (by omega), s5 i hi]
        · show MTk z9 z10 (4160 + l.toInt.toNat) (L1 ++ L2)
          have ei : 4160 + y8.toInt.toNat = 4160 + l.toInt.toNat + L1.length := by omega
          rw [ei] at w6 w7
          exact MTk_app s6 w6 w7
        · show (f20 (1952 + (lm 32).toInt.toNat)).toInt = ((l.toInt.toNat + L1.length : Nat) : Int)
          rw [e20, upd_at hr.symm, ey8]
          omega
        · show (upd le ((1952 : Int32) + lm 32).toNatClampNeg (vp_nar .short (z8.toInt16.toInt32)) (1952 + (lm 32).toInt.toNat)).toInt = ((l.toInt.toNat + L1.length + L2.length : Nat) : Int)
          rw [upd_at hr.symm, ez8]
          omega
        · show z8.toInt = l.toInt + ((L1.length + L2.length : Nat) : Int)
          omega
        · intro i hi
          show z9 i = ac i ∧ z10 i = wi i
          have := w7 i (by omega)
          have := s7 i hi
          rw [(w7 i (by omega)).1, (w7 i (by omega)).2]
          exact s7 i hi
        · intro i hi
          show f20 i = te i ∧ upd le ((1952 : Int32) + lm 32).toNatClampNeg (vp_nar .short (z8.toInt16.toInt32)) i = le i
          rw [e20, upd_n (by rw [hr]; exact hi), e4, upd_n (by rw [hr]; exact hi), upd_n (by rw [hr]; exact hi)]
          exact ⟨rfl, rfl⟩
      · have hb : LBAD ts tb u17 u18 z6 := hb
        refine Or.inr ?_
        have k := m5_l68 k
        have hR2 : R.2.1 = u17 ∧ R.2.2.1 = u18 := by
          by_cases c121 : (121 : Int32) ≤ u1
          · have h := zk_t c121 h
            unfold B_X5_readLine_59 at h
            rw [← Option.some.inj h]
            exact ⟨rfl, rfl⟩
          · have h := zk_f c121 h
            obtain ⟨v25, e25, h⟩ := zk_lt h
            obtain ⟨_, h⟩ := zk_gd h
            obtain ⟨f27, e27, h⟩ := zk_lt h
            unfold B_X5_readLine_59 at h
            rw [← Option.some.inj h]
            exact ⟨rfl, rfl⟩
        rw [hR2.1, hR2.2, k]
        exact hb
    · subst r1
      have r2 := r2.symm
      subst r2
      have z : bZ ts tb y5 ≠ 63 := z.elim (fun y => by omega) id
      have k := zk_f (fun y => z ((BR_e hb1 ⟨by decide, by decide, by decide⟩).mp y)) k
      have h := zk_t rfl h
      obtain ⟨u10, u11, c3, h⟩ := zk_o2 h
      have h := (Option.some.inj h).symm
      have k := m5_l68 k
      obtain ⟨x1, x2, x3⟩ := (c5_emit c3).1 g1 g8 (by omega)
      have x1 : u10.toInt = u1.toInt + 1 := x1
      have x3 : u11 = upd u4 u1.toInt.toNat 2 := x3
      have ey8 : vp_nar .short (y8.toInt16.toInt32) = y8 := by
        rw [zn_short0 ⟨by omega, by omega⟩]
        exact zn_shortI ⟨by omega, by omega⟩
      have el : vp_nar .short (l.toInt16.toInt32) = l := by
        rw [zn_short0 ⟨by omega, by omega⟩]
        exact zn_shortI ⟨by omega, by omega⟩
      refine Or.inl ?_
      rw [h, k]
      refine ⟨⟨g1, g2, rfl, g4, rfl, by show 0 ≤ u10.toInt; omega, by show u10.toInt ≤ y5.toInt + 1; omega, g10, g11, by show he.toInt + 1 ≤ y5.toInt; omega⟩, rfl, ([], L1), ⟨t1, Or.inl rfl⟩, Or.inl ⟨rfl, ?_, ?_⟩, ?_, ?_, ⟨?_, ?_, ?_⟩, ?_, ?_, ?_⟩
      · show CTk u11 sz.toInt.toNat L1
        exact CTk_fr s4 (fun i i1 i2 => by rw [x3, upd_n (by omega)])
      · show u11 (sz.toInt.toNat + L1.length) = 2
        rw [x3, upd_at (by omega)]
      · show u10.toInt = sz.toInt + ((lnl ([], L1) : Nat) : Int)
        have e : lnl ([], L1) = L1.length + 1 := rfl
        rw [e]
        omega
      · intro i hi
        show u11 i = cd i
        rw [x3, upd_n (by omega), s5 i hi]
      · exact s6
      · show (t4 (1952 + (lm 32).toInt.toNat)).toInt = ((l.toInt.toNat + 0 : Nat) : Int)
        rw [e4, upd_at hr.symm, el]
        omega
      · show (upd le ((1952 : Int32) + lm 32).toNatClampNeg (vp_nar .short (y8.toInt16.toInt32)) (1952 + (lm 32).toInt.toNat)).toInt = ((l.toInt.toNat + 0 + L1.length : Nat) : Int)
        rw [upd_at hr.symm, ey8]
        omega
      · show y8.toInt = l.toInt + ((0 + L1.length : Nat) : Int)
        omega
      · intro i hi
        exact s7 i hi
      · intro i hi
        show t4 i = te i ∧ upd le ((1952 : Int32) + lm 32).toNatClampNeg (vp_nar .short (y8.toInt16.toInt32)) i = le i
        rw [e4, upd_n (by rw [hr]; exact hi), upd_n (by rw [hr]; exact hi)]
        exact ⟨rfl, rfl⟩
  · have hb : LBAD ts tb u2 u3 y6 := hb
    have g0 := LBAD_g hb
    refine Or.inr ?_
    have k := zk_t (show 0 ≤ y6 by rw [i32_le, z32_0]; exact g0) k
    have k := m5_l68 k
    obtain ⟨r6, w7, c2, h⟩ := zk_o2 h
    have hc : r6 = 0 ∧ w7 = u2 := by
      rcases hb with ⟨b1, b2, b3⟩ | ⟨b1, b2, b3, b4⟩
      · rcases c5_accept hT (fun z => by omega) (x1 := 63) (n := 63) ⟨by decide, by decide⟩ c2 with ⟨z, _⟩ | ⟨z, r1, r2⟩
        · omega
        · exact ⟨r1, r2⟩
      · rcases c5_accept hT (fun _ => b2) (x1 := 63) (n := 63) ⟨by decide, by decide⟩ c2 with ⟨_, z, _⟩ | ⟨z, r1, r2⟩
        · omega
        · exact ⟨r1, r2⟩
    have h := zk_t hc.1 h
    obtain ⟨u10, u11, c3, h⟩ := zk_o2 h
    have h := (Option.some.inj h).symm
    rw [h, k]
    show LBAD ts tb w7 u3 y6
    rw [hc.2]
    exact hb
def LLC (cd : Nat → Int32) : Nat → List (List (Int32 × Int32) × List (Int32 × Int32)) → Nat → Prop
  | a, [], e => a = e
  | a, ln :: t, e => LNC cd a ln ∧ LLC cd (a + lnl ln) t e
def LLM (ac wi te le : Nat → Int32) (b : Nat) : Nat → Nat → List (List (Int32 × Int32) × List (Int32 × Int32)) → Nat → Prop
  | _, l, [], e => l = e
  | r, l, ln :: t, e => LNM ac wi te le b r l ln ∧ LLM ac wi te le b (r + 1) (l + ln.1.length + ln.2.length) t e
theorem LLC_le {cd : Nat → Int32} : ∀ (Ls : List (List (Int32 × Int32) × List (Int32 × Int32))) (a e : Nat), LLC cd a Ls e → a ≤ e
  | [], a, e, h => Nat.le_of_eq h
  | x :: t, a, e, h => by
    have := LLC_le t _ e h.2
    omega
theorem LLM_le {ac wi te le : Nat → Int32} {b : Nat} : ∀ (Ls : List (List (Int32 × Int32) × List (Int32 × Int32))) (r l e : Nat), LLM ac wi te le b r l Ls e → l ≤ e
  | [], r, l, e, h => Nat.le_of_eq h
  | x :: t, r, l, e, h => by
    have := LLM_le t _ _ e h.2
    omega
theorem LNC_fr {cd cd2 : Nat → Int32} {a : Nat} {ln : List (Int32 × Int32) × List (Int32 × Int32)} (h : LNC cd a ln) (hf : ∀ k, a ≤ k → k < a + lnl ln → cd2 k = cd k) : LNC cd2 a ln := by
  unfold lnl at hf
  rcases h with ⟨h1, h2, h3⟩ | ⟨h1, h2, h3, h4, h5⟩
  · rw [if_pos (show ln.1.length = 0 by rw [h1]; rfl)] at hf
    exact Or.inl ⟨h1, CTk_fr h2 (fun k k1 k2 => hf k (by omega) (by omega)), by rw [hf _ (by omega) (by omega)]; exact h3⟩
  · rw [if_neg (show ¬ ln.1.length = 0 by omega)] at hf
    exact Or.inr ⟨h1, CTk_fr h2 (fun k k1 k2 => hf k (by omega) (by omega)), by rw [hf _ (by omega) (by omega)]; exact h3, CTk_fr h4 (fun k k1 k2 => hf k (by omega) (by omega)), by rw [hf _ (by omega) (by omega)]; exact h5⟩
theorem LNM_fr {ac wi te le ac2 wi2 te2 le2 : Nat → Int32} {b b2 r r2 l : Nat} {ln : List (Int32 × Int32) × List (Int32 × Int32)} (h : LNM ac wi te le b r l ln) (hf : ∀ k, l ≤ k → k < l + ln.1.length + ln.2.length → ac2 (b2 + k) = ac (b + k) ∧ wi2 (b2 + k) = wi (b + k)) (h2 : te2 r2 = te r ∧ le2 r2 = le r) : LNM ac2 wi2 te2 le2 b2 r2 l ln := by
  obtain ⟨q1, q2, q3⟩ := h
  refine ⟨fun k x hk => ?_, by rw [h2.1]; exact q2, by rw [h2.2]; exact q3⟩
  have hl := (List.getElem?_eq_some_iff.mp hk).1
  rw [List.length_append] at hl
  have := q1 k x hk
  have e := hf (l + k) (by omega) (by omega)
  rw [← Nat.add_assoc, ← Nat.add_assoc] at e
  rw [e.1, e.2]
  exact this
theorem LLC_sn {cd cd2 : Nat → Int32} {ln : List (Int32 × Int32) × List (Int32 × Int32)} : ∀ (Ls : List (List (Int32 × Int32) × List (Int32 × Int32))) (a e : Nat), LLC cd a Ls e → (∀ k, k < e → cd2 k = cd k) → LNC cd2 e ln → LLC cd2 a (Ls ++ [ln]) (e + lnl ln)
  | [], a, e, h, _, hl => by
    have h : a = e := h
    subst h
    exact ⟨hl, rfl⟩
  | x :: t, a, e, h, hf, hl => by
    have q := LLC_le t _ e h.2
    exact ⟨LNC_fr h.1 (fun k _ k2 => hf k (by omega)), LLC_sn t _ e h.2 hf hl⟩
theorem LLM_sn {ac wi te le ac2 wi2 te2 le2 : Nat → Int32} {b q : Nat} {ln : List (Int32 × Int32) × List (Int32 × Int32)} : ∀ (Ls : List (List (Int32 × Int32) × List (Int32 × Int32))) (r l e : Nat), q = r + Ls.length → LLM ac wi te le b r l Ls e → (∀ k, k < b + e → ac2 k = ac k ∧ wi2 k = wi k) → (∀ i, i < q → te2 i = te i ∧ le2 i = le i) → LNM ac2 wi2 te2 le2 b q e ln → LLM ac2 wi2 te2 le2 b r l (Ls ++ [ln]) (e + ln.1.length + ln.2.length)
  | [], r, l, e, hq, h, _, _, hl => by
    have h : l = e := h
    have hq : q = r := hq
    subst h
    subst hq
    exact ⟨hl, rfl⟩
  | x :: t, r, l, e, hq, h, hf, hg, hl => by
    have z := LLM_le t _ _ e h.2
    have hq : q = r + (t.length + 1) := hq
    exact ⟨LNM_fr h.1 (fun k _ k2 => hf (b + k) (by omega)) (hg r (by omega)), LLM_sn t (r + 1) _ e (by omega) h.2 hf hg hl⟩
theorem LLM_cp {ac wi te le ac2 wi2 te2 le2 : Nat → Int32} {b b2 : Nat} : ∀ (Ls : List (List (Int32 × Int32) × List (Int32 × Int32))) (r r2 l e : Nat), LLM ac wi te le b r l Ls e → (∀ k, k < e → ac2 (b2 + k) = ac (b + k) ∧ wi2 (b2 + k) = wi (b + k)) → (∀ i, i < Ls.length → te2 (r2 + i) = te (r + i) ∧ le2 (r2 + i) = le (r + i)) → LLM ac2 wi2 te2 le2 b2 r2 l Ls e
  | [], _, _, l, e, h, _, _ => h
  | x :: t, r, r2, l, e, h, hf, hg => by
    have z := LLM_le t _ _ e h.2
    refine ⟨LNM_fr h.1 (fun k _ k2 => hf k (by omega)) (hg 0 (Nat.succ_pos _)), LLM_cp t (r + 1) (r2 + 1) _ e h.2 hf (fun i hi => ?_)⟩
    have := hg (i + 1) (Nat.succ_lt_succ hi)
    have e1 : r2 + (i + 1) = r2 + 1 + i := by omega
    have e2 : r + (i + 1) = r + 1 + i := by omega
    rw [e1, e2] at this
    exact this
theorem LLM_b {ac wi te le : Nat → Int32} {b : Nat} : ∀ (Ls : List (List (Int32 × Int32) × List (Int32 × Int32))) (r l e : Nat), LLM ac wi te le b r l Ls e → ∀ i, i < Ls.length → (0 ≤ (te (r + i)).toInt ∧ (te (r + i)).toInt ≤ e) ∧ (0 ≤ (le (r + i)).toInt ∧ (le (r + i)).toInt ≤ e)
  | [], _, _, _, _, i, hi => absurd hi (Nat.not_lt_zero i)
  | x :: t, r, l, e, h, i, hi => by
    have z := LLM_le t _ _ e h.2
    obtain ⟨_, q2, q3⟩ := h.1
    cases i with
    | zero =>
      show (0 ≤ (te r).toInt ∧ (te r).toInt ≤ e) ∧ (0 ≤ (le r).toInt ∧ (le r).toInt ≤ e)
      rw [q2, q3]
      omega
    | succ i =>
      have := LLM_b t (r + 1) _ e h.2 i (Nat.lt_of_succ_lt_succ hi)
      have e1 : r + 1 + i = r + (i + 1) := by omega
      rw [e1] at this
      exact this
theorem LLM_tk {ac wi te le : Nat → Int32} {b : Nat} : ∀ (Ls : List (List (Int32 × Int32) × List (Int32 × Int32))) (r l e : Nat), LLM ac wi te le b r l Ls e → ∀ k, l ≤ k → k < e → ∃ ln ∈ Ls, ∃ x ∈ ln.1 ++ ln.2, ac (b + k) = x.1
  | [], _, l, e, h, k, k1, k2 => by
    have h : l = e := h
    omega
  | x :: t, r, l, e, h, k, k1, k2 => by
    by_cases c : k < l + x.1.length + x.2.length
    · have hl : k - l < (x.1 ++ x.2).length := by
        rw [List.length_append]
        omega
      have q := h.1.1 (k - l) ((x.1 ++ x.2)[k - l]) (List.getElem?_eq_getElem hl)
      have e1 : b + l + (k - l) = b + k := by omega
      rw [e1] at q
      exact ⟨x, List.mem_cons_self .., (x.1 ++ x.2)[k - l], List.getElem_mem hl, q.1⟩
    · obtain ⟨ln, h1, h2⟩ := LLM_tk t _ _ e h.2 k (by omega) k2
      exact ⟨ln, List.mem_cons_of_mem _ h1, h2⟩
theorem ix130 {x y : Int32} (hx : 0 ≤ x.toInt ∧ x.toInt ≤ 32) (hy : 0 ≤ y.toInt ∧ y.toInt ≤ 200) : (((130 : Int32) * x) + y).toNatClampNeg = 130 * x.toInt.toNat + y.toInt.toNat := by
  have e0 : (130 : Int32).toInt = 130 := by decide
  have e : ((130 : Int32) * x).toInt = 130 * x.toInt := by
    rw [Int32.toInt_mul, e0]
    exact zi_bm2 (by omega) (by omega)
  show (((130 : Int32) * x) + y).toInt.toNat = _
  rw [i32_a (by omega) (by omega), e]
  omega
theorem ix61 {x y : Int32} (hx : 0 ≤ x.toInt ∧ x.toInt ≤ 32) (hy : 0 ≤ y.toInt ∧ y.toInt ≤ 200) : (((61 : Int32) * x) + y).toNatClampNeg = 61 * x.toInt.toNat + y.toInt.toNat := by
  have e0 : (61 : Int32).toInt = 61 := by decide
  have e : ((61 : Int32) * x).toInt = 61 * x.toInt := by
    rw [Int32.toInt_mul, e0]
    exact zi_bm2 (by omega) (by omega)
  show (((61 : Int32) * x) + y).toInt.toNat = _
  rw [i32_a (by omega) (by omega), e]
  omega
theorem ixC {c y : Int32} {n : Nat} (hc : c.toInt = n) (hn : n ≤ 5000) (hy : 0 ≤ y.toInt ∧ y.toInt ≤ 200) : (c + y).toNatClampNeg = n + y.toInt.toNat := by
  show (c + y).toInt.toNat = _
  rw [i32_a (by omega) (by omega), hc]
  omega
set_option maxHeartbeats 4000000 in
set_option maxRecDepth 20000 in
theorem cp219 {mod_code : Int32} {court_shoeCount : Int32} {mod_claims : Int32} {court_suitCount : Int32} {mod_doneMany : Int32} {mod_undoneMany : Int32} {mod_isBoth : Int32} {mod_wished : Int32} {mod_bestMany : Int32} {mod_bestRow : Int32} {mod_ringDigits : Int32} {mod_traces : Int32} {tm : Nat → Int32} {x2 : Int32} {he g o l : Int32} {ac wi lm : Nat → Int32} {cnt : Nat} (h2 : 0 ≤ x2.toInt ∧ x2.toInt ≤ 31) (hm : (lm x2.toInt.toNat).toInt = cnt) (hc : cnt ≤ 61) : ∀ (n : Nat) (x3 ts : Int32) (te le : Nat → Int32) (S : Int32 × Int32 × Int32 × Int32 × Int32 × Int32 × (Nat → Int32) × (Nat → Int32) × (Nat → Int32) × (Nat → Int32) × (Nat → Int32)), 0 ≤ x3.toInt → x3.toInt ≤ cnt → (∀ i, i < cnt → (0 ≤ (te (1952 + i)).toInt ∧ (te (1952 + i)).toInt ≤ 1000) ∧ (0 ≤ (le (1952 + i)).toInt ∧ (le (1952 + i)).toInt ≤ 1000)) → (G_X12_law mod_code court_shoeCount mod_claims court_suitCount mod_doneMany mod_undoneMany mod_isBoth mod_wished mod_bestMany mod_bestRow mod_ringDigits mod_traces tm n).2.2 x2 x3 ts he g o l ac wi lm te le = some S → S.1 = 1 ∧ S.2.1 = ts ∧ S.2.2.2.2.2.2.1 = ac ∧ S.2.2.2.2.2.2.2.1 = wi ∧ S.2.2.2.2.2.2.2.2.1 = lm ∧ (∀ i, S.2.2.2.2.2.2.2.2.2.1 i = if 61 * x2.toInt.toNat + x3.toInt.toNat ≤ i ∧ i < 61 * x2.toInt.toNat + cnt then te (1952 + (i - 61 * x2.toInt.toNat)) else te i) ∧ (∀ i, S.2.2.2.2.2.2.2.2.2.2 i = if 61 * x2.toInt.toNat + x3.toInt.toNat ≤ i ∧ i < 61 * x2.toInt.toNat + cnt then le (1952 + (i - 61 * x2.toInt.toNat)) else le i) := by
  intro n
  induction n with
  | zero =>
    intro x3 ts te le S _ _ _ h
    cases h
  | succ n ih =>
    intro x3 ts te le S h0 h1 hb h
    have h : B_X12_law_219 (G_X12_law mod_code court_shoeCount mod_claims court_suitCount mod_doneMany mod_undoneMany mod_isBoth mod_wished mod_bestMany mod_bestRow mod_ringDigits mod_traces tm n).1 (G_X12_law mod_code court_shoeCount mod_claims court_suitCount mod_doneMany mod_undoneMany mod_isBoth mod_wished mod_bestMany mod_bestRow mod_ringDigits mod_traces tm n).2.1 (G_X12_law mod_code court_shoeCount mod_claims court_suitCount mod_doneMany mod_undoneMany mod_isBoth mod_wished mod_bestMany mod_bestRow mod_ringDigits mod_traces tm n).2.2 mod_code court_shoeCount mod_claims court_suitCount mod_doneMany mod_undoneMany mod_isBoth mod_wished mod_bestMany mod_bestRow mod_ringDigits mod_traces tm x2 x3 ts he g o l ac wi lm te le = some S := h
    unfold B_X12_law_219 at h
    obtain ⟨_, h⟩ := zk_gd h
    have ex : x2.toNatClampNeg = x2.toInt.toNat := rfl
    rw [ex] at h
    have e1952 : (1952 : Int32).toInt = ((1952 : Nat) : Int) := by decide
    by_cases c : lm x2.toInt.toNat ≤ x3
    · have h := (Option.some.inj (zk_t c h)).symm
      rw [i32_le, hm] at c
      rw [h]
      exact ⟨rfl, rfl, rfl, rfl, rfl, fun i => by rw [if_neg (by omega)], fun i => by rw [if_neg (by omega)]⟩
    · have h := zk_f c h
      rw [i32_le, hm] at c
      obtain ⟨_, h⟩ := zk_gd h
      obtain ⟨v56, e56, h⟩ := zk_lt h
      obtain ⟨_, h⟩ := zk_gd h
      obtain ⟨f58, e58, h⟩ := zk_lt h
      obtain ⟨_, h⟩ := zk_gd h
      obtain ⟨v60, e60, h⟩ := zk_lt h
      obtain ⟨_, h⟩ := zk_gd h
      obtain ⟨f62, e62, h⟩ := zk_lt h
      obtain ⟨v63, e63, h⟩ := zk_lt h
      rw [ixC e1952 (by omega) ⟨h0, by omega⟩] at e56 e60
      rw [ix61 ⟨h2.1, by omega⟩ ⟨h0, by omega⟩] at e58 e62
      have hb3 := hb x3.toInt.toNat (by omega)
      rw [zn_shortI (by rw [e56]; omega), e56] at e58
      rw [zn_shortI (by rw [e60]; omega), e60] at e62
      have s3 := i32_s (a := x3) (by omega)
      subst e63
      obtain ⟨q1, q2, q3, q4, q5, q6, q7⟩ := ih _ _ _ _ S (by omega) (by omega) (fun i hi => by
        rw [e58, e62, upd_n (by omega), upd_n (by omega)]
        exact hb i hi) h
      refine ⟨q1, q2, q3, q4, q5, fun i => ?_, fun i => ?_⟩
      · rw [q6 i, s3, e58]
        by_cases ci : i = 61 * x2.toInt.toNat + x3.toInt.toNat
        · rw [if_neg (by omega), if_pos (by omega), upd_at ci]
          congr 1
          omega
        · by_cases c2 : 61 * x2.toInt.toNat + (x3.toInt + 1).toNat ≤ i ∧ i < 61 * x2.toInt.toNat + cnt
          · rw [if_pos c2, if_pos (by omega), upd_n (by omega)]
          · rw [if_neg c2, if_neg (by omega), upd_n ci]
      · rw [q7 i, s3, e62]
        by_cases ci : i = 61 * x2.toInt.toNat + x3.toInt.toNat
        · rw [if_neg (by omega), if_pos (by omega), upd_at ci]
          congr 1
          omega
        · by_cases c2 : 61 * x2.toInt.toNat + (x3.toInt + 1).toNat ≤ i ∧ i < 61 * x2.toInt.toNat + cnt
          · rw [if_pos c2, if_pos (by omega), upd_n (by omega)]
          · rw [if_neg c2, if_neg (by omega), upd_n ci]
set_option maxHeartbeats 4000000 in
set_option maxRecDepth 20000 in
theorem cp146 {mod_code : Int32} {court_shoeCount : Int32} {mod_claims : Int32} {court_suitCount : Int32} {mod_doneMany : Int32} {mod_undoneMany : Int32} {mod_isBoth : Int32} {mod_wished : Int32} {mod_bestMany : Int32} {mod_bestRow : Int32} {mod_ringDigits : Int32} {mod_traces : Int32} {tm : Nat → Int32} {x2 : Int32} {he g o l : Int32} {lm te le : Nat → Int32} (h2 : 0 ≤ x2.toInt ∧ x2.toInt ≤ 31) (hm : 0 ≤ (lm 32).toInt ∧ (lm 32).toInt ≤ 61) (hl : 0 ≤ l.toInt ∧ l.toInt ≤ 120) (hb : ∀ i, i < (lm 32).toInt.toNat → (0 ≤ (te (1952 + i)).toInt ∧ (te (1952 + i)).toInt ≤ 1000) ∧ (0 ≤ (le (1952 + i)).toInt ∧ (le (1952 + i)).toInt ≤ 1000)) : ∀ (n : Nat) (x3 ts : Int32) (ac wi : Nat → Int32) (S : Int32 × Int32 × Int32 × Int32 × Int32 × Int32 × (Nat → Int32) × (Nat → Int32) × (Nat → Int32) × (Nat → Int32) × (Nat → Int32)), 0 ≤ x3.toInt → x3.toInt ≤ l.toInt → (∀ i, i < l.toInt.toNat → -128 ≤ (ac (4160 + i)).toInt ∧ (ac (4160 + i)).toInt ≤ 127) → (G_X12_law mod_code court_shoeCount mod_claims court_suitCount mod_doneMany mod_undoneMany mod_isBoth mod_wished mod_bestMany mod_bestRow mod_ringDigits mod_traces tm n).2.1 x2 x3 ts he g o l ac wi lm te le = some S → S.1 = 1 ∧ S.2.1 = ts ∧ (∀ i, S.2.2.2.2.2.2.1 i = if 130 * x2.toInt.toNat + x3.toInt.toNat ≤ i ∧ i < 130 * x2.toInt.toNat + l.toInt.toNat then ac (4160 + (i - 130 * x2.toInt.toNat)) else ac i) ∧ (∀ i, S.2.2.2.2.2.2.2.1 i = if 130 * x2.toInt.toNat + x3.toInt.toNat ≤ i ∧ i < 130 * x2.toInt.toNat + l.toInt.toNat then wi (4160 + (i - 130 * x2.toInt.toNat)) else wi i) ∧ S.2.2.2.2.2.2.2.2.1 = upd lm x2.toInt.toNat (lm 32) ∧ (∀ i, S.2.2.2.2.2.2.2.2.2.1 i = if 61 * x2.toInt.toNat ≤ i ∧ i < 61 * x2.toInt.toNat + (lm 32).toInt.toNat then te (1952 + (i - 61 * x2.toInt.toNat)) else te i) ∧ (∀ i, S.2.2.2.2.2.2.2.2.2.2 i = if 61 * x2.toInt.toNat ≤ i ∧ i < 61 * x2.toInt.toNat + (lm 32).toInt.toNat then le (1952 + (i - 61 * x2.toInt.toNat)) else le i) := by
  intro n
  induction n with
  | zero =>
    intro x3 ts ac wi S _ _ _ h
    cases h
  | succ n ih =>
    intro x3 ts ac wi S h0 h1 ha h
    have h : B_X12_law_146 (G_X12_law mod_code court_shoeCount mod_claims court_suitCount mod_doneMany mod_undoneMany mod_isBoth mod_wished mod_bestMany mod_bestRow mod_ringDigits mod_traces tm n).1 (G_X12_law mod_code court_shoeCount mod_claims court_suitCount mod_doneMany mod_undoneMany mod_isBoth mod_wished mod_bestMany mod_bestRow mod_ringDigits mod_traces tm n).2.1 (G_X12_law mod_code court_shoeCount mod_claims court_suitCount mod_doneMany mod_undoneMany mod_isBoth mod_wished mod_bestMany mod_bestRow mod_ringDigits mod_traces tm n).2.2 mod_code court_shoeCount mod_claims court_suitCount mod_doneMany mod_undoneMany mod_isBoth mod_wished mod_bestMany mod_bestRow mod_ringDigits mod_traces tm x2 x3 ts he g o l ac wi lm te le = some S := h
    unfold B_X12_law_146 at h
    have e32 : (32 : Int32).toNatClampNeg = 32 := by decide
    rw [e32] at h
    have ex : x2.toNatClampNeg = x2.toInt.toNat := rfl
    rw [ex] at h
    have e4160 : (4160 : Int32).toInt = ((4160 : Nat) : Int) := by decide
    by_cases c : l ≤ x3
    · have h := zk_t c h
      rw [i32_le] at c
      obtain ⟨v41, e41, h⟩ := zk_lt h
      obtain ⟨_, h⟩ := zk_gd h
      obtain ⟨f43, e43, h⟩ := zk_lt h
      rw [e41] at e43
      have hm2 : (f43 x2.toInt.toNat).toInt = ((lm 32).toInt.toNat : Int) := by
        rw [e43, upd_at rfl]
        omega
      obtain ⟨q1, q2, q3, q4, q5, q6, q7⟩ := cp219 h2 hm2 (by omega) n _ _ _ _ S (by decide) (by rw [z32_0]; omega) hb h
      rw [z32_0] at q6 q7
      refine ⟨q1, q2, fun i => by rw [q3, if_neg (by omega)], fun i => by rw [q4, if_neg (by omega)], by rw [q5, e43], q6, q7⟩
    · have h := zk_f c h
      rw [i32_le] at c
      obtain ⟨_, h⟩ := zk_gd h
      obtain ⟨v45, e45, h⟩ := zk_lt h
      obtain ⟨_, h⟩ := zk_gd h
      obtain ⟨f47, e47, h⟩ := zk_lt h
      obtain ⟨_, h⟩ := zk_gd h
      obtain ⟨v49, e49, h⟩ := zk_lt h
      obtain ⟨_, h⟩ := zk_gd h
      obtain ⟨f51, e51, h⟩ := zk_lt h
      obtain ⟨v52, e52, h⟩ := zk_lt h
      rw [ixC e4160 (by omega) ⟨h0, by omega⟩] at e45 e49
      rw [ix130 ⟨h2.1, by omega⟩ ⟨h0, by omega⟩] at e47 e51
      have ha3 := ha x3.toInt.toNat (by omega)
      rw [zn_byteI (by rw [e45]; exact ha3), e45] at e47
      rw [e49] at e51
      have s3 := i32_s (a := x3) (by omega)
      subst e52
      obtain ⟨q1, q2, q3, q4, q5⟩ := ih _ _ _ _ S (by omega) (by omega) (fun i hi => by
        rw [e47, upd_n (by omega)]
        exact ha i hi) h
      refine ⟨q1, q2, fun i => ?_, fun i => ?_, q5⟩
      · rw [q3 i, s3, e47]
        by_cases ci : i = 130 * x2.toInt.toNat + x3.toInt.toNat
        · rw [if_neg (by omega), if_pos (by omega), upd_at ci]
          congr 1
          omega
        · by_cases c2 : 130 * x2.toInt.toNat + (x3.toInt + 1).toNat ≤ i ∧ i < 130 * x2.toInt.toNat + l.toInt.toNat
          · rw [if_pos c2, if_pos (by omega), upd_n (by omega)]
          · rw [if_neg c2, if_neg (by omega), upd_n ci]
      · rw [q4 i, s3, e51]
        by_cases ci : i = 130 * x2.toInt.toNat + x3.toInt.toNat
        · rw [if_neg (by omega), if_pos (by omega), upd_at ci]
          congr 1
          omega
        · by_cases c2 : 130 * x2.toInt.toNat + (x3.toInt + 1).toNat ≤ i ∧ i < 130 * x2.toInt.toNat + l.toInt.toNat
          · rw [if_pos c2, if_pos (by omega), upd_n (by omega)]
          · rw [if_neg c2, if_neg (by omega), upd_n ci]
