
set_option maxHeartbeats 4000000 in
set_option maxRecDepth 20000 in
theorem c5_step {ts : Int32} {tb : Nat → Int32} {rL : Int32 → Int32 → Int32 → (Nat → Int32) → Int32 → Int32 → Int32 → (Nat → Int32) → (Option (Int32 × Int32 × Int32 × (Nat → Int32)))} {rO : Int32 → Int32 → (Nat → Int32) → Int32 → Int32 → Int32 → (Nat → Int32) → (Option (Int32 × Int32 × Int32 × (Nat → Int32)))} {n : Nat} {lv o x3 sz a f : Int32} {cd : Nat → Int32} {R : Int32 × Int32 × Int32 × (Nat → Int32)} (hT : TS ts) (hl : 0 ≤ lv.toInt ∧ lv.toInt ≤ 4) (h : G_X5_readLevel rL rO ts tb (n + 1) lv o x3 sz a f cd = some R) : (R = (sz, a, f, cd) ∧ (120 ≤ x3.toInt ∨ 0 ≤ f.toInt ∨ ¬ sgn lv (bZ ts tb a))) ∨ (x3.toInt < 120 ∧ f.toInt < 0 ∧ sgn lv (bZ ts tb a) ∧ ∃ u1 u2 u3 u4 e1 e2, rL (lv + 1) o ts tb sz (a + 1) f cd = some (u1, u2, u3, u4) ∧ f_X5_emit (enc (bz ts tb a, 0)) u1 u2 u3 u4 = some (e1, e2) ∧ (lv = 2 → R = (e1, u2, u3, e2)) ∧ (¬ lv = 2 → G_X5_readLevel rL rO ts tb n lv o (x3 + 1) e1 u2 u3 e2 = some R)) := by
  have h : B_X5_readLevel_21 rL rO (G_X5_readLevel rL rO ts tb n) ts tb lv o x3 sz a f cd = some R := h
  unfold B_X5_readLevel_21 at h
  have e120 : (120 : Int32).toInt = 120 := by decide
  by_cases c1 : (120 : Int32) ≤ x3
  · have h := (Option.some.inj (zk_t c1 h)).symm
    rw [i32_le, e120] at c1
    exact Or.inl ⟨h, Or.inl c1⟩
  have h := zk_f c1 h
  rw [i32_le, e120] at c1
  by_cases c2 : 0 ≤ f
  · have h := (Option.some.inj (zk_t c2 h)).symm
    rw [i32_le, z32_0] at c2
    exact Or.inl ⟨h, Or.inr (Or.inl c2)⟩
  have h := zk_f c2 h
  rw [i32_le, z32_0] at c2
  obtain ⟨r1, w1, a1, h⟩ := zk_o2 h
  rcases c5_op hT hl a1 with ⟨hs, e⟩ | ⟨hs, e⟩
  · have e0 : 0 ≤ r1 := by
      rw [e]
      have hk := sgn_tk (show sgn lv (bz ts tb a).toInt from hs)
      unfold enc
      rw [if_neg hk.2.1, if_neg hk.2.2.1, if_neg hk.2.2.2.1, if_neg hk.2.2.2.2]
      repeat' split
      all_goals decide
    have h := zk_t e0 h
    obtain ⟨v1, e1, h⟩ := zk_lt h
    subst e1
    obtain ⟨u1, u2, u3, u4, a2, h⟩ := zk_o4 h
    obtain ⟨g1, g2, a3, h⟩ := zk_o2 h
    rw [e] at a3
    refine Or.inr ⟨by omega, by omega, hs, u1, u2, u3, u4, g1, g2, a2, a3, fun k => ?_, fun k => ?_⟩
    · exact (Option.some.inj (zk_t k h)).symm
    · have h := zk_f k h
      obtain ⟨v2, e2, h⟩ := zk_lt h
      subst e2
      exact h
  · have h := zk_f (show ¬ 0 ≤ r1 by rw [e]; decide) h
    exact Or.inl ⟨(Option.some.inj h).symm, Or.inr (Or.inr hs)⟩
/-- one round of a loop of the reference's, with its sub-reader -/
def RSTEP (ts : Int32) (tb : Nat → Int32) (lv : Int32) (GM : Nat → Int32 → Int32 → Int32 → Int32 → (Nat → Int32) → (Nat → Int32) → Option (Int32 × Int32 × Int32 × Int32 × (Nat → Int32) × (Nat → Int32))) (sub : Int32 → Int32 → Int32 → Int32 → (Nat → Int32) → (Nat → Int32) → Option (Int32 × Int32 × Int32 × Int32 × (Nat → Int32) × (Nat → Int32))) : Prop := (∀ he g o l ac wi S, ¬ GM 0 he g o l ac wi = some S) ∧ ∀ m he g o l ac wi S, (g.toInt < 0 → PB ts he) → GM (m + 1) he g o l ac wi = some S → (S = (he, g, o, l, ac, wi) ∧ (0 ≤ g.toInt ∨ ¬ sgn lv (bZ ts tb he))) ∨ (g.toInt < 0 ∧ sgn lv (bZ ts tb he) ∧ ∃ u1 u2 u3 u4 u5 u6 l2 a2 w2, sub (he + 1) g o l ac wi = some (u1, u2, u3, u4, u5, u6) ∧ ((0 ≤ u4.toInt ∧ u4.toInt ≤ 1000) → l2 = u4 + 1 ∧ a2 = upd u5 (4160 + u4.toInt.toNat) (bz ts tb he) ∧ w2 = upd u6 (4160 + u4.toInt.toNat) 0) ∧ GM m u1 u2 u3 l2 a2 w2 = some S)
/-- a sub-reader of the class beside one of the reference's -/
def SUBS (ts : Int32) (tb : Nat → Int32) (kh : Nat) (o : Int32) (cl : Int32 → Int32 → Int32 → (Nat → Int32) → Option (Int32 × Int32 × Int32 × (Nat → Int32))) (sub : Int32 → Int32 → Int32 → Int32 → (Nat → Int32) → (Nat → Int32) → Option (Int32 × Int32 × Int32 × Int32 × (Nat → Int32) × (Nat → Int32))) : Prop := ∀ sz a f cd he g o2 l ac wi R S, LPR ts o sz a f he g o2 l → cl sz a f cd = some R → sub he g o2 l ac wi = some S → LOUT ts tb kh o sz.toInt a.toInt l.toInt cd ac wi R S
theorem LPR_n {ts : Int32} {tb : Nat → Int32} {lv o sz a f he g o2 l : Int32} (hT : TS ts) (h : LPR ts o sz a f he g o2 l) (hs : sgn lv (bZ ts tb a)) : LPR ts o sz (a + 1) f (he + 1) g o2 l ∧ (a + 1).toInt = a.toInt + 1 ∧ a.toInt < ts.toInt := by
  obtain ⟨h1, h2, h3, h4, h5, h6, h7, h8, h9, h10, h11⟩ := h
  have hr := sgn_r hs
  have hp := PB_s (tb := tb) hT h4 (by omega)
  have ht := hT.2
  have ha := h4.2
  have ha0 := h4.1
  have e := i32_s (a := a) (by omega)
  have hp2 := hp.2
  exact ⟨⟨h1, h2, by rw [h3], hp, h5, h6, h7, h8, by omega, h10, by omega⟩, e, by omega⟩
theorem LBAD_sg {ts : Int32} {tb : Nat → Int32} {lv a f g : Int32} (h : LBAD ts tb a f g) (hf : f.toInt < 0) (hs : sgn lv (bZ ts tb a)) : False := by
  have hr := sgn_r hs
  rcases h with ⟨h1, _⟩ | ⟨_, _, h2, _⟩
  · omega
  · exact hr.2.2 h2
theorem LBAD_g {ts : Int32} {tb : Nat → Int32} {a f g : Int32} (h : LBAD ts tb a f g) : 0 ≤ g.toInt := by
  rcases h with ⟨h1, _, h2⟩ | ⟨_, h1, _, h2⟩
  · rw [h2]
    exact h1
  · rw [h2]
    exact h1.1

set_option maxHeartbeats 4000000 in
set_option maxRecDepth 20000 in
theorem lp_bad {ts : Int32} {tb : Nat → Int32} {rL : Int32 → Int32 → Int32 → (Nat → Int32) → Int32 → Int32 → Int32 → (Nat → Int32) → (Option (Int32 × Int32 × Int32 × (Nat → Int32)))} {rO : Int32 → Int32 → (Nat → Int32) → Int32 → Int32 → Int32 → (Nat → Int32) → (Option (Int32 × Int32 × Int32 × (Nat → Int32)))} {lv o : Int32} {GM : Nat → Int32 → Int32 → Int32 → Int32 → (Nat → Int32) → (Nat → Int32) → Option (Int32 × Int32 × Int32 × Int32 × (Nat → Int32) × (Nat → Int32))} {sub : Int32 → Int32 → Int32 → Int32 → (Nat → Int32) → (Nat → Int32) → Option (Int32 × Int32 × Int32 × Int32 × (Nat → Int32) × (Nat → Int32))} (hT : TS ts) (hl : 0 ≤ lv.toInt ∧ lv.toInt ≤ 4) (hG : RSTEP ts tb lv GM sub) {n m : Nat} {x3 sz a f he g o2 l : Int32} {cd ac wi : Nat → Int32} {R : Int32 × Int32 × Int32 × (Nat → Int32)} {S : Int32 × Int32 × Int32 × Int32 × (Nat → Int32) × (Nat → Int32)} (hb : LBAD ts tb a f g) (h : G_X5_readLevel rL rO ts tb n lv o x3 sz a f cd = some R) (h2 : GM m he g o2 l ac wi = some S) : LBAD ts tb R.2.1 R.2.2.1 S.2.1 := by
  cases n with
  | zero => cases h
  | succ n =>
    cases m with
    | zero => exact absurd h2 (hG.1 _ _ _ _ _ _ _)
    | succ m =>
      have g0 := LBAD_g hb
      rcases hG.2 m _ _ _ _ _ _ _ (fun z => by omega) h2 with ⟨e2, _⟩ | ⟨z, _⟩
      · rcases c5_step hT hl h with ⟨e1, _⟩ | ⟨_, z, hs, _⟩
        · rw [e1, e2]
          exact hb
        · exact (LBAD_sg hb z hs).elim
      · omega
set_option maxHeartbeats 4000000 in
set_option maxRecDepth 20000 in
theorem lp_go {ts : Int32} {tb : Nat → Int32} {rL : Int32 → Int32 → Int32 → (Nat → Int32) → Int32 → Int32 → Int32 → (Nat → Int32) → (Option (Int32 × Int32 × Int32 × (Nat → Int32)))} {rO : Int32 → Int32 → (Nat → Int32) → Int32 → Int32 → Int32 → (Nat → Int32) → (Option (Int32 × Int32 × Int32 × (Nat → Int32)))} {kh : Nat} {lv o : Int32} {GM : Nat → Int32 → Int32 → Int32 → Int32 → (Nat → Int32) → (Nat → Int32) → Option (Int32 × Int32 × Int32 × Int32 × (Nat → Int32) × (Nat → Int32))} {sub : Int32 → Int32 → Int32 → Int32 → (Nat → Int32) → (Nat → Int32) → Option (Int32 × Int32 × Int32 × Int32 × (Nat → Int32) × (Nat → Int32))} (hT : TS ts) (hl : 0 ≤ lv.toInt ∧ lv.toInt ≤ 4) (h2l : ¬ lv = 2) (hG : RSTEP ts tb lv GM sub) (hS : SUBS ts tb kh o (fun sz a f cd => rL (lv + 1) o ts tb sz a f cd) sub) {s0 a0 l0 : Int} {c0 A0 W0 : Nat → Int32} (hs0 : 0 ≤ s0) (hl0 : 0 ≤ l0) : ∀ (n m : Nat) (x3 sz a f he g o2 l : Int32) (cd ac wi : Nat → Int32) (R : Int32 × Int32 × Int32 × (Nat → Int32)) (S : Int32 × Int32 × Int32 × Int32 × (Nat → Int32) × (Nat → Int32)) (L : List (Int32 × Int32)), LPR ts o sz a f he g o2 l → TSG (kh + 1) L → SEGS s0 a0 l0 c0 A0 W0 sz.toInt a.toInt l.toInt cd ac wi L → 0 ≤ x3.toInt → x3.toInt ≤ a.toInt → G_X5_readLevel rL rO ts tb n lv o x3 sz a f cd = some R → GM m he g o2 l ac wi = some S → LOUT ts tb (kh + 1) o s0 a0 l0 c0 A0 W0 R S := by
  intro n
  induction n with
  | zero => intro m x3 sz a f he g o2 l cd ac wi R S L hp hL hg hx0 hx1 h h2; cases h
  | succ n ih =>
    intro m x3 sz a f he g o2 l cd ac wi R S L hp hL hg hx0 hx1 h h2
    cases m with
    | zero => exact absurd h2 (hG.1 _ _ _ _ _ _ _)
    | succ m =>
      have ehe : he = a := hp.2.2.1
      subst ehe
      have hg0 : g.toInt < 0 := hp.2.1
      have hf0 : f.toInt < 0 := hp.1
      have hT2 := hT.2
      by_cases hs : sgn lv (bZ ts tb he)
      · obtain ⟨hn, en, hlt⟩ := LPR_n (tb := tb) hT hp hs
        rcases hG.2 m _ _ _ _ _ _ _ (fun _ => hp.2.2.2.1) h2 with ⟨_, z⟩ | ⟨_, _, u1, u2, u3, u4, u5, u6, l2, a2, w2, k1, k2, k3⟩
        · exact False.elim (z.elim (fun y => by omega) (fun y => y hs))
        rcases c5_step hT hl h with ⟨_, z⟩ | ⟨_, _, _, v1, v2, v3, v4, g1, g2, j1, j2, _, j3⟩
        · exact False.elim (z.elim (fun y => by omega) (fun y => y.elim (fun w => by omega) (fun w => w hs)))
        have j3 := j3 h2l
        have ho := hS _ _ _ _ _ _ _ _ _ _ _ _ hn j1 k1
        rcases ho with ⟨hp2, L2, t2, q2⟩ | hb
        · have hp2 : LPR ts o v1 v2 v3 u1 u2 u3 u4 := hp2
          have q2 : SEGS sz.toInt (he + 1).toInt l.toInt cd ac wi v1.toInt v2.toInt u4.toInt v4 u5 u6 L2 := q2
          obtain ⟨b1, b2, b3, b4, b5, b6, b7, b8, b9, b10, b11⟩ := hp2
          have b4' := b4.2
          have qe := c5_emit j2
          have q3 := q2.2.2.1
          have hsz := hp.2.2.2.2.2.2.2.1
          have hl0' := hp.2.2.2.2.2.2.2.2.2.1
          have qs := q2.1
          have ql := q2.2.1
          have m1 := hp.2.2.2.2.2.2.2.2.1
          have m2 := hp.2.2.2.2.2.2.2.2.2.2
          obtain ⟨x1, x2, x3'⟩ := qe.1 b1 b8 (by omega)
          obtain ⟨y1, y2, y3⟩ := k2 ⟨b10, by omega⟩
          have tk := sgn_tk (show sgn lv (bz ts tb he).toInt from hs)
          have sh := SEGS_sh q2 en
          have d1 := SEGS_tr (s0 := s0) hs0 hl0 (Int.le_refl _) hg sh.1
          have la : a0 + ((L ++ L2).length : Int) + 1 ≤ v2.toInt := by
            have := hg.2.2.1
            have := sh.2
            rw [List.length_append]
            omega
          have el := i32_s (a := u4) (by omega)
          have d2 := SEGS_em (x := (bz ts tb he, (0 : Int32))) (v := enc (bz ts tb he, 0)) (b := bz ts tb he) (w := 0) (s2 := g1.toInt) (l2 := l2.toInt) hs0 hl0 d1 la rfl rfl rfl tk.1 rfl rfl x1 (by rw [y1]; exact el)
          have d3 : SEGS s0 a0 l0 c0 A0 W0 g1.toInt v2.toInt l2.toInt g2 a2 w2 (L ++ (L2 ++ [(bz ts tb he, (0 : Int32))])) := by
            have x3'' : g2 = upd v4 v1.toInt.toNat (enc (bz ts tb he, 0)) := x3'
            rw [x3'', y2, y3, ← List.append_assoc]
            exact d2
          have l1 : l2.toInt = u4.toInt + 1 := by rw [y1]; exact el
          have x1' : g1.toInt = v1.toInt + 1 := x1
          have ex := i32_s (a := x3) (by omega)
          refine ih m (x3 + 1) g1 v2 v3 u1 u2 u3 l2 g2 a2 w2 R S _ ⟨b1, b2, b3, b4, b5, b6, b7, by omega, by omega, by omega, by omega⟩ (TSG_bin hL t2 ⟨tk.2.1, tk.2.2.1, tk.2.2.2.1, tk.2.2.2.2⟩ (Nat.le_refl _) (Nat.le_refl _)) d3 (by omega) (by omega) j3 k3
        · have hb : LBAD ts tb v2 v3 u2 := hb
          exact Or.inr (lp_bad hT hl hG hb j3 k3)
      · rcases hG.2 m _ _ _ _ _ _ _ (fun _ => hp.2.2.2.1) h2 with ⟨e2, _⟩ | ⟨_, z, _⟩
        · rcases c5_step hT hl h with ⟨e1, _⟩ | ⟨_, _, z, _⟩
          · rw [e1, e2]
            exact Or.inl ⟨hp, L, hL, hg⟩
          · exact absurd z hs
        · exact absurd z hs
set_option maxHeartbeats 4000000 in
set_option maxRecDepth 20000 in
theorem rs_either {mod_code : Int32} {court_shoeCount : Int32} {mod_claims : Int32} {ts : Int32} {court_suitCount : Int32} {mod_doneMany : Int32} {mod_undoneMany : Int32} {mod_isBoth : Int32} {mod_wished : Int32} {mod_bestMany : Int32} {mod_bestRow : Int32} {mod_ringDigits : Int32} {mod_traces : Int32} {tm : Nat → Int32} {tb : Nat → Int32} {r_X12_both : Int32 → Int32 → Int32 → Int32 → Int32 → Int32 → Int32 → Int32 → Int32 → Int32 → Int32 → Int32 → Int32 → Int32 → Int32 → Int32 → Int32 → (Nat → Int32) → (Nat → Int32) → (Nat → Int32) → (Option (Int32 × Int32 × Int32 × Int32 × (Nat → Int32) × (Nat → Int32)))} {r_X12_compared : Int32 → Int32 → Int32 → Int32 → Int32 → Int32 → Int32 → Int32 → Int32 → Int32 → Int32 → Int32 → Int32 → Int32 → Int32 → Int32 → Int32 → (Nat → Int32) → (Nat → Int32) → (Nat → Int32) → (Option (Int32 × Int32 × Int32 × Int32 × (Nat → Int32) × (Nat → Int32)))} {r_X12_either : Int32 → Int32 → Int32 → Int32 → Int32 → Int32 → Int32 → Int32 → Int32 → Int32 → Int32 → Int32 → Int32 → Int32 → Int32 → Int32 → Int32 → (Nat → Int32) → (Nat → Int32) → (Nat → Int32) → (Option (Int32 × Int32 × Int32 × Int32 × (Nat → Int32) × (Nat → Int32)))} {r_X12_operand : Int32 → Int32 → Int32 → Int32 → Int32 → Int32 → Int32 → Int32 → Int32 → Int32 → Int32 → Int32 → Int32 → Int32 → Int32 → Int32 → Int32 → (Nat → Int32) → (Nat → Int32) → (Nat → Int32) → (Option (Int32 × Int32 × Int32 × Int32 × (Nat → Int32) × (Nat → Int32)))} {r_X12_product : Int32 → Int32 → Int32 → Int32 → Int32 → Int32 → Int32 → Int32 → Int32 → Int32 → Int32 → Int32 → Int32 → Int32 → Int32 → Int32 → Int32 → (Nat → Int32) → (Nat → Int32) → (Nat → Int32) → (Option (Int32 × Int32 × Int32 × Int32 × (Nat → Int32) × (Nat → Int32)))} {r_X12_sum : Int32 → Int32 → Int32 → Int32 → Int32 → Int32 → Int32 → Int32 → Int32 → Int32 → Int32 → Int32 → Int32 → Int32 → Int32 → Int32 → Int32 → (Nat → Int32) → (Nat → Int32) → (Nat → Int32) → (Option (Int32 × Int32 × Int32 × Int32 × (Nat → Int32) × (Nat → Int32)))} (hT : TS ts) (hR : TR ts tb tm) : RSTEP ts tb 0 (fun m he g o l ac wi => G_X12_either r_X12_both r_X12_compared r_X12_either r_X12_operand r_X12_product r_X12_sum mod_code court_shoeCount mod_claims ts court_suitCount mod_doneMany mod_undoneMany mod_isBoth mod_wished mod_bestMany mod_bestRow mod_ringDigits mod_traces tm m he g o l ac wi) (fun he g o l ac wi => r_X12_both mod_code court_shoeCount mod_claims ts he g court_suitCount mod_doneMany mod_undoneMany o l mod_isBoth mod_wished mod_bestMany mod_bestRow mod_ringDigits mod_traces tm ac wi) := by
  refine ⟨fun he g o l ac wi S h => ?_, fun m he g o l ac wi S hp h => ?_⟩
  · cases h
  · have h : B_X12_either_4 r_X12_both r_X12_compared r_X12_either r_X12_operand r_X12_product r_X12_sum (G_X12_either r_X12_both r_X12_compared r_X12_either r_X12_operand r_X12_product r_X12_sum mod_code court_shoeCount mod_claims ts court_suitCount mod_doneMany mod_undoneMany mod_isBoth mod_wished mod_bestMany mod_bestRow mod_ringDigits mod_traces tm m) mod_code court_shoeCount mod_claims ts court_suitCount mod_doneMany mod_undoneMany mod_isBoth mod_wished mod_bestMany mod_bestRow mod_ringDigits mod_traces tm he g o l ac wi = some S := h
    unfold B_X12_either_4 at h
    by_cases c1 : 0 ≤ g
    · have h := (Option.some.inj (zk_t c1 h)).symm
      rw [i32_le, z32_0] at c1
      exact Or.inl ⟨h, Or.inl c1⟩
    have h := zk_f c1 h
    rw [i32_le, z32_0] at c1
    have hp := hp (by omega)
    obtain ⟨r0, w0, a0, h⟩ := zk_o2 h
    have hb0 := mb_look hT hR hp a0
    by_cases b0 : r0 = (124 : Int32)
    · have h := zk_t b0 h
      have ez : bZ ts tb he = 124 := (BR_e hb0 ⟨by decide, by decide, by decide⟩).mp b0
      have eb : bz ts tb he = 124 := Int32.toInt_inj.mp (ez.trans (by decide))
      obtain ⟨v, ev, h⟩ := zk_lt h
      subst ev
      obtain ⟨u1, u2, u3, u4, u5, u6, k1, h⟩ := zk_o6 h
      obtain ⟨l2, a2, w2, k2, h⟩ := zk_o3 h
      refine Or.inr ⟨by omega, Or.inl ⟨rfl, ez⟩, u1, u2, u3, u4, u5, u6, l2, a2, w2, k1, fun hl => ?_, h⟩
      have q := m5_lay ⟨by decide, by decide⟩ hl k2
      rw [eb]
      exact q.2
    have h := zk_f b0 h
    have n0 : bZ ts tb he ≠ 124 := fun z => b0 ((BR_e hb0 ⟨by decide, by decide, by decide⟩).mpr z)
    refine Or.inl ⟨(Option.some.inj h).symm, Or.inr (fun z => ?_)⟩
    rcases z with ⟨z1, z⟩ | ⟨z1, z⟩ | ⟨z1, z⟩ | ⟨z1, z⟩ | ⟨z1, z⟩
    · omega
    · exact absurd z1 (by decide)
    · exact absurd z1 (by decide)
    · exact absurd z1 (by decide)
    · exact absurd z1 (by decide)
set_option maxHeartbeats 4000000 in
set_option maxRecDepth 20000 in
theorem rf_either {mod_code : Int32} {court_shoeCount : Int32} {mod_claims : Int32} {ts : Int32} {court_suitCount : Int32} {mod_doneMany : Int32} {mod_undoneMany : Int32} {mod_isBoth : Int32} {mod_wished : Int32} {mod_bestMany : Int32} {mod_bestRow : Int32} {mod_ringDigits : Int32} {mod_traces : Int32} {tm : Nat → Int32} {r_X12_both : Int32 → Int32 → Int32 → Int32 → Int32 → Int32 → Int32 → Int32 → Int32 → Int32 → Int32 → Int32 → Int32 → Int32 → Int32 → Int32 → Int32 → (Nat → Int32) → (Nat → Int32) → (Nat → Int32) → (Option (Int32 × Int32 × Int32 × Int32 × (Nat → Int32) × (Nat → Int32)))} {r_X12_compared : Int32 → Int32 → Int32 → Int32 → Int32 → Int32 → Int32 → Int32 → Int32 → Int32 → Int32 → Int32 → Int32 → Int32 → Int32 → Int32 → Int32 → (Nat → Int32) → (Nat → Int32) → (Nat → Int32) → (Option (Int32 × Int32 × Int32 × Int32 × (Nat → Int32) × (Nat → Int32)))} {r_X12_either : Int32 → Int32 → Int32 → Int32 → Int32 → Int32 → Int32 → Int32 → Int32 → Int32 → Int32 → Int32 → Int32 → Int32 → Int32 → Int32 → Int32 → (Nat → Int32) → (Nat → Int32) → (Nat → Int32) → (Option (Int32 × Int32 × Int32 × Int32 × (Nat → Int32) × (Nat → Int32)))} {r_X12_operand : Int32 → Int32 → Int32 → Int32 → Int32 → Int32 → Int32 → Int32 → Int32 → Int32 → Int32 → Int32 → Int32 → Int32 → Int32 → Int32 → Int32 → (Nat → Int32) → (Nat → Int32) → (Nat → Int32) → (Option (Int32 × Int32 × Int32 × Int32 × (Nat → Int32) × (Nat → Int32)))} {r_X12_product : Int32 → Int32 → Int32 → Int32 → Int32 → Int32 → Int32 → Int32 → Int32 → Int32 → Int32 → Int32 → Int32 → Int32 → Int32 → Int32 → Int32 → (Nat → Int32) → (Nat → Int32) → (Nat → Int32) → (Option (Int32 × Int32 × Int32 × Int32 × (Nat → Int32) × (Nat → Int32)))} {r_X12_sum : Int32 → Int32 → Int32 → Int32 → Int32 → Int32 → Int32 → Int32 → Int32 → Int32 → Int32 → Int32 → Int32 → Int32 → Int32 → Int32 → Int32 → (Nat → Int32) → (Nat → Int32) → (Nat → Int32) → (Option (Int32 × Int32 × Int32 × Int32 × (Nat → Int32) × (Nat → Int32)))} {m : Nat} {he g o l : Int32} {ac wi : Nat → Int32} {S : Int32 × Int32 × Int32 × Int32 × (Nat → Int32) × (Nat → Int32)} (h : f_X12_either r_X12_both r_X12_compared r_X12_either r_X12_operand r_X12_product r_X12_sum m mod_code court_shoeCount mod_claims ts he g court_suitCount mod_doneMany mod_undoneMany o l mod_isBoth mod_wished mod_bestMany mod_bestRow mod_ringDigits mod_traces tm ac wi = some S) : ∃ u1 u2 u3 u4 u5 u6, (fun he g o l ac wi => r_X12_both mod_code court_shoeCount mod_claims ts he g court_suitCount mod_doneMany mod_undoneMany o l mod_isBoth mod_wished mod_bestMany mod_bestRow mod_ringDigits mod_traces tm ac wi) he g o l ac wi = some (u1, u2, u3, u4, u5, u6) ∧ (fun m he g o l ac wi => G_X12_either r_X12_both r_X12_compared r_X12_either r_X12_operand r_X12_product r_X12_sum mod_code court_shoeCount mod_claims ts court_suitCount mod_doneMany mod_undoneMany mod_isBoth mod_wished mod_bestMany mod_bestRow mod_ringDigits mod_traces tm m he g o l ac wi) m u1 u2 u3 u4 u5 u6 = some S := by
  unfold f_X12_either B_X12_either_0 at h
  obtain ⟨u1, u2, u3, u4, u5, u6, k1, h⟩ := zk_o6 h
  exact ⟨u1, u2, u3, u4, u5, u6, k1, h⟩
set_option maxHeartbeats 4000000 in
set_option maxRecDepth 20000 in
theorem rs_both {mod_code : Int32} {court_shoeCount : Int32} {mod_claims : Int32} {ts : Int32} {court_suitCount : Int32} {mod_doneMany : Int32} {mod_undoneMany : Int32} {mod_isBoth : Int32} {mod_wished : Int32} {mod_bestMany : Int32} {mod_bestRow : Int32} {mod_ringDigits : Int32} {mod_traces : Int32} {tm : Nat → Int32} {tb : Nat → Int32} {r_X12_both : Int32 → Int32 → Int32 → Int32 → Int32 → Int32 → Int32 → Int32 → Int32 → Int32 → Int32 → Int32 → Int32 → Int32 → Int32 → Int32 → Int32 → (Nat → Int32) → (Nat → Int32) → (Nat → Int32) → (Option (Int32 × Int32 × Int32 × Int32 × (Nat → Int32) × (Nat → Int32)))} {r_X12_compared : Int32 → Int32 → Int32 → Int32 → Int32 → Int32 → Int32 → Int32 → Int32 → Int32 → Int32 → Int32 → Int32 → Int32 → Int32 → Int32 → Int32 → (Nat → Int32) → (Nat → Int32) → (Nat → Int32) → (Option (Int32 × Int32 × Int32 × Int32 × (Nat → Int32) × (Nat → Int32)))} {r_X12_either : Int32 → Int32 → Int32 → Int32 → Int32 → Int32 → Int32 → Int32 → Int32 → Int32 → Int32 → Int32 → Int32 → Int32 → Int32 → Int32 → Int32 → (Nat → Int32) → (Nat → Int32) → (Nat → Int32) → (Option (Int32 × Int32 × Int32 × Int32 × (Nat → Int32) × (Nat → Int32)))} {r_X12_operand : Int32 → Int32 → Int32 → Int32 → Int32 → Int32 → Int32 → Int32 → Int32 → Int32 → Int32 → Int32 → Int32 → Int32 → Int32 → Int32 → Int32 → (Nat → Int32) → (Nat → Int32) → (Nat → Int32) → (Option (Int32 × Int32 × Int32 × Int32 × (Nat → Int32) × (Nat → Int32)))} {r_X12_product : Int32 → Int32 → Int32 → Int32 → Int32 → Int32 → Int32 → Int32 → Int32 → Int32 → Int32 → Int32 → Int32 → Int32 → Int32 → Int32 → Int32 → (Nat → Int32) → (Nat → Int32) → (Nat → Int32) → (Option (Int32 × Int32 × Int32 × Int32 × (Nat → Int32) × (Nat → Int32)))} {r_X12_sum : Int32 → Int32 → Int32 → Int32 → Int32 → Int32 → Int32 → Int32 → Int32 → Int32 → Int32 → Int32 → Int32 → Int32 → Int32 → Int32 → Int32 → (Nat → Int32) → (Nat → Int32) → (Nat → Int32) → (Option (Int32 × Int32 × Int32 × Int32 × (Nat → Int32) × (Nat → Int32)))} (hT : TS ts) (hR : TR ts tb tm) : RSTEP ts tb 1 (fun m he g o l ac wi => G_X12_both r_X12_both r_X12_compared r_X12_either r_X12_operand r_X12_product r_X12_sum mod_code court_shoeCount mod_claims ts court_suitCount mod_doneMany mod_undoneMany mod_isBoth mod_wished mod_bestMany mod_bestRow mod_ringDigits mod_traces tm m he g o l ac wi) (fun he g o l ac wi => r_X12_compared mod_code court_shoeCount mod_claims ts he g court_suitCount mod_doneMany mod_undoneMany o l mod_isBoth mod_wished mod_bestMany mod_bestRow mod_ringDigits mod_traces tm ac wi) := by
  refine ⟨fun he g o l ac wi S h => ?_, fun m he g o l ac wi S hp h => ?_⟩
  · cases h
  · have h : B_X12_both_4 r_X12_both r_X12_compared r_X12_either r_X12_operand r_X12_product r_X12_sum (G_X12_both r_X12_both r_X12_compared r_X12_either r_X12_operand r_X12_product r_X12_sum mod_code court_shoeCount mod_claims ts court_suitCount mod_doneMany mod_undoneMany mod_isBoth mod_wished mod_bestMany mod_bestRow mod_ringDigits mod_traces tm m) mod_code court_shoeCount mod_claims ts court_suitCount mod_doneMany mod_undoneMany mod_isBoth mod_wished mod_bestMany mod_bestRow mod_ringDigits mod_traces tm he g o l ac wi = some S := h
    unfold B_X12_both_4 at h
    by_cases c1 : 0 ≤ g
    · have h := (Option.some.inj (zk_t c1 h)).symm
      rw [i32_le, z32_0] at c1
      exact Or.inl ⟨h, Or.inl c1⟩
    have h := zk_f c1 h
    rw [i32_le, z32_0] at c1
    have hp := hp (by omega)
    obtain ⟨r0, w0, a0, h⟩ := zk_o2 h
    have hb0 := mb_look hT hR hp a0
    by_cases b0 : r0 = (38 : Int32)
    · have h := zk_t b0 h
      have ez : bZ ts tb he = 38 := (BR_e hb0 ⟨by decide, by decide, by decide⟩).mp b0
      have eb : bz ts tb he = 38 := Int32.toInt_inj.mp (ez.trans (by decide))
      obtain ⟨v, ev, h⟩ := zk_lt h
      subst ev
      obtain ⟨u1, u2, u3, u4, u5, u6, k1, h⟩ := zk_o6 h
      obtain ⟨l2, a2, w2, k2, h⟩ := zk_o3 h
      refine Or.inr ⟨by omega, Or.inr (Or.inl ⟨rfl, ez⟩), u1, u2, u3, u4, u5, u6, l2, a2, w2, k1, fun hl => ?_, h⟩
      have q := m5_lay ⟨by decide, by decide⟩ hl k2
      rw [eb]
      exact q.2
    have h := zk_f b0 h
    have n0 : bZ ts tb he ≠ 38 := fun z => b0 ((BR_e hb0 ⟨by decide, by decide, by decide⟩).mpr z)
    refine Or.inl ⟨(Option.some.inj h).symm, Or.inr (fun z => ?_)⟩
    rcases z with ⟨z1, z⟩ | ⟨z1, z⟩ | ⟨z1, z⟩ | ⟨z1, z⟩ | ⟨z1, z⟩
    · exact absurd z1 (by decide)
    · omega
    · exact absurd z1 (by decide)
    · exact absurd z1 (by decide)
    · exact absurd z1 (by decide)
set_option maxHeartbeats 4000000 in
set_option maxRecDepth 20000 in
theorem rf_both {mod_code : Int32} {court_shoeCount : Int32} {mod_claims : Int32} {ts : Int32} {court_suitCount : Int32} {mod_doneMany : Int32} {mod_undoneMany : Int32} {mod_isBoth : Int32} {mod_wished : Int32} {mod_bestMany : Int32} {mod_bestRow : Int32} {mod_ringDigits : Int32} {mod_traces : Int32} {tm : Nat → Int32} {r_X12_both : Int32 → Int32 → Int32 → Int32 → Int32 → Int32 → Int32 → Int32 → Int32 → Int32 → Int32 → Int32 → Int32 → Int32 → Int32 → Int32 → Int32 → (Nat → Int32) → (Nat → Int32) → (Nat → Int32) → (Option (Int32 × Int32 × Int32 × Int32 × (Nat → Int32) × (Nat → Int32)))} {r_X12_compared : Int32 → Int32 → Int32 → Int32 → Int32 → Int32 → Int32 → Int32 → Int32 → Int32 → Int32 → Int32 → Int32 → Int32 → Int32 → Int32 → Int32 → (Nat → Int32) → (Nat → Int32) → (Nat → Int32) → (Option (Int32 × Int32 × Int32 × Int32 × (Nat → Int32) × (Nat → Int32)))} {r_X12_either : Int32 → Int32 → Int32 → Int32 → Int32 → Int32 → Int32 → Int32 → Int32 → Int32 → Int32 → Int32 → Int32 → Int32 → Int32 → Int32 → Int32 → (Nat → Int32) → (Nat → Int32) → (Nat → Int32) → (Option (Int32 × Int32 × Int32 × Int32 × (Nat → Int32) × (Nat → Int32)))} {r_X12_operand : Int32 → Int32 → Int32 → Int32 → Int32 → Int32 → Int32 → Int32 → Int32 → Int32 → Int32 → Int32 → Int32 → Int32 → Int32 → Int32 → Int32 → (Nat → Int32) → (Nat → Int32) → (Nat → Int32) → (Option (Int32 × Int32 × Int32 × Int32 × (Nat → Int32) × (Nat → Int32)))} {r_X12_product : Int32 → Int32 → Int32 → Int32 → Int32 → Int32 → Int32 → Int32 → Int32 → Int32 → Int32 → Int32 → Int32 → Int32 → Int32 → Int32 → Int32 → (Nat → Int32) → (Nat → Int32) → (Nat → Int32) → (Option (Int32 × Int32 × Int32 × Int32 × (Nat → Int32) × (Nat → Int32)))} {r_X12_sum : Int32 → Int32 → Int32 → Int32 → Int32 → Int32 → Int32 → Int32 → Int32 → Int32 → Int32 → Int32 → Int32 → Int32 → Int32 → Int32 → Int32 → (Nat → Int32) → (Nat → Int32) → (Nat → Int32) → (Option (Int32 × Int32 × Int32 × Int32 × (Nat → Int32) × (Nat → Int32)))} {m : Nat} {he g o l : Int32} {ac wi : Nat → Int32} {S : Int32 × Int32 × Int32 × Int32 × (Nat → Int32) × (Nat → Int32)} (h : f_X12_both r_X12_both r_X12_compared r_X12_either r_X12_operand r_X12_product r_X12_sum m mod_code court_shoeCount mod_claims ts he g court_suitCount mod_doneMany mod_undoneMany o l mod_isBoth mod_wished mod_bestMany mod_bestRow mod_ringDigits mod_traces tm ac wi = some S) : ∃ u1 u2 u3 u4 u5 u6, (fun he g o l ac wi => r_X12_compared mod_code court_shoeCount mod_claims ts he g court_suitCount mod_doneMany mod_undoneMany o l mod_isBoth mod_wished mod_bestMany mod_bestRow mod_ringDigits mod_traces tm ac wi) he g o l ac wi = some (u1, u2, u3, u4, u5, u6) ∧ (fun m he g o l ac wi => G_X12_both r_X12_both r_X12_compared r_X12_either r_X12_operand r_X12_product r_X12_sum mod_code court_shoeCount mod_claims ts court_suitCount mod_doneMany mod_undoneMany mod_isBoth mod_wished mod_bestMany mod_bestRow mod_ringDigits mod_traces tm m he g o l ac wi) m u1 u2 u3 u4 u5 u6 = some S := by
  unfold f_X12_both B_X12_both_0 at h
  obtain ⟨u1, u2, u3, u4, u5, u6, k1, h⟩ := zk_o6 h
  exact ⟨u1, u2, u3, u4, u5, u6, k1, h⟩
set_option maxHeartbeats 4000000 in
set_option maxRecDepth 20000 in
theorem rs_sum {mod_code : Int32} {court_shoeCount : Int32} {mod_claims : Int32} {ts : Int32} {court_suitCount : Int32} {mod_doneMany : Int32} {mod_undoneMany : Int32} {mod_isBoth : Int32} {mod_wished : Int32} {mod_bestMany : Int32} {mod_bestRow : Int32} {mod_ringDigits : Int32} {mod_traces : Int32} {tm : Nat → Int32} {tb : Nat → Int32} {r_X12_both : Int32 → Int32 → Int32 → Int32 → Int32 → Int32 → Int32 → Int32 → Int32 → Int32 → Int32 → Int32 → Int32 → Int32 → Int32 → Int32 → Int32 → (Nat → Int32) → (Nat → Int32) → (Nat → Int32) → (Option (Int32 × Int32 × Int32 × Int32 × (Nat → Int32) × (Nat → Int32)))} {r_X12_compared : Int32 → Int32 → Int32 → Int32 → Int32 → Int32 → Int32 → Int32 → Int32 → Int32 → Int32 → Int32 → Int32 → Int32 → Int32 → Int32 → Int32 → (Nat → Int32) → (Nat → Int32) → (Nat → Int32) → (Option (Int32 × Int32 × Int32 × Int32 × (Nat → Int32) × (Nat → Int32)))} {r_X12_either : Int32 → Int32 → Int32 → Int32 → Int32 → Int32 → Int32 → Int32 → Int32 → Int32 → Int32 → Int32 → Int32 → Int32 → Int32 → Int32 → Int32 → (Nat → Int32) → (Nat → Int32) → (Nat → Int32) → (Option (Int32 × Int32 × Int32 × Int32 × (Nat → Int32) × (Nat → Int32)))} {r_X12_operand : Int32 → Int32 → Int32 → Int32 → Int32 → Int32 → Int32 → Int32 → Int32 → Int32 → Int32 → Int32 → Int32 → Int32 → Int32 → Int32 → Int32 → (Nat → Int32) → (Nat → Int32) → (Nat → Int32) → (Option (Int32 × Int32 × Int32 × Int32 × (Nat → Int32) × (Nat → Int32)))} {r_X12_product : Int32 → Int32 → Int32 → Int32 → Int32 → Int32 → Int32 → Int32 → Int32 → Int32 → Int32 → Int32 → Int32 → Int32 → Int32 → Int32 → Int32 → (Nat → Int32) → (Nat → Int32) → (Nat → Int32) → (Option (Int32 × Int32 × Int32 × Int32 × (Nat → Int32) × (Nat → Int32)))} {r_X12_sum : Int32 → Int32 → Int32 → Int32 → Int32 → Int32 → Int32 → Int32 → Int32 → Int32 → Int32 → Int32 → Int32 → Int32 → Int32 → Int32 → Int32 → (Nat → Int32) → (Nat → Int32) → (Nat → Int32) → (Option (Int32 × Int32 × Int32 × Int32 × (Nat → Int32) × (Nat → Int32)))} (hT : TS ts) (hR : TR ts tb tm) : RSTEP ts tb 3 (fun m he g o l ac wi => G_X12_sum r_X12_both r_X12_compared r_X12_either r_X12_operand r_X12_product r_X12_sum mod_code court_shoeCount mod_claims ts court_suitCount mod_doneMany mod_undoneMany mod_isBoth mod_wished mod_bestMany mod_bestRow mod_ringDigits mod_traces tm m he g o l ac wi) (fun he g o l ac wi => r_X12_product mod_code court_shoeCount mod_claims ts he g court_suitCount mod_doneMany mod_undoneMany o l mod_isBoth mod_wished mod_bestMany mod_bestRow mod_ringDigits mod_traces tm ac wi) := by
  refine ⟨fun he g o l ac wi S h => ?_, fun m he g o l ac wi S hp h => ?_⟩
  · cases h
  · have h : B_X12_sum_4 r_X12_both r_X12_compared r_X12_either r_X12_operand r_X12_product r_X12_sum (G_X12_sum r_X12_both r_X12_compared r_X12_either r_X12_operand r_X12_product r_X12_sum mod_code court_shoeCount mod_claims ts court_suitCount mod_doneMany mod_undoneMany mod_isBoth mod_wished mod_bestMany mod_bestRow mod_ringDigits mod_traces tm m) mod_code court_shoeCount mod_claims ts court_suitCount mod_doneMany mod_undoneMany mod_isBoth mod_wished mod_bestMany mod_bestRow mod_ringDigits mod_traces tm he g o l ac wi = some S := h
    unfold B_X12_sum_4 at h
    by_cases c1 : 0 ≤ g
    · have h := (Option.some.inj (zk_t c1 h)).symm
      rw [i32_le, z32_0] at c1
      exact Or.inl ⟨h, Or.inl c1⟩
    have h := zk_f c1 h
    rw [i32_le, z32_0] at c1
    have hp := hp (by omega)
    obtain ⟨r0, w0, a0, h⟩ := zk_o2 h
    have hb0 := mb_look hT hR hp a0
    by_cases b0 : r0 = (43 : Int32)
    · have h := zk_t b0 h
      have ez : bZ ts tb he = 43 := (BR_e hb0 ⟨by decide, by decide, by decide⟩).mp b0
      have eb : bz ts tb he = 43 := Int32.toInt_inj.mp (ez.trans (by decide))
      unfold B_X12_sum_29 at h
      obtain ⟨r9, w9, a9, h⟩ := zk_o2 h
      have hb9 := mb_look hT hR hp a9
      have e9 : r9 = (43 : Int32) := (BR_e hb9 ⟨by decide, by decide, by decide⟩).mpr ez
      subst e9
      obtain ⟨v, ev, h⟩ := zk_lt h
      subst ev
      obtain ⟨u1, u2, u3, u4, u5, u6, k1, h⟩ := zk_o6 h
      obtain ⟨l2, a2, w2, k2, h⟩ := zk_o3 h
      refine Or.inr ⟨by omega, Or.inr (Or.inr (Or.inr (Or.inl ⟨rfl, Or.inl (ez)⟩))), u1, u2, u3, u4, u5, u6, l2, a2, w2, k1, fun hl => ?_, h⟩
      have q := m5_lay ⟨by decide, by decide⟩ hl k2
      rw [eb]
      exact q.2
    have h := zk_f b0 h
    have n0 : bZ ts tb he ≠ 43 := fun z => b0 ((BR_e hb0 ⟨by decide, by decide, by decide⟩).mpr z)
    obtain ⟨r1, w1, a1, h⟩ := zk_o2 h
    have hb1 := mb_look hT hR hp a1
    by_cases b1 : r1 = (45 : Int32)
    · have h := zk_t b1 h
      have ez : bZ ts tb he = 45 := (BR_e hb1 ⟨by decide, by decide, by decide⟩).mp b1
      have eb : bz ts tb he = 45 := Int32.toInt_inj.mp (ez.trans (by decide))
      unfold B_X12_sum_29 at h
      obtain ⟨r9, w9, a9, h⟩ := zk_o2 h
      have hb9 := mb_look hT hR hp a9
      have e9 : r9 = (45 : Int32) := (BR_e hb9 ⟨by decide, by decide, by decide⟩).mpr ez
      subst e9
      obtain ⟨v, ev, h⟩ := zk_lt h
      subst ev
      obtain ⟨u1, u2, u3, u4, u5, u6, k1, h⟩ := zk_o6 h
      obtain ⟨l2, a2, w2, k2, h⟩ := zk_o3 h
      refine Or.inr ⟨by omega, Or.inr (Or.inr (Or.inr (Or.inl ⟨rfl, Or.inr (ez)⟩))), u1, u2, u3, u4, u5, u6, l2, a2, w2, k1, fun hl => ?_, h⟩
      have q := m5_lay ⟨by decide, by decide⟩ hl k2
      rw [eb]
      exact q.2
    have h := zk_f b1 h
    have n1 : bZ ts tb he ≠ 45 := fun z => b1 ((BR_e hb1 ⟨by decide, by decide, by decide⟩).mpr z)
    refine Or.inl ⟨(Option.some.inj h).symm, Or.inr (fun z => ?_)⟩
    rcases z with ⟨z1, z⟩ | ⟨z1, z⟩ | ⟨z1, z⟩ | ⟨z1, z⟩ | ⟨z1, z⟩
    · exact absurd z1 (by decide)
    · exact absurd z1 (by decide)
    · exact absurd z1 (by decide)
    · omega
    · exact absurd z1 (by decide)
set_option maxHeartbeats 4000000 in
set_option maxRecDepth 20000 in
theorem rf_sum {mod_code : Int32} {court_shoeCount : Int32} {mod_claims : Int32} {ts : Int32} {court_suitCount : Int32} {mod_doneMany : Int32} {mod_undoneMany : Int32} {mod_isBoth : Int32} {mod_wished : Int32} {mod_bestMany : Int32} {mod_bestRow : Int32} {mod_ringDigits : Int32} {mod_traces : Int32} {tm : Nat → Int32} {r_X12_both : Int32 → Int32 → Int32 → Int32 → Int32 → Int32 → Int32 → Int32 → Int32 → Int32 → Int32 → Int32 → Int32 → Int32 → Int32 → Int32 → Int32 → (Nat → Int32) → (Nat → Int32) → (Nat → Int32) → (Option (Int32 × Int32 × Int32 × Int32 × (Nat → Int32) × (Nat → Int32)))} {r_X12_compared : Int32 → Int32 → Int32 → Int32 → Int32 → Int32 → Int32 → Int32 → Int32 → Int32 → Int32 → Int32 → Int32 → Int32 → Int32 → Int32 → Int32 → (Nat → Int32) → (Nat → Int32) → (Nat → Int32) → (Option (Int32 × Int32 × Int32 × Int32 × (Nat → Int32) × (Nat → Int32)))} {r_X12_either : Int32 → Int32 → Int32 → Int32 → Int32 → Int32 → Int32 → Int32 → Int32 → Int32 → Int32 → Int32 → Int32 → Int32 → Int32 → Int32 → Int32 → (Nat → Int32) → (Nat → Int32) → (Nat → Int32) → (Option (Int32 × Int32 × Int32 × Int32 × (Nat → Int32) × (Nat → Int32)))} {r_X12_operand : Int32 → Int32 → Int32 → Int32 → Int32 → Int32 → Int32 → Int32 → Int32 → Int32 → Int32 → Int32 → Int32 → Int32 → Int32 → Int32 → Int32 → (Nat → Int32) → (Nat → Int32) → (Nat → Int32) → (Option (Int32 × Int32 × Int32 × Int32 × (Nat → Int32) × (Nat → Int32)))} {r_X12_product : Int32 → Int32 → Int32 → Int32 → Int32 → Int32 → Int32 → Int32 → Int32 → Int32 → Int32 → Int32 → Int32 → Int32 → Int32 → Int32 → Int32 → (Nat → Int32) → (Nat → Int32) → (Nat → Int32) → (Option (Int32 × Int32 × Int32 × Int32 × (Nat → Int32) × (Nat → Int32)))} {r_X12_sum : Int32 → Int32 → Int32 → Int32 → Int32 → Int32 → Int32 → Int32 → Int32 → Int32 → Int32 → Int32 → Int32 → Int32 → Int32 → Int32 → Int32 → (Nat → Int32) → (Nat → Int32) → (Nat → Int32) → (Option (Int32 × Int32 × Int32 × Int32 × (Nat → Int32) × (Nat → Int32)))} {m : Nat} {he g o l : Int32} {ac wi : Nat → Int32} {S : Int32 × Int32 × Int32 × Int32 × (Nat → Int32) × (Nat → Int32)} (h : f_X12_sum r_X12_both r_X12_compared r_X12_either r_X12_operand r_X12_product r_X12_sum m mod_code court_shoeCount mod_claims ts he g court_suitCount mod_doneMany mod_undoneMany o l mod_isBoth mod_wished mod_bestMany mod_bestRow mod_ringDigits mod_traces tm ac wi = some S) : ∃ u1 u2 u3 u4 u5 u6, (fun he g o l ac wi => r_X12_product mod_code court_shoeCount mod_claims ts he g court_suitCount mod_doneMany mod_undoneMany o l mod_isBoth mod_wished mod_bestMany mod_bestRow mod_ringDigits mod_traces tm ac wi) he g o l ac wi = some (u1, u2, u3, u4, u5, u6) ∧ (fun m he g o l ac wi => G_X12_sum r_X12_both r_X12_compared r_X12_either r_X12_operand r_X12_product r_X12_sum mod_code court_shoeCount mod_claims ts court_suitCount mod_doneMany mod_undoneMany mod_isBoth mod_wished mod_bestMany mod_bestRow mod_ringDigits mod_traces tm m he g o l ac wi) m u1 u2 u3 u4 u5 u6 = some S := by
  unfold f_X12_sum B_X12_sum_0 at h
  obtain ⟨u1, u2, u3, u4, u5, u6, k1, h⟩ := zk_o6 h
  exact ⟨u1, u2, u3, u4, u5, u6, k1, h⟩
set_option maxHeartbeats 4000000 in
set_option maxRecDepth 20000 in
theorem rs_product {mod_code : Int32} {court_shoeCount : Int32} {mod_claims : Int32} {ts : Int32} {court_suitCount : Int32} {mod_doneMany : Int32} {mod_undoneMany : Int32} {mod_isBoth : Int32} {mod_wished : Int32} {mod_bestMany : Int32} {mod_bestRow : Int32} {mod_ringDigits : Int32} {mod_traces : Int32} {tm : Nat → Int32} {tb : Nat → Int32} {r_X12_both : Int32 → Int32 → Int32 → Int32 → Int32 → Int32 → Int32 → Int32 → Int32 → Int32 → Int32 → Int32 → Int32 → Int32 → Int32 → Int32 → Int32 → (Nat → Int32) → (Nat → Int32) → (Nat → Int32) → (Option (Int32 × Int32 × Int32 × Int32 × (Nat → Int32) × (Nat → Int32)))} {r_X12_compared : Int32 → Int32 → Int32 → Int32 → Int32 → Int32 → Int32 → Int32 → Int32 → Int32 → Int32 → Int32 → Int32 → Int32 → Int32 → Int32 → Int32 → (Nat → Int32) → (Nat → Int32) → (Nat → Int32) → (Option (Int32 × Int32 × Int32 × Int32 × (Nat → Int32) × (Nat → Int32)))} {r_X12_either : Int32 → Int32 → Int32 → Int32 → Int32 → Int32 → Int32 → Int32 → Int32 → Int32 → Int32 → Int32 → Int32 → Int32 → Int32 → Int32 → Int32 → (Nat → Int32) → (Nat → Int32) → (Nat → Int32) → (Option (Int32 × Int32 × Int32 × Int32 × (Nat → Int32) × (Nat → Int32)))} {r_X12_operand : Int32 → Int32 → Int32 → Int32 → Int32 → Int32 → Int32 → Int32 → Int32 → Int32 → Int32 → Int32 → Int32 → Int32 → Int32 → Int32 → Int32 → (Nat → Int32) → (Nat → Int32) → (Nat → Int32) → (Option (Int32 × Int32 × Int32 × Int32 × (Nat → Int32) × (Nat → Int32)))} {r_X12_product : Int32 → Int32 → Int32 → Int32 → Int32 → Int32 → Int32 → Int32 → Int32 → Int32 → Int32 → Int32 → Int32 → Int32 → Int32 → Int32 → Int32 → (Nat → Int32) → (Nat → Int32) → (Nat → Int32) → (Option (Int32 × Int32 × Int32 × Int32 × (Nat → Int32) × (Nat → Int32)))} {r_X12_sum : Int32 → Int32 → Int32 → Int32 → Int32 → Int32 → Int32 → Int32 → Int32 → Int32 → Int32 → Int32 → Int32 → Int32 → Int32 → Int32 → Int32 → (Nat → Int32) → (Nat → Int32) → (Nat → Int32) → (Option (Int32 × Int32 × Int32 × Int32 × (Nat → Int32) × (Nat → Int32)))} (hT : TS ts) (hR : TR ts tb tm) : RSTEP ts tb 4 (fun m he g o l ac wi => G_X12_product r_X12_both r_X12_compared r_X12_either r_X12_operand r_X12_product r_X12_sum mod_code court_shoeCount mod_claims ts court_suitCount mod_doneMany mod_undoneMany mod_isBoth mod_wished mod_bestMany mod_bestRow mod_ringDigits mod_traces tm m he g o l ac wi) (fun he g o l ac wi => r_X12_operand mod_code court_shoeCount mod_claims ts he g court_suitCount mod_doneMany mod_undoneMany o l mod_isBoth mod_wished mod_bestMany mod_bestRow mod_ringDigits mod_traces tm ac wi) := by
  refine ⟨fun he g o l ac wi S h => ?_, fun m he g o l ac wi S hp h => ?_⟩
  · cases h
  · have h : B_X12_product_4 r_X12_both r_X12_compared r_X12_either r_X12_operand r_X12_product r_X12_sum (G_X12_product r_X12_both r_X12_compared r_X12_either r_X12_operand r_X12_product r_X12_sum mod_code court_shoeCount mod_claims ts court_suitCount mod_doneMany mod_undoneMany mod_isBoth mod_wished mod_bestMany mod_bestRow mod_ringDigits mod_traces tm m) mod_code court_shoeCount mod_claims ts court_suitCount mod_doneMany mod_undoneMany mod_isBoth mod_wished mod_bestMany mod_bestRow mod_ringDigits mod_traces tm he g o l ac wi = some S := h
    unfold B_X12_product_4 at h
    by_cases c1 : 0 ≤ g
    · have h := (Option.some.inj (zk_t c1 h)).symm
      rw [i32_le, z32_0] at c1
      exact Or.inl ⟨h, Or.inl c1⟩
    have h := zk_f c1 h
    rw [i32_le, z32_0] at c1
    have hp := hp (by omega)
    obtain ⟨r0, w0, a0, h⟩ := zk_o2 h
    have hb0 := mb_look hT hR hp a0
    by_cases b0 : r0 = (42 : Int32)
    · have h := zk_t b0 h
      have ez : bZ ts tb he = 42 := (BR_e hb0 ⟨by decide, by decide, by decide⟩).mp b0
      have eb : bz ts tb he = 42 := Int32.toInt_inj.mp (ez.trans (by decide))
      unfold B_X12_product_38 at h
      obtain ⟨r9, w9, a9, h⟩ := zk_o2 h
      have hb9 := mb_look hT hR hp a9
      have e9 : r9 = (42 : Int32) := (BR_e hb9 ⟨by decide, by decide, by decide⟩).mpr ez
      subst e9
      obtain ⟨v, ev, h⟩ := zk_lt h
      subst ev
      obtain ⟨u1, u2, u3, u4, u5, u6, k1, h⟩ := zk_o6 h
      obtain ⟨l2, a2, w2, k2, h⟩ := zk_o3 h
      refine Or.inr ⟨by omega, Or.inr (Or.inr (Or.inr (Or.inr ⟨rfl, Or.inl (ez)⟩))), u1, u2, u3, u4, u5, u6, l2, a2, w2, k1, fun hl => ?_, h⟩
      have q := m5_lay ⟨by decide, by decide⟩ hl k2
      rw [eb]
      exact q.2
    have h := zk_f b0 h
    have n0 : bZ ts tb he ≠ 42 := fun z => b0 ((BR_e hb0 ⟨by decide, by decide, by decide⟩).mpr z)
    obtain ⟨r1, w1, a1, h⟩ := zk_o2 h
    have hb1 := mb_look hT hR hp a1
    by_cases b1 : r1 = (47 : Int32)
    · have h := zk_t b1 h
      have ez : bZ ts tb he = 47 := (BR_e hb1 ⟨by decide, by decide, by decide⟩).mp b1
      have eb : bz ts tb he = 47 := Int32.toInt_inj.mp (ez.trans (by decide))
      unfold B_X12_product_38 at h
      obtain ⟨r9, w9, a9, h⟩ := zk_o2 h
      have hb9 := mb_look hT hR hp a9
      have e9 : r9 = (47 : Int32) := (BR_e hb9 ⟨by decide, by decide, by decide⟩).mpr ez
      subst e9
      obtain ⟨v, ev, h⟩ := zk_lt h
      subst ev
      obtain ⟨u1, u2, u3, u4, u5, u6, k1, h⟩ := zk_o6 h
      obtain ⟨l2, a2, w2, k2, h⟩ := zk_o3 h
      refine Or.inr ⟨by omega, Or.inr (Or.inr (Or.inr (Or.inr ⟨rfl, Or.inr (Or.inl (ez))⟩))), u1, u2, u3, u4, u5, u6, l2, a2, w2, k1, fun hl => ?_, h⟩
      have q := m5_lay ⟨by decide, by decide⟩ hl k2
      rw [eb]
      exact q.2
    have h := zk_f b1 h
    have n1 : bZ ts tb he ≠ 47 := fun z => b1 ((BR_e hb1 ⟨by decide, by decide, by decide⟩).mpr z)
    obtain ⟨r2, w2, a2, h⟩ := zk_o2 h
    have hb2 := mb_look hT hR hp a2
    by_cases b2 : r2 = (37 : Int32)
    · have h := zk_t b2 h
      have ez : bZ ts tb he = 37 := (BR_e hb2 ⟨by decide, by decide, by decide⟩).mp b2
      have eb : bz ts tb he = 37 := Int32.toInt_inj.mp (ez.trans (by decide))
      unfold B_X12_product_38 at h
      obtain ⟨r9, w9, a9, h⟩ := zk_o2 h
      have hb9 := mb_look hT hR hp a9
      have e9 : r9 = (37 : Int32) := (BR_e hb9 ⟨by decide, by decide, by decide⟩).mpr ez
      subst e9
      obtain ⟨v, ev, h⟩ := zk_lt h
      subst ev
      obtain ⟨u1, u2, u3, u4, u5, u6, k1, h⟩ := zk_o6 h
      obtain ⟨l2, a2, w2, k2, h⟩ := zk_o3 h
      refine Or.inr ⟨by omega, Or.inr (Or.inr (Or.inr (Or.inr ⟨rfl, Or.inr (Or.inr (ez))⟩))), u1, u2, u3, u4, u5, u6, l2, a2, w2, k1, fun hl => ?_, h⟩
      have q := m5_lay ⟨by decide, by decide⟩ hl k2
      rw [eb]
      exact q.2
    have h := zk_f b2 h
    have n2 : bZ ts tb he ≠ 37 := fun z => b2 ((BR_e hb2 ⟨by decide, by decide, by decide⟩).mpr z)
    refine Or.inl ⟨(Option.some.inj h).symm, Or.inr (fun z => ?_)⟩
    rcases z with ⟨z1, z⟩ | ⟨z1, z⟩ | ⟨z1, z⟩ | ⟨z1, z⟩ | ⟨z1, z⟩
    · exact absurd z1 (by decide)
    · exact absurd z1 (by decide)
    · exact absurd z1 (by decide)
    · exact absurd z1 (by decide)
    · omega
