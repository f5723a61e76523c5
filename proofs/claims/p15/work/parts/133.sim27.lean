
theorem i32_p1 {o : Int32} (h : 0 ≤ o.toInt ∧ o.toInt ≤ 1000) : o + 1 - 1 = o := by
  apply Int32.toInt_inj.mp
  rw [Int32.toInt_sub, i32_s (by omega), z32_1, Int.bmod_eq_of_le (by omega) (by omega)]
  omega
theorem LPR_o {ts : Int32} {tb : Nat → Int32} {o sz a f he g o2 l : Int32} (hT : TS ts) (h : LPR ts o sz a f he g o2 l) (ho : o.toInt < 6) (hb : 0 ≤ bZ ts tb a) : LPR ts (o + 1) sz (a + 1) f (he + 1) g (o2 + 1) l ∧ (a + 1).toInt = a.toInt + 1 := by
  obtain ⟨h1, h2, h3, h4, h5, h6, h7, h8, h9, h10, h11⟩ := h
  have hp := PB_s (tb := tb) hT h4 hb
  have ht := hT.2
  have ha := h4.2
  have ha0 := h4.1
  have e := i32_s (a := a) (by omega)
  have eo := i32_s (a := o) (by omega)
  exact ⟨⟨h1, h2, by rw [h3], hp, by rw [h5], by omega, by omega, h8, by omega, h10, by omega⟩, e⟩
theorem bz_B {ts : Int32} {tb : Nat → Int32} {a : Int32} (hB : ∀ k, k < ts.toInt.toNat → (tb k).toInt ≤ 255) : bZ ts tb a ≤ 255 := by
  unfold bZ bz
  by_cases c1 : a < 0
  · rw [if_pos c1]
    decide
  · rw [if_neg c1]
    by_cases c2 : ts ≤ a
    · rw [if_pos c2]
      decide
    · rw [if_neg c2]
      have e : a.toNatClampNeg = a.toInt.toNat := rfl
      rw [i32_lt, z32_0] at c1
      rw [i32_le] at c2
      exact hB _ (by rw [e]; omega)

theorem nm_hi {x q : Int32} {w : Unit} (h0 : 128 ≤ x.toInt) (h : f_X12_nameOf x = some (q, w)) : q = -1 := by
  unfold f_X12_nameOf B_X12_nameOf_0 at h
  have k : ∀ c : Int32, c.toInt ≤ 127 → ¬ x = c := fun c hc e => by
    rw [e] at h0
    omega
  have h := zk_f (k (97 : Int32) (by decide)) h
  have h := zk_f (k (98 : Int32) (by decide)) h
  have h := zk_f (k (99 : Int32) (by decide)) h
  have h := zk_f (k (100 : Int32) (by decide)) h
  have h := zk_f (k (101 : Int32) (by decide)) h
  have h := zk_f (k (102 : Int32) (by decide)) h
  have h := zk_f (k (103 : Int32) (by decide)) h
  have h := zk_f (k (104 : Int32) (by decide)) h
  have h := zk_f (k (105 : Int32) (by decide)) h
  have h := zk_f (k (106 : Int32) (by decide)) h
  have h := zk_f (k (107 : Int32) (by decide)) h
  have h := zk_f (k (108 : Int32) (by decide)) h
  have h := zk_f (k (109 : Int32) (by decide)) h
  have h := zk_f (k (110 : Int32) (by decide)) h
  have h := zk_f (k (111 : Int32) (by decide)) h
  have h := zk_f (k (112 : Int32) (by decide)) h
  have h := zk_f (k (113 : Int32) (by decide)) h
  have h := zk_f (k (114 : Int32) (by decide)) h
  have h := zk_f (k (115 : Int32) (by decide)) h
  have h := zk_f (k (116 : Int32) (by decide)) h
  have h := zk_f (k (117 : Int32) (by decide)) h
  have h := zk_f (k (118 : Int32) (by decide)) h
  have h := zk_f (k (119 : Int32) (by decide)) h
  exact (congrArg Prod.fst (Option.some.inj h)).symm

set_option maxHeartbeats 4000000 in
set_option maxRecDepth 20000 in
theorem op_sub {mod_code : Int32} {court_shoeCount : Int32} {mod_claims : Int32} {ts : Int32} {court_suitCount : Int32} {mod_doneMany : Int32} {mod_undoneMany : Int32} {mod_isBoth : Int32} {mod_wished : Int32} {mod_bestMany : Int32} {mod_bestRow : Int32} {mod_ringDigits : Int32} {mod_traces : Int32} {tm : Nat → Int32} {tb : Nat → Int32} {rL : Int32 → Int32 → Int32 → (Nat → Int32) → Int32 → Int32 → Int32 → (Nat → Int32) → (Option (Int32 × Int32 × Int32 × (Nat → Int32)))} {rO : Int32 → Int32 → (Nat → Int32) → Int32 → Int32 → Int32 → (Nat → Int32) → (Option (Int32 × Int32 × Int32 × (Nat → Int32)))} {r_X12_both : Int32 → Int32 → Int32 → Int32 → Int32 → Int32 → Int32 → Int32 → Int32 → Int32 → Int32 → Int32 → Int32 → Int32 → Int32 → Int32 → Int32 → (Nat → Int32) → (Nat → Int32) → (Nat → Int32) → (Option (Int32 × Int32 × Int32 × Int32 × (Nat → Int32) × (Nat → Int32)))} {r_X12_compared : Int32 → Int32 → Int32 → Int32 → Int32 → Int32 → Int32 → Int32 → Int32 → Int32 → Int32 → Int32 → Int32 → Int32 → Int32 → Int32 → Int32 → (Nat → Int32) → (Nat → Int32) → (Nat → Int32) → (Option (Int32 × Int32 × Int32 × Int32 × (Nat → Int32) × (Nat → Int32)))} {r_X12_either : Int32 → Int32 → Int32 → Int32 → Int32 → Int32 → Int32 → Int32 → Int32 → Int32 → Int32 → Int32 → Int32 → Int32 → Int32 → Int32 → Int32 → (Nat → Int32) → (Nat → Int32) → (Nat → Int32) → (Option (Int32 × Int32 × Int32 × Int32 × (Nat → Int32) × (Nat → Int32)))} {r_X12_operand : Int32 → Int32 → Int32 → Int32 → Int32 → Int32 → Int32 → Int32 → Int32 → Int32 → Int32 → Int32 → Int32 → Int32 → Int32 → Int32 → Int32 → (Nat → Int32) → (Nat → Int32) → (Nat → Int32) → (Option (Int32 × Int32 × Int32 × Int32 × (Nat → Int32) × (Nat → Int32)))} {r_X12_product : Int32 → Int32 → Int32 → Int32 → Int32 → Int32 → Int32 → Int32 → Int32 → Int32 → Int32 → Int32 → Int32 → Int32 → Int32 → Int32 → Int32 → (Nat → Int32) → (Nat → Int32) → (Nat → Int32) → (Option (Int32 × Int32 × Int32 × Int32 × (Nat → Int32) × (Nat → Int32)))} {r_X12_sum : Int32 → Int32 → Int32 → Int32 → Int32 → Int32 → Int32 → Int32 → Int32 → Int32 → Int32 → Int32 → Int32 → Int32 → Int32 → Int32 → Int32 → (Nat → Int32) → (Nat → Int32) → (Nat → Int32) → (Option (Int32 × Int32 × Int32 × Int32 × (Nat → Int32) × (Nat → Int32)))} {K0 K1 K2 : Nat} {o : Int32} (hT : TS ts) (hR : TR ts tb tm) (hB : ∀ k, k < ts.toInt.toNat → (tb k).toInt ≤ 255) (hk0 : 1 ≤ K0) (hk1 : 0 ≤ o.toInt → o.toInt < 6 → K1 ≤ K0) (hk2 : 0 ≤ o.toInt → o.toInt < 6 → K2 ≤ K0) (hL : SUBS ts tb K1 (o + 1) (fun sz a f cd => rL 0 (o + 1) ts tb sz a f cd) (fun he g o l ac wi => r_X12_either mod_code court_shoeCount mod_claims ts he g court_suitCount mod_doneMany mod_undoneMany o l mod_isBoth mod_wished mod_bestMany mod_bestRow mod_ringDigits mod_traces tm ac wi)) (hO : SUBS ts tb K2 (o + 1) (fun sz a f cd => rO (o + 1) ts tb sz a f cd) (fun he g o l ac wi => r_X12_operand mod_code court_shoeCount mod_claims ts he g court_suitCount mod_doneMany mod_undoneMany o l mod_isBoth mod_wished mod_bestMany mod_bestRow mod_ringDigits mod_traces tm ac wi)) : SUBS ts tb K0 o (fun sz a f cd => f_X5_readOperand rL rO o ts tb sz a f cd) (fun he g o l ac wi => f_X12_operand r_X12_both r_X12_compared r_X12_either r_X12_operand r_X12_product r_X12_sum mod_code court_shoeCount mod_claims ts he g court_suitCount mod_doneMany mod_undoneMany o l mod_isBoth mod_wished mod_bestMany mod_bestRow mod_ringDigits mod_traces tm ac wi) := by
  intro sz a f cd he g o2 l ac wi R S hp h h2
  replace h : f_X5_readOperand rL rO o ts tb sz a f cd = some R := h
  have h2 : f_X12_operand r_X12_both r_X12_compared r_X12_either r_X12_operand r_X12_product r_X12_sum mod_code court_shoeCount mod_claims ts he g court_suitCount mod_doneMany mod_undoneMany o2 l mod_isBoth mod_wished mod_bestMany mod_bestRow mod_ringDigits mod_traces tm ac wi = some S := h2
  obtain ⟨p1, p2, p3, p4, p5, p6, p7, p8, p9, p10, p11⟩ := id hp
  subst p3
  subst p5
  have hT2 := hT.2
  have ha := p4.2
  have ha0 := p4.1
  obtain ⟨m33, m45, m40, mnum, mels⟩ := m5_operand hT hR p4 p2 ⟨p6, p7⟩ ⟨p10, by omega⟩ h2
  unfold f_X5_readOperand B_X5_readOperand_0 at h
  replace h := zk_o2 h
  obtain ⟨r, w, a1, h⟩ := h
  have e := cb_byte hT a1
  subst e
  replace h := zk_t (show f < 0 by rw [i32_lt, z32_0]; exact p1) h
  replace h := zk_o2 h
  obtain ⟨d, w2, a2, h⟩ := h
  rcases cb_dig hT a2 with ⟨d1, d2, rfl⟩ | ⟨d1, rfl⟩
  · replace h := zk_f (by decide) h
    replace h := zk_o3 h
    obtain ⟨v1, v2, v3, k1, h⟩ := h
    replace h := Option.some.inj h
    unfold f_X5_readNumber B_X5_readNumber_0 at k1
    obtain ⟨e, c, j1, j2⟩ := c5_numL hT _ 4 0 0 he _ (by decide) (by decide) k1
    obtain ⟨rfl, rfl, rfl⟩ : v1 = e ∧ v2 = (nmr ts tb 4 0 he).2 ∧ v3 = c := by
      simp only [Prod.mk.injEq] at j2
      exact j2
    obtain ⟨n1, n2, n3, n4, n5, n6, n7⟩ := mnum ⟨d1, d2⟩
    have hP := nmr_PB (tb := tb) hT 4 0 he p4
    have hge : he.toInt + 1 ≤ (nmr ts tb 4 0 he).2.toInt := by
      show he.toInt + 1 ≤ (if 48 ≤ bZ ts tb he ∧ bZ ts tb he ≤ 57 then nmr ts tb 3 (0 * 10 + bz ts tb he - 48) (he + 1) else ((0 : Int32), he)).2.toInt
      rw [if_pos ⟨d1, d2⟩, ← i32_s (a := he) (by omega)]
      exact nmr_ge (tb := tb) hT 3 _ _ (PB_s (tb := tb) hT p4 (by omega))
    rw [← h]
    by_cases c5 : 48 ≤ bZ ts tb (nmr ts tb 4 0 he).2 ∧ bZ ts tb (nmr ts tb 4 0 he).2 ≤ 57
    · exact Or.inr (Or.inr ⟨p1, hP, c5, n2 c5⟩)
    · obtain ⟨x1, _, x2⟩ := (c5_emit j1).1 p1 p8 (by omega)
      have hP2 := hP.2
      have nb := nmr_b (ts := ts) (tb := tb) 4 0 he 0 (by decide) (by decide) (by decide)
      have nb9 : nbd 4 0 = 9999 := by decide
      rw [nb9] at nb
      have x1' : v1.toInt = sz.toInt + 1 := x1
      have x2' : v3 = upd cd sz.toInt.toNat (((nmr ts tb 4 0 he).1 <<< ((5 : Int32) &&& 31)) ||| (0 : Int32)) := x2
      have l1 : S.2.2.2.1.toInt = l.toInt + 1 := by rw [n5]; exact i32_s (by omega)
      have de := SEGS_em (x := ((1 : Int32), (nmr ts tb 4 0 he).1)) (b := (1 : Int32)) (w := (nmr ts tb 4 0 he).1) (s2 := v1.toInt) (l2 := S.2.2.2.1.toInt) (a1 := (nmr ts tb 4 0 he).2.toInt) (a0 := he.toInt) (c0 := cd) (A0 := ac) (W0 := wi) p8 p10 (SEGS_r2 (by omega)) (by simp only [List.length_nil]; omega) (show (((nmr ts tb 4 0 he).1 <<< ((5 : Int32) &&& 31)) ||| (0 : Int32)) = enc ((1 : Int32), (nmr ts tb 4 0 he).1) from (if_pos rfl).symm) rfl rfl (Or.inl ⟨rfl, nb.1, nb.2⟩) rfl rfl x1' l1
      refine Or.inl ⟨⟨p1, ?_, n1, hP, n4, p6, p7, ?_, ?_, ?_, ?_⟩, [((1 : Int32), (nmr ts tb 4 0 he).1)], TSG_1 (Or.inl rfl) hk0, ?_⟩
      · rw [n3 c5]
        exact p2
      · show 0 ≤ v1.toInt
        omega
      · show v1.toInt ≤ (nmr ts tb 4 0 he).2.toInt
        omega
      · omega
      · show S.2.2.2.1.toInt ≤ (nmr ts tb 4 0 he).2.toInt
        omega
      · show SEGS sz.toInt he.toInt l.toInt cd ac wi v1.toInt (nmr ts tb 4 0 he).2.toInt S.2.2.2.1.toInt v3 S.2.2.2.2.1 S.2.2.2.2.2 _
        rw [x2', n6, n7]
        exact de
  replace h := zk_t rfl h
  by_cases c33 : bz ts tb he = 33
  · replace h := zk_t c33 h
    have ez : bZ ts tb he = 33 := by
      unfold bZ
      rw [c33]
      decide
    unfold B_X5_readOperand_53 at h
    replace h := zk_o3 h
    obtain ⟨x1, x2, x3, k1, h⟩ := h
    rcases c5_open p1 k1 with ⟨o6, e⟩ | ⟨o6, e⟩
    · obtain ⟨rfl, rfl, rfl⟩ : 1 = x1 ∧ he + 1 = x2 ∧ f = x3 := by
        simp only [Prod.mk.injEq] at e
        exact ⟨e.1.symm, e.2.1.symm, e.2.2.symm⟩
      replace h := zk_f (by decide) h
      replace h := zk_o4 h
      obtain ⟨u1, u2, u3, u4, k2, h⟩ := h
      replace h := zk_t c33 h
      unfold B_X5_readOperand_80 at h
      replace h := zk_o2 h
      obtain ⟨g1, g2, k3, h⟩ := h
      replace h := Option.some.inj h
      rcases m33 ez with ⟨z, _⟩ | ⟨_, y1, y2, y3, y4, y5, y6, l2, a2, w2, j1, j2, j3⟩
      · omega
      rw [← h, j3]
      obtain ⟨hn, en⟩ := LPR_o (tb := tb) hT hp o6 (by omega)
      rcases hO _ _ _ _ _ _ _ _ _ _ _ _ hn k2 j1 with ⟨hp3, L2, t2, q2⟩ | hb
      · have hp3 : LPR ts (o2 + 1) u1 u2 u3 y1 y2 y3 y4 := hp3
        have q2 : SEGS sz.toInt (he + 1).toInt l.toInt cd ac wi u1.toInt u2.toInt y4.toInt u4 y5 y6 L2 := q2
        obtain ⟨b1, b2, b3, b4, b5, b6, b7, b8, b9, b10, b11⟩ := hp3
        have b4' := b4.2
        have q3 := q2.2.2.1
        have qs := q2.1
        have ql := q2.2.1
        obtain ⟨d1, _, d2⟩ := (c5_emit k3).1 b1 b8 (by omega)
        obtain ⟨f1, f2, f3⟩ := j2 ⟨b10, by omega⟩
        have sh := SEGS_sh q2 en
        have el := i32_s (a := y4) (by omega)
        have d1' : g1.toInt = u1.toInt + 1 := d1
        have l1 : l2.toInt = y4.toInt + 1 := by rw [f1]; exact el
        have de := SEGS_em (x := ((3 : Int32), (0 : Int32))) (v := (4 : Int32)) (b := (3 : Int32)) (w := 0) (s2 := g1.toInt) (l2 := l2.toInt) p8 p10 sh.1 sh.2 (by decide) rfl rfl (Or.inr (Or.inr ⟨by decide, rfl⟩)) rfl rfl d1' l1
        have d2' : g2 = upd u4 u1.toInt.toNat (4 : Int32) := d2
        have eo : y3 - 1 = o2 := by rw [b5]; exact i32_p1 ⟨p6, by omega⟩
        refine Or.inl ⟨⟨b1, b2, b3, b4, eo, p6, p7, ?_, ?_, ?_, ?_⟩, L2 ++ [((3 : Int32), (0 : Int32))], TSG_un (TSG_le t2 (hk2 p6 o6)) (by decide), ?_⟩
        · show 0 ≤ g1.toInt
          omega
        · show g1.toInt ≤ u2.toInt
          omega
        · show 0 ≤ l2.toInt
          omega
        · show l2.toInt ≤ u2.toInt
          omega
        · show SEGS sz.toInt he.toInt l.toInt cd ac wi g1.toInt u2.toInt l2.toInt g2 a2 w2 _
          rw [d2', f2, f3]
          exact de
      · exact Or.inr hb
    · obtain ⟨rfl, rfl, rfl⟩ : 0 = x1 ∧ he = x2 ∧ he = x3 := by
        simp only [Prod.mk.injEq] at e
        exact ⟨e.1.symm, e.2.1.symm, e.2.2.symm⟩
      replace h := Option.some.inj (zk_t rfl h)
      rcases m33 ez with ⟨_, z⟩ | ⟨z, _⟩
      · rw [← h, z]
        exact Or.inr (Or.inl ⟨p4.1, p4.2, rfl⟩)
      · omega
  replace h := zk_f c33 h
  by_cases c45 : bz ts tb he = 45
  · replace h := zk_t c45 h
    have ez : bZ ts tb he = 45 := by
      unfold bZ
      rw [c45]
      decide
    unfold B_X5_readOperand_53 at h
    replace h := zk_o3 h
    obtain ⟨x1, x2, x3, k1, h⟩ := h
    rcases c5_open p1 k1 with ⟨o6, e⟩ | ⟨o6, e⟩
    · obtain ⟨rfl, rfl, rfl⟩ : 1 = x1 ∧ he + 1 = x2 ∧ f = x3 := by
        simp only [Prod.mk.injEq] at e
        exact ⟨e.1.symm, e.2.1.symm, e.2.2.symm⟩
      replace h := zk_f (by decide) h
      replace h := zk_o4 h
      obtain ⟨u1, u2, u3, u4, k2, h⟩ := h
      replace h := zk_f c33 h
      unfold B_X5_readOperand_80 at h
      replace h := zk_o2 h
      obtain ⟨g1, g2, k3, h⟩ := h
      replace h := Option.some.inj h
      rcases m45 ez with ⟨z, _⟩ | ⟨_, y1, y2, y3, y4, y5, y6, l2, a2, w2, j1, j2, j3⟩
      · omega
      rw [← h, j3]
      obtain ⟨hn, en⟩ := LPR_o (tb := tb) hT hp o6 (by omega)
      rcases hO _ _ _ _ _ _ _ _ _ _ _ _ hn k2 j1 with ⟨hp3, L2, t2, q2⟩ | hb
      · have hp3 : LPR ts (o2 + 1) u1 u2 u3 y1 y2 y3 y4 := hp3
        have q2 : SEGS sz.toInt (he + 1).toInt l.toInt cd ac wi u1.toInt u2.toInt y4.toInt u4 y5 y6 L2 := q2
        obtain ⟨b1, b2, b3, b4, b5, b6, b7, b8, b9, b10, b11⟩ := hp3
        have b4' := b4.2
        have q3 := q2.2.2.1
        have qs := q2.1
        have ql := q2.2.1
        obtain ⟨d1, _, d2⟩ := (c5_emit k3).1 b1 b8 (by omega)
        obtain ⟨f1, f2, f3⟩ := j2 ⟨b10, by omega⟩
        have sh := SEGS_sh q2 en
        have el := i32_s (a := y4) (by omega)
        have d1' : g1.toInt = u1.toInt + 1 := d1
        have l1 : l2.toInt = y4.toInt + 1 := by rw [f1]; exact el
        have de := SEGS_em (x := ((4 : Int32), (0 : Int32))) (v := (5 : Int32)) (b := (4 : Int32)) (w := 0) (s2 := g1.toInt) (l2 := l2.toInt) p8 p10 sh.1 sh.2 (by decide) rfl rfl (Or.inr (Or.inr ⟨by decide, rfl⟩)) rfl rfl d1' l1
        have d2' : g2 = upd u4 u1.toInt.toNat (5 : Int32) := d2
        have eo : y3 - 1 = o2 := by rw [b5]; exact i32_p1 ⟨p6, by omega⟩
        refine Or.inl ⟨⟨b1, b2, b3, b4, eo, p6, p7, ?_, ?_, ?_, ?_⟩, L2 ++ [((4 : Int32), (0 : Int32))], TSG_un (TSG_le t2 (hk2 p6 o6)) (by decide), ?_⟩
        · show 0 ≤ g1.toInt
          omega
        · show g1.toInt ≤ u2.toInt
          omega
        · show 0 ≤ l2.toInt
          omega
        · show l2.toInt ≤ u2.toInt
          omega
        · show SEGS sz.toInt he.toInt l.toInt cd ac wi g1.toInt u2.toInt l2.toInt g2 a2 w2 _
          rw [d2', f2, f3]
          exact de
      · exact Or.inr hb
    · obtain ⟨rfl, rfl, rfl⟩ : 0 = x1 ∧ he = x2 ∧ he = x3 := by
        simp only [Prod.mk.injEq] at e
        exact ⟨e.1.symm, e.2.1.symm, e.2.2.symm⟩
      replace h := Option.some.inj (zk_t rfl h)
      rcases m45 ez with ⟨_, z⟩ | ⟨z, _⟩
      · rw [← h, z]
        exact Or.inr (Or.inl ⟨p4.1, p4.2, rfl⟩)
      · omega
  replace h := zk_f c45 h
  by_cases c40 : bz ts tb he = 40
  · replace h := zk_t c40 h
    have ez : bZ ts tb he = 40 := by
      unfold bZ
      rw [c40]
      decide
    replace h := zk_o3 h
    obtain ⟨x1, x2, x3, k1, h⟩ := h
    rcases c5_open p1 k1 with ⟨o6, e⟩ | ⟨o6, e⟩
    · obtain ⟨rfl, rfl, rfl⟩ : 1 = x1 ∧ he + 1 = x2 ∧ f = x3 := by
        simp only [Prod.mk.injEq] at e
        exact ⟨e.1.symm, e.2.1.symm, e.2.2.symm⟩
      replace h := zk_f (by decide) h
      replace h := zk_o4 h
      obtain ⟨u1, u2, u3, u4, k2, h⟩ := h
      replace h := zk_o2 h
      obtain ⟨r5, u5, k3, h⟩ := h
      rcases m40 ez with ⟨z, _⟩ | ⟨_, y1, y2, y3, y4, y5, y6, j1, j2, j3⟩
      · omega
      obtain ⟨hn, en⟩ := LPR_o (tb := tb) hT hp o6 (by omega)
      rcases hL _ _ _ _ _ _ _ _ _ _ _ _ hn k2 j1 with ⟨hp3, L2, t2, q2⟩ | hb
      · have hp3 : LPR ts (o2 + 1) u1 u2 u3 y1 y2 y3 y4 := hp3
        have q2 : SEGS sz.toInt (he + 1).toInt l.toInt cd ac wi u1.toInt u2.toInt y4.toInt u4 y5 y6 L2 := q2
        obtain ⟨b1, b2, b3, b4, b5, b6, b7, b8, b9, b10, b11⟩ := hp3
        subst b3
        have b4' := b4.2
        have b4'' := b4.1
        have eo : y3 - 1 = o2 := by rw [b5]; exact i32_p1 ⟨p6, by omega⟩
        have sh := SEGS_sh q2 en
        rcases c5_accept hT (fun _ => b4) (x1 := 41) (n := 41) ⟨by decide, by decide⟩ k3 with ⟨_, z, r1, r2, r3⟩ | ⟨z, r1, r2⟩
        · replace r1 := r1.symm
          subst r1
          subst r2
          replace h := Option.some.inj (zk_f (by decide) h)
          rcases j3 b2 b4 with ⟨_, e⟩ | ⟨e, _⟩
          · have e1 := i32_s (a := y1) (by omega)
            rw [← h, e]
            have b9' : u1.toInt ≤ (y1 + 1).toInt := by omega
            have b11' : y4.toInt ≤ (y1 + 1).toInt := by omega
            have sc := sh.1.2.2.1
            refine Or.inl ⟨⟨b1, b2, rfl, r3, eo, p6, p7, b8, b9', b10, b11'⟩, L2, TSG_le t2 (hk1 p6 o6), ?_⟩
            exact ⟨sh.1.1, sh.1.2.1, by show he.toInt + L2.length ≤ (y1 + 1).toInt; omega, sh.1.2.2.2⟩
          · exact absurd z e
        · subst r1
          replace r2 := r2.symm
          subst r2
          replace h := zk_t rfl h
          replace h := zk_o1 h
          obtain ⟨v, k4, h⟩ := h
          replace h := Option.some.inj h
          have z : bZ ts tb y1 ≠ 41 := z.elim (fun y => by omega) id
          rcases c5_fail k4 with ⟨_, e⟩ | ⟨e, _⟩
          · rcases j3 b2 b4 with ⟨e2, _⟩ | ⟨_, e2⟩
            · exact absurd e2 z
            · rw [← h, e2, e]
              exact Or.inr (Or.inl ⟨b4.1, b4.2, rfl⟩)
          · omega
      · have hb : LBAD ts tb u2 u3 y2 := hb
        have e := j2 (LBAD_g hb)
        rw [e]
        rcases hb with ⟨b1, b2, b3⟩ | ⟨b1, b2, b3, b4⟩
        · rcases c5_accept hT (fun z => by omega) (x1 := 41) (n := 41) ⟨by decide, by decide⟩ k3 with ⟨z, _⟩ | ⟨z, r1, r2⟩
          · omega
          · subst r1
            replace r2 := r2.symm
            subst r2
            replace h := zk_t rfl h
            replace h := zk_o1 h
            obtain ⟨v, k4, h⟩ := h
            replace h := Option.some.inj h
            rcases c5_fail k4 with ⟨e, _⟩ | ⟨_, e⟩
            · omega
            · rw [← h, e]
              exact Or.inr (Or.inl ⟨b1, b2, b3⟩)
        · rcases c5_accept hT (fun _ => b2) (x1 := 41) (n := 41) ⟨by decide, by decide⟩ k3 with ⟨_, z, _⟩ | ⟨z, r1, r2⟩
          · omega
          · subst r1
            replace r2 := r2.symm
            subst r2
            replace h := zk_t rfl h
            replace h := zk_o1 h
            obtain ⟨v, k4, h⟩ := h
            replace h := Option.some.inj h
            rcases c5_fail k4 with ⟨_, e⟩ | ⟨e, _⟩
            · rw [← h, e]
              exact Or.inr (Or.inl ⟨b2.1, b2.2, b4⟩)
            · omega
    · obtain ⟨rfl, rfl, rfl⟩ : 0 = x1 ∧ he = x2 ∧ he = x3 := by
        simp only [Prod.mk.injEq] at e
        exact ⟨e.1.symm, e.2.1.symm, e.2.2.symm⟩
      replace h := Option.some.inj (zk_t rfl h)
      rcases m40 ez with ⟨_, z⟩ | ⟨z, _⟩
      · rw [← h, z]
        exact Or.inr (Or.inl ⟨p4.1, p4.2, rfl⟩)
      · omega
  replace h := zk_f c40 h
  have nz : ∀ (c : Int32) (n : Int), c.toInt = n → ¬ bz ts tb he = c → ¬ bZ ts tb he = n := fun c n hc hn z => hn (Int32.toInt_inj.mp (z.trans hc.symm))
  obtain ⟨q, y, x, hbr, hq, q1, q2⟩ := mels (nz 33 33 (by decide) c33) (nz 45 45 (by decide) c45) (nz 40 40 (by decide) c40) (fun z => by omega)
  replace h := zk_o4 h
  obtain ⟨v1, v2, v3, v4, k1, h⟩ := h
  replace h := Option.some.inj h
  unfold f_X5_readName B_X5_readName_0 at k1
  have fin : ∀ s : Int32, s = y → B_X5_readName_15 s sz he f cd = some (v1, v2, v3, v4) → LOUT ts tb K0 o2 sz.toInt he.toInt l.toInt cd ac wi R S := fun s es k => by
    subst es
    unfold B_X5_readName_15 at k
    by_cases c0 : 0 ≤ s
    · replace k := zk_t c0 k
      rw [i32_le, z32_0] at c0
      have eS := q2 c0
      have hb0 : 0 ≤ bZ ts tb he ∧ q = bz ts tb he := by
        rcases hbr with ⟨b0, _, e⟩ | ⟨_, b1, _⟩
        · exact ⟨b0, e⟩
        · have := nm_neg b1 hq
          rw [this] at c0
          exact absurd c0 (by decide)
      have hq' := hq
      rw [hb0.2] at hq'
      have hin := nm_in hb0.1 (bz_B hB) hq'
      have hP := PB_s (tb := tb) hT p4 hb0.1
      have e1 := i32_s (a := he) (by omega)
      replace k := zk_lt k
      obtain ⟨v, ev, k⟩ := k
      subst ev
      replace k := zk_o2 k
      obtain ⟨g1, g2, k2, k⟩ := k
      replace k := Option.some.inj k
      obtain ⟨rfl, rfl, rfl, rfl⟩ : g1 = v1 ∧ he + 1 = v2 ∧ f = v3 ∧ g2 = v4 := by
        simp only [Prod.mk.injEq] at k
        exact k
      obtain ⟨x1, _, x2⟩ := (c5_emit k2).1 p1 p8 (by omega)
      have x1' : g1.toInt = sz.toInt + 1 := x1
      have x2' : g2 = upd cd sz.toInt.toNat ((s <<< ((5 : Int32) &&& 31)) ||| (1 : Int32)) := x2
      have el := i32_s (a := l) (by omega)
      have de := SEGS_em (x := ((2 : Int32), s)) (b := (2 : Int32)) (w := s) (s2 := g1.toInt) (l2 := (l + 1).toInt) (a1 := (he + 1).toInt) (a0 := he.toInt) (c0 := cd) (A0 := ac) (W0 := wi) p8 p10 (SEGS_r2 (by omega)) (by simp only [List.length_nil]; omega) (show ((s <<< ((5 : Int32) &&& 31)) ||| (1 : Int32)) = enc ((2 : Int32), s) from ((if_neg (show ¬ (2 : Int32) = 1 by decide)).trans (if_pos rfl)).symm) rfl rfl (Or.inr (Or.inl ⟨rfl, c0, hin.2.1⟩)) rfl rfl x1' el
      rw [← h, eS]
      refine Or.inl ⟨⟨p1, p2, rfl, hP, rfl, p6, p7, ?_, ?_, ?_, ?_⟩, [((2 : Int32), s)], TSG_1 (Or.inr rfl) hk0, ?_⟩
      · show 0 ≤ g1.toInt
        omega
      · show g1.toInt ≤ (he + 1).toInt
        omega
      · show 0 ≤ (l + 1).toInt
        omega
      · show (l + 1).toInt ≤ (he + 1).toInt
        omega
      · show SEGS sz.toInt he.toInt l.toInt cd ac wi g1.toInt (he + 1).toInt (l + 1).toInt g2 _ _ _
        rw [x2']
        exact de
    · replace k := zk_f c0 k
      rw [i32_le, z32_0] at c0
      replace k := zk_o1 k
      obtain ⟨v, k2, k⟩ := k
      replace k := Option.some.inj k
      obtain ⟨rfl, rfl, rfl, rfl⟩ : sz = v1 ∧ he = v2 ∧ v = v3 ∧ cd = v4 := by
        simp only [Prod.mk.injEq] at k
        exact k
      rcases c5_fail k2 with ⟨_, e⟩ | ⟨e, _⟩
      · have eS := q1 (by omega)
        rw [← h, e]
        exact Or.inr (Or.inl ⟨p4.1, p4.2, eS⟩)
      · omega
  by_cases cn : 0 ≤ bz ts tb he
  · have k1 := zk_t cn k1
    rw [i32_le, z32_0] at cn
    obtain ⟨s, u, k2, k1⟩ := zk_o2 k1
    refine fin s ?_ k1
    rcases hbr with ⟨_, _, e⟩ | ⟨b0, b1, _⟩
    · rw [e] at hq
      exact nm_eq cn (bz_B hB) k2 hq
    · have e1 := nm_neg b1 hq
      -- 128 .. 255: no name on either side
      have k := nm_tab ⟨(bz ts tb he).toInt.toNat, by have : bZ ts tb he ≤ 255 := bz_B hB; have e : bZ ts tb he = (bz ts tb he).toInt := rfl; omega⟩
      dsimp only at k
      rw [← i32_n cn, k2] at k
      have hk := nm_in cn (bz_B hB) k.symm
      have hk2 := nm_hi (x := bz ts tb he) (by omega) k.symm
      rw [e1, hk2]
  · have k1 := zk_f cn k1
    rw [i32_le, z32_0] at cn
    refine fin (-1) ?_ k1
    rcases hbr with ⟨b0, _, _⟩ | ⟨_, b1, _⟩
    · exact absurd b0 cn
    · exact (nm_neg b1 hq).symm
theorem HH_1 {o : Int32} (a : 0 ≤ o.toInt) (b : o.toInt < 6) : HH0 (o + 1) + 6 ≤ HH0 o + 1 := by
  unfold HH0
  rw [i32_s ⟨a, by omega⟩]
  omega
set_option maxHeartbeats 4000000 in
set_option maxRecDepth 20000 in
theorem law_lv {mod_code : Int32} {court_shoeCount : Int32} {mod_claims : Int32} {ts : Int32} {court_suitCount : Int32} {mod_doneMany : Int32} {mod_undoneMany : Int32} {mod_isBoth : Int32} {mod_wished : Int32} {mod_bestMany : Int32} {mod_bestRow : Int32} {mod_ringDigits : Int32} {mod_traces : Int32} {tm : Nat → Int32} {tb : Nat → Int32} (hT : TS ts) (hR : TR ts tb tm) (hB : ∀ k, k < ts.toInt.toNat → (tb k).toInt ≤ 255) : ∀ (n m : Nat) (o : Int32), SUBS ts tb (HH0 o + 6) o (fun sz a f cd => (grp_lawgrp n).1 0 o ts tb sz a f cd) (fun he g o l ac wi => (grp_grp43 m).2.2.1 mod_code court_shoeCount mod_claims ts he g court_suitCount mod_doneMany mod_undoneMany o l mod_isBoth mod_wished mod_bestMany mod_bestRow mod_ringDigits mod_traces tm ac wi) ∧ SUBS ts tb (HH0 o + 5) o (fun sz a f cd => (grp_lawgrp n).1 1 o ts tb sz a f cd) (fun he g o l ac wi => (grp_grp43 m).1 mod_code court_shoeCount mod_claims ts he g court_suitCount mod_doneMany mod_undoneMany o l mod_isBoth mod_wished mod_bestMany mod_bestRow mod_ringDigits mod_traces tm ac wi) ∧ SUBS ts tb (HH0 o + 4) o (fun sz a f cd => (grp_lawgrp n).1 2 o ts tb sz a f cd) (fun he g o l ac wi => (grp_grp43 m).2.1 mod_code court_shoeCount mod_claims ts he g court_suitCount mod_doneMany mod_undoneMany o l mod_isBoth mod_wished mod_bestMany mod_bestRow mod_ringDigits mod_traces tm ac wi) ∧ SUBS ts tb (HH0 o + 3) o (fun sz a f cd => (grp_lawgrp n).1 3 o ts tb sz a f cd) (fun he g o l ac wi => (grp_grp43 m).2.2.2.2.2 mod_code court_shoeCount mod_claims ts he g court_suitCount mod_doneMany mod_undoneMany o l mod_isBoth mod_wished mod_bestMany mod_bestRow mod_ringDigits mod_traces tm ac wi) ∧ SUBS ts tb (HH0 o + 2) o (fun sz a f cd => (grp_lawgrp n).1 4 o ts tb sz a f cd) (fun he g o l ac wi => (grp_grp43 m).2.2.2.2.1 mod_code court_shoeCount mod_claims ts he g court_suitCount mod_doneMany mod_undoneMany o l mod_isBoth mod_wished mod_bestMany mod_bestRow mod_ringDigits mod_traces tm ac wi) ∧ SUBS ts tb (HH0 o + 1) o (fun sz a f cd => (grp_lawgrp n).1 5 o ts tb sz a f cd) (fun he g o l ac wi => (grp_grp43 m).2.2.2.1 mod_code court_shoeCount mod_claims ts he g court_suitCount mod_doneMany mod_undoneMany o l mod_isBoth mod_wished mod_bestMany mod_bestRow mod_ringDigits mod_traces tm ac wi) ∧ SUBS ts tb (HH0 o + 1) o (fun sz a f cd => (grp_lawgrp n).2 o ts tb sz a f cd) (fun he g o l ac wi => (grp_grp43 m).2.2.2.1 mod_code court_shoeCount mod_claims ts he g court_suitCount mod_doneMany mod_undoneMany o l mod_isBoth mod_wished mod_bestMany mod_bestRow mod_ringDigits mod_traces tm ac wi) := by
  intro n
  induction n with
  | zero =>
    intro m o
    refine ⟨?_, ?_, ?_, ?_, ?_, ?_, ?_⟩ <;>
    · intro sz a f cd he g o2 l ac wi R S hp h h2
      cases h
  | succ n ih =>
    intro m o
    have k5 : SUBS ts tb (HH0 o + 1) o (fun sz a f cd => (grp_lawgrp (n + 1)).1 5 o ts tb sz a f cd) (fun he g o l ac wi => (grp_grp43 m).2.2.2.1 mod_code court_shoeCount mod_claims ts he g court_suitCount mod_doneMany mod_undoneMany o l mod_isBoth mod_wished mod_bestMany mod_bestRow mod_ringDigits mod_traces tm ac wi) := by
      intro sz a f cd he g o2 l ac wi R S hp h h2
      replace h : f_X5_readLevel ((grp_lawgrp n).1) ((grp_lawgrp n).2) 100000 5 o ts tb sz a f cd = some R := h
      unfold f_X5_readLevel B_X5_readLevel_0 at h
      replace h := zk_f (show ¬ (5 : Int32) ≤ (4 : Int32) by decide) h
      replace h := zk_o4 h
      obtain ⟨v1, v2, v3, v4, j1, h⟩ := h
      replace h := Option.some.inj h
      rw [← h]
      exact (ih m o).2.2.2.2.2.2 _ _ _ _ _ _ _ _ _ _ _ _ hp j1 h2
    cases m with
    | zero =>
      refine ⟨?_, ?_, ?_, ?_, ?_, k5, ?_⟩ <;>
      · intro sz a f cd he g o2 l ac wi R S hp h h2
        cases h2
    | succ m =>
      have i0 := ih m o
      have i1 := ih m (o + 1)
      refine ⟨?_, ?_, ?_, ?_, ?_, k5, ?_⟩
      · exact lv_go (lv := 0) hT ⟨by decide, by decide⟩ (by decide) (rs_either (r_X12_both := (grp_grp43 m).1) (r_X12_compared := (grp_grp43 m).2.1) (r_X12_either := (grp_grp43 m).2.2.1) (r_X12_operand := (grp_grp43 m).2.2.2.1) (r_X12_product := (grp_grp43 m).2.2.2.2.1) (r_X12_sum := (grp_grp43 m).2.2.2.2.2) hT hR) i0.2.1 (fun he g o2 l ac wi S h => rf_either (r_X12_both := (grp_grp43 m).1) (r_X12_compared := (grp_grp43 m).2.1) (r_X12_either := (grp_grp43 m).2.2.1) (r_X12_operand := (grp_grp43 m).2.2.2.1) (r_X12_product := (grp_grp43 m).2.2.2.2.1) (r_X12_sum := (grp_grp43 m).2.2.2.2.2) h)
      · exact lv_go (lv := 1) hT ⟨by decide, by decide⟩ (by decide) (rs_both (r_X12_both := (grp_grp43 m).1) (r_X12_compared := (grp_grp43 m).2.1) (r_X12_either := (grp_grp43 m).2.2.1) (r_X12_operand := (grp_grp43 m).2.2.2.1) (r_X12_product := (grp_grp43 m).2.2.2.2.1) (r_X12_sum := (grp_grp43 m).2.2.2.2.2) hT hR) i0.2.2.1 (fun he g o2 l ac wi S h => rf_both (r_X12_both := (grp_grp43 m).1) (r_X12_compared := (grp_grp43 m).2.1) (r_X12_either := (grp_grp43 m).2.2.1) (r_X12_operand := (grp_grp43 m).2.2.2.1) (r_X12_product := (grp_grp43 m).2.2.2.2.1) (r_X12_sum := (grp_grp43 m).2.2.2.2.2) h)
      · exact lv_cmp hT i0.2.2.2.1 (fun he g o2 l ac wi S h => rf_compared (r_X12_both := (grp_grp43 m).1) (r_X12_compared := (grp_grp43 m).2.1) (r_X12_either := (grp_grp43 m).2.2.1) (r_X12_operand := (grp_grp43 m).2.2.2.1) (r_X12_product := (grp_grp43 m).2.2.2.2.1) (r_X12_sum := (grp_grp43 m).2.2.2.2.2) hT hR h)
      · exact lv_go (lv := 3) hT ⟨by decide, by decide⟩ (by decide) (rs_sum (r_X12_both := (grp_grp43 m).1) (r_X12_compared := (grp_grp43 m).2.1) (r_X12_either := (grp_grp43 m).2.2.1) (r_X12_operand := (grp_grp43 m).2.2.2.1) (r_X12_product := (grp_grp43 m).2.2.2.2.1) (r_X12_sum := (grp_grp43 m).2.2.2.2.2) hT hR) i0.2.2.2.2.1 (fun he g o2 l ac wi S h => rf_sum (r_X12_both := (grp_grp43 m).1) (r_X12_compared := (grp_grp43 m).2.1) (r_X12_either := (grp_grp43 m).2.2.1) (r_X12_operand := (grp_grp43 m).2.2.2.1) (r_X12_product := (grp_grp43 m).2.2.2.2.1) (r_X12_sum := (grp_grp43 m).2.2.2.2.2) h)
      · exact lv_go (lv := 4) hT ⟨by decide, by decide⟩ (by decide) (rs_product (r_X12_both := (grp_grp43 m).1) (r_X12_compared := (grp_grp43 m).2.1) (r_X12_either := (grp_grp43 m).2.2.1) (r_X12_operand := (grp_grp43 m).2.2.2.1) (r_X12_product := (grp_grp43 m).2.2.2.2.1) (r_X12_sum := (grp_grp43 m).2.2.2.2.2) hT hR) i0.2.2.2.2.2.1 (fun he g o2 l ac wi S h => rf_product (r_X12_both := (grp_grp43 m).1) (r_X12_compared := (grp_grp43 m).2.1) (r_X12_either := (grp_grp43 m).2.2.1) (r_X12_operand := (grp_grp43 m).2.2.2.1) (r_X12_product := (grp_grp43 m).2.2.2.2.1) (r_X12_sum := (grp_grp43 m).2.2.2.2.2) h)
      · exact op_sub (r_X12_both := (grp_grp43 m).1) (r_X12_compared := (grp_grp43 m).2.1) (r_X12_either := (grp_grp43 m).2.2.1) (r_X12_operand := (grp_grp43 m).2.2.2.1) (r_X12_product := (grp_grp43 m).2.2.2.2.1) (r_X12_sum := (grp_grp43 m).2.2.2.2.2) hT hR hB (Nat.le_add_left 1 _) (fun a b => HH_1 a b) (fun a b => Nat.le_trans (by omega) (HH_1 a b)) i1.1 i1.2.2.2.2.2.2
/-- a line: its test (empty: none), its value -/
def lnl (ln : List (Int32 × Int32) × List (Int32 × Int32)) : Nat := if ln.1.length = 0 then ln.2.length + 1 else ln.1.length + ln.2.length + 2
def LNS (ln : List (Int32 × Int32) × List (Int32 × Int32)) : Prop := TSG 36 ln.2 ∧ (ln.1 = [] ∨ TSG 36 ln.1)
def LNC (cd : Nat → Int32) (a : Nat) (ln : List (Int32 × Int32) × List (Int32 × Int32)) : Prop := (ln.1 = [] ∧ CTk cd a ln.2 ∧ cd (a + ln.2.length) = 2) ∨ (0 < ln.1.length ∧ CTk cd a ln.1 ∧ cd (a + ln.1.length) = ((Int32.ofNat (a + ln.1.length + ln.2.length + 2)) <<< ((5 : Int32) &&& 31)) ||| (3 : Int32) ∧ CTk cd (a + ln.1.length + 1) ln.2 ∧ cd (a + ln.1.length + 1 + ln.2.length) = 2)
def LNM (ac wi te le : Nat → Int32) (b r l : Nat) (ln : List (Int32 × Int32) × List (Int32 × Int32)) : Prop := MTk ac wi (b + l) (ln.1 ++ ln.2) ∧ (te r).toInt = ((l + ln.1.length : Nat) : Int) ∧ (le r).toInt = ((l + ln.1.length + ln.2.length : Nat) : Int)
theorem TSG_pos {H : Nat} {L : List (Int32 × Int32)} (h : TSG H L) : 0 < L.length := by
  cases L with
  | nil =>
    obtain ⟨v, e, _⟩ := h (fun _ => 0) []
    have e : some [] = some [v] := e
    cases e
  | cons x t => exact Nat.succ_pos _
theorem CTk_fr {cd cd2 : Nat → Int32} {a : Nat} {L : List (Int32 × Int32)} (h : CTk cd a L) (hf : ∀ k, a ≤ k → k < a + L.length → cd2 k = cd k) : CTk cd2 a L := fun k x hk => by
  have hl := (List.getElem?_eq_some_iff.mp hk).1
  rw [hf _ (by omega) (by omega)]
  exact h k x hk
theorem MTk_fr {ac wi ac2 wi2 : Nat → Int32} {b : Nat} {L : List (Int32 × Int32)} (h : MTk ac wi b L) (hf : ∀ k, b ≤ k → k < b + L.length → ac2 k = ac k ∧ wi2 k = wi k) : MTk ac2 wi2 b L := fun k x hk => by
  have hl := (List.getElem?_eq_some_iff.mp hk).1
  rw [(hf _ (by omega) (by omega)).1, (hf _ (by omega) (by omega)).2]
  exact h k x hk
theorem upd_at {f : Nat → Int32} {k i : Nat} {v : Int32} (h : i = k) : upd f k v i = v := by
  unfold upd
  exact if_pos h
def LNO (ts sz a l : Int32) (cd ac wi lm te le : Nat → Int32) (R : Int32 × Int32 × Int32 × (Nat → Int32)) (S : Int32 × Int32 × Int32 × Int32 × (Nat → Int32) × (Nat → Int32) × (Nat → Int32) × (Nat → Int32) × (Nat → Int32)) : Prop := (R.2.2.1.toInt < 0 ∧ S.2.1.toInt < 0 ∧ S.1 = R.2.1 ∧ PB ts R.2.1 ∧ S.2.2.1 = 0 ∧ 0 ≤ R.1.toInt ∧ R.1.toInt ≤ R.2.1.toInt + 1 ∧ 0 ≤ S.2.2.2.1.toInt ∧ S.2.2.2.1.toInt ≤ R.2.1.toInt ∧ a.toInt + 1 ≤ R.2.1.toInt) ∧ S.2.2.2.2.2.2.1 = upd lm 32 (lm 32 + 1) ∧ ∃ ln : List (Int32 × Int32) × List (Int32 × Int32), LNS ln ∧ LNC R.2.2.2 sz.toInt.toNat ln ∧ R.1.toInt = sz.toInt + (lnl ln : Int) ∧ (∀ k, k < sz.toInt.toNat → R.2.2.2 k = cd k) ∧ LNM S.2.2.2.2.1 S.2.2.2.2.2.1 S.2.2.2.2.2.2.2.1 S.2.2.2.2.2.2.2.2 4160 (1952 + (lm 32).toInt.toNat) l.toInt.toNat ln ∧ S.2.2.2.1.toInt = l.toInt + ((ln.1.length + ln.2.length : Nat) : Int) ∧ (∀ k, k < 4160 + l.toInt.toNat → S.2.2.2.2.1 k = ac k ∧ S.2.2.2.2.2.1 k = wi k) ∧ (∀ i, i ≠ 1952 + (lm 32).toInt.toNat → S.2.2.2.2.2.2.2.1 i = te i ∧ S.2.2.2.2.2.2.2.2 i = le i)
set_option maxHeartbeats 4000000 in
set_option maxRecDepth 20000 in
theorem m5_l68 {mod_code : Int32} {court_shoeCount : Int32} {mod_claims : Int32} {ts : Int32} {court_suitCount : Int32} {mod_doneMany : Int32} {mod_undoneMany : Int32} {mod_isBoth : Int32} {mod_wished : Int32} {mod_bestMany : Int32} {mod_bestRow : Int32} {mod_ringDigits : Int32} {mod_traces : Int32} {tm : Nat → Int32} {x1 q1 q2 q3 q4 : Int32} {q5 q6 lm te le : Nat → Int32} {S : Int32 × Int32 × Int32 × Int32 × (Nat → Int32) × (Nat → Int32) × (Nat → Int32) × (Nat → Int32) × (Nat → Int32)} (h : B_X12_line_68 mod_code court_shoeCount mod_claims ts court_suitCount mod_doneMany mod_undoneMany mod_isBoth mod_wished mod_bestMany mod_bestRow mod_ringDigits mod_traces tm x1 q1 q2 q3 q4 q5 q6 lm te le = some S) : S = (q1, q2, q3, q4, q5, q6, upd lm 32 (lm 32 + 1), te, upd le x1.toNatClampNeg (vp_nar .short q4.toInt16.toInt32)) := by
  have e32 : (32 : Int32).toNatClampNeg = 32 := by decide
  unfold B_X12_line_68 at h
  replace h := zk_lt h
  obtain ⟨v1, e1, h⟩ := h
  replace h := zk_gd h
  obtain ⟨_, h⟩ := h
  replace h := zk_lt h
  obtain ⟨v2, e2, h⟩ := h
  replace h := zk_lt h
  obtain ⟨v3, e3, h⟩ := h
  replace h := zk_lt h
  obtain ⟨v4, e4, h⟩ := h
  rw [e32] at e3 e4
  replace h := (Option.some.inj h).symm
  rw [h, e2, e4, e3, e1]
set_option maxHeartbeats 4000000 in
set_option maxRecDepth 20000 in
theorem ln_rel {mod_code : Int32} {court_shoeCount : Int32} {mod_claims : Int32} {ts : Int32} {court_suitCount : Int32} {mod_doneMany : Int32} {mod_undoneMany : Int32} {mod_isBoth : Int32} {mod_wished : Int32} {mod_bestMany : Int32} {mod_bestRow : Int32} {mod_ringDigits : Int32} {mod_traces : Int32} {tm : Nat → Int32} {tb : Nat → Int32} {sz a f he g l : Int32} {cd ac wi lm te le : Nat → Int32} {R : Int32 × Int32 × Int32 × (Nat → Int32)} {S : Int32 × Int32 × Int32 × Int32 × (Nat → Int32) × (Nat → Int32) × (Nat → Int32) × (Nat → Int32) × (Nat → Int32)} (hT : TS ts) (hR : TR ts tb tm) (hB : ∀ k, k < ts.toInt.toNat → (tb k).toInt ≤ 255) (hp : LPR ts 0 sz a f he g 0 l) (hk : 0 ≤ (lm 32).toInt ∧ (lm 32).toInt ≤ 60) (h : f_X5_readLine ts tb sz a f cd = some R) (k : f_X12_line mod_code court_shoeCount mod_claims ts he g court_suitCount mod_doneMany mod_undoneMany 0 l mod_isBoth mod_wished mod_bestMany mod_bestRow mod_ringDigits mod_traces tm ac wi lm te le = some S) : LNO ts sz a l cd ac wi lm te le R S ∨ LBAD ts tb R.2.1 R.2.2.1 S.2.1 := by
  have e32 : (32 : Int32).toNatClampNeg = 32 := by decide
  have hT2 := hT.2
  have hr : ((1952 : Int32) + lm 32).toNatClampNeg = 1952 + (lm 32).toInt.toNat := by
    have e0 : (1952 : Int32).toInt = 1952 := by decide
    show ((1952 : Int32) + lm 32).toInt.toNat = _
    rw [i32_a (by decide) (by omega), e0]
    omega
  obtain ⟨p1, p2, p3, p4, p5, p6, p7, p8, p9, p10, p11⟩ := id hp
  subst p3
  have p4' := p4.2
  have lv := (law_lv (mod_code := mod_code) (court_shoeCount := court_shoeCount) (mod_claims := mod_claims) (court_suitCount := court_suitCount) (mod_doneMany := mod_doneMany) (mod_undoneMany := mod_undoneMany) (mod_isBoth := mod_isBoth) (mod_wished := mod_wished) (mod_bestMany := mod_bestMany) (mod_bestRow := mod_bestRow) (mod_ringDigits := mod_ringDigits) (mod_traces := mod_traces) hT hR hB 60 60 0).1
  rw [show HH0 0 + 6 = 36 from by decide] at lv
  unfold f_X5_readLine B_X5_readLine_0 at h
  replace h := zk_o4 h
  obtain ⟨u1, u2, u3, u4, a1, h⟩ := h
  unfold f_X12_line B_X12_line_0 at k
  rw [e32] at k
  replace k := zk_lt k
  obtain ⟨v1, rfl, k⟩ := k
  replace k := zk_lt k
  obtain ⟨v2, rfl, k⟩ := k
  replace k := zk_gd k
  obtain ⟨_, k⟩ := k
  replace k := zk_lt k
  obtain ⟨t4, e4, k⟩ := k
  replace k := zk_o6 k
  obtain ⟨y5, y6, y7, y8, y9, y10, b1, k⟩ := k
  rcases lv _ _ _ _ _ _ _ _ _ _ _ _ hp a1 b1 with ⟨hp1, L1, t1, q1⟩ | hb
  · have hp1 : LPR ts 0 u1 u2 u3 y5 y6 y7 y8 := hp1
    have q1 : SEGS sz.toInt he.toInt l.toInt cd ac wi u1.toInt u2.toInt y8.toInt u4 y9 y10 L1 := q1
    obtain ⟨s1, s2, s3, s4, s5, s6, s7⟩ := q1
    obtain ⟨g1, g2, g3, g4, g5, g6, g7, g8, g9, g10, g11⟩ := id hp1
    have g4' := g4.2
    subst g3
    subst g5
    have tp1 := TSG_pos t1
    replace k := zk_f (show ¬ 0 ≤ y6 by rw [i32_le, z32_0]; omega) k
    replace k := zk_o2 k
    obtain ⟨r13, w14, c1, k⟩ := k
    have hb1 := mb_look hT hR g4 c1
    replace h := zk_o2 h
    obtain ⟨r6, w7, c2, h⟩ := h
    rcases c5_accept hT (fun _ => g4) (x1 := 63) (n := 63) ⟨by decide, by decide⟩ c2 with ⟨_, z, r1, r2, r3⟩ | ⟨z, r1, r2⟩
    · replace r1 := r1.symm
      subst r1
      subst r2
      have e13 : r13 = (63 : Int32) := (BR_e hb1 ⟨by decide, by decide, by decide⟩).mpr z
      replace k := zk_t e13 k
      replace k := zk_lt k
      obtain ⟨v17, rfl, k⟩ := k
      replace k := zk_lt k
      obtain ⟨v18, rfl, k⟩ := k
      replace k := zk_gd k
      obtain ⟨_, k⟩ := k
      replace k := zk_lt k
      obtain ⟨f20, e20, k⟩ := k
      replace k := zk_o6 k
      obtain ⟨z5, z6, z7, z8, z9, z10, b2, k⟩ := k
      replace h := zk_f (show ¬ (1 : Int32) = 0 by decide) h
      replace h := zk_o2 h
      obtain ⟨u13, u14, c3, h⟩ := h
      replace h := zk_o4 h
      obtain ⟨u16, u17, u18, u19, a2, h⟩ := h
      replace h := zk_o2 h
      obtain ⟨u21, u22, c4, h⟩ := h
      have r3' := r3.2
      have en := i32_s (a := y5) (by have := g4.1; omega)
      obtain ⟨d1, d2, d3⟩ := (c5_emit c3).1 g1 g8 (by omega)
      have d1 : u13.toInt = u1.toInt + 1 := d1
      have d3 : u14 = upd u4 u1.toInt.toNat 3 := d3
      have hp2 : LPR ts 0 u13 (y5 + 1) u3 (y5 + 1) y6 0 y8 := ⟨g1, g2, rfl, r3, rfl, g6, g7, by omega, by omega, g10, by omega⟩
      rcases lv _ _ _ _ _ _ _ _ _ _ _ _ hp2 a2 b2 with ⟨hp3, L2, t2, q2⟩ | hb
      · have hp3 : LPR ts 0 u16 u17 u18 z5 z6 z7 z8 := hp3
        have q2 : SEGS u13.toInt (y5 + 1).toInt y8.toInt u14 y9 y10 u16.toInt u17.toInt z8.toInt u19 z9 z10 L2 := q2
        obtain ⟨w1, w2, w3, w4, w5, w6, w7⟩ := q2
        obtain ⟨j1, j2, j3, j4, j5, j6, j7, j8, j9, j10, j11⟩ := id hp3
        subst j3
        subst j5
        have j4' := j4.2
        have tp2 := TSG_pos t2
        obtain ⟨x1, x2, x3⟩ := (c5_emit c4).1 j1 j8 (by omega)
        have x1 : u21.toInt = u16.toInt + 1 := x1
        have x3 : u22 = upd u19 u16.toInt.toNat 2 := x3
        have h := zk_f (show ¬ (121 : Int32) ≤ u1 by
          rw [i32_le, show (121 : Int32).toInt = 121 from by decide]
          omega) h
        replace h := zk_lt h
        obtain ⟨v25, e25, h⟩ := h
        replace h := zk_gd h
        obtain ⟨_, h⟩ := h
        replace h := zk_lt h
        obtain ⟨f27, e27, h⟩ := h
        unfold B_X5_readLine_59 at h
        replace h := (Option.some.inj h).symm
        replace k := m5_l68 k
        have eu : u1.toNatClampNeg = u1.toInt.toNat := rfl
        have fr : ∀ i, i ≠ u1.toInt.toNat → i ≠ u16.toInt.toNat → f27 i = u19 i := fun i n1 n2 => by
          rw [e27, upd_n (by rw [eu]; exact n1), x3, upd_n n2]
        have fr1 : ∀ i, i < u1.toInt.toNat → f27 i = u4 i := fun i hi => by
          rw [fr i (by omega) (by omega), w5 i (by omega), d3, upd_n (by omega)]
        have ez8 : vp_nar .short (z8.toInt16.toInt32) = z8 := by
          rw [zn_short0 ⟨by omega, by omega⟩]
          exact zn_shortI ⟨by omega, by omega⟩
        have ey8 : vp_nar .short (y8.toInt16.toInt32) = y8 := by
          rw [zn_short0 ⟨by omega, by omega⟩]
          exact zn_shortI ⟨by omega, by omega⟩
        refine Or.inl ?_
        rw [h, k]
        refine ⟨⟨j1, j2, rfl, j4, rfl, by show 0 ≤ u21.toInt; omega, by show u21.toInt ≤ z5.toInt + 1; omega, j10, j11, by show he.toInt + 1 ≤ z5.toInt; omega⟩, rfl, (L1, L2), ⟨t2, Or.inr t1⟩, Or.inr ⟨tp1, ?_, ?_, ?_, ?_⟩, ?_, ?_, ⟨?_, ?_, ?_⟩, ?_, ?_, ?_⟩
        · show CTk f27 sz.toInt.toNat L1
          exact CTk_fr s4 (fun i i1 i2 => fr1 i (by omega))
        · show f27 (sz.toInt.toNat + L1.length) = _
          have ei : sz.toInt.toNat + L1.length = u1.toInt.toNat := by omega
          rw [ei, e27, upd_at eu.symm, e25]
          congr 2
          rw [i32_n (x := u21) (by omega)]
          congr 1
          show u21.toInt.toNat = u1.toInt.toNat + L2.length + 2
          omega
        · show CTk f27 (sz.toInt.toNat + L1.length + 1) L2
          have ei : u13.toInt.toNat = sz.toInt.toNat + L1.length + 1 := by omega
          rw [← ei]
          exact CTk_fr w4 (fun i i1 i2 => fr i (by omega) (by omega))
        · show f27 (sz.toInt.toNat + L1.length + 1 + L2.length) = 2
          have ei : sz.toInt.toNat + L1.length + 1 + L2.length = u16.toInt.toNat := by omega
          rw [ei, e27, upd_n (by rw [eu]; omega), x3, upd_at rfl]
        · show u21.toInt = sz.toInt + ((lnl (L1, L2) : Nat) : Int)
          unfold lnl
          rw [if_neg (show ¬ L1.length = 0 by omega)]
          show u21.toInt = sz.toInt + ((L1.length + L2.length + 2 : Nat) : Int)
          omega
        · intro i hi
          show f27 i = cd i
          rw [fr1 i (by omega), s5 i hi]
        · show MTk z9 z10 (4160 + l.toInt.toNat) (L1 ++ L2)
          have ei : 4160 + y8.toInt.toNat = 4160 + l.toInt.toNat + L1.length := by omega
          rw [ei] at w6 w7
          exact MTk_app s6 w6 w7
        · show (f20 (1952 + (lm 32).toInt.toNat)).toInt = ((l.toInt.toNat + L1.length : Nat) : Int)
          rw [e20, upd_at hr.symm, ey8]
          omega
        · show (upd le ((1952 : Int32) + lm 32).toNatClampNeg (vp_nar .short (z8.toInt16.toInt32)) (1952 + (lm 32).toInt.toNat)).toInt = ((l.toInt.toNat + L1.length + L2.length : Nat) : Int)
          rw [upd_at hr.symm, ez8]
          omega
        · show z8.toInt = l.toInt + ((L1.length + L2.length : Nat) : Int)
          omega
        · intro i hi
          show z9 i = ac i ∧ z10 i = wi i
          have := w7 i (by omega)
          have := s7 i hi
          rw [(w7 i (by omega)).1, (w7 i (by omega)).2]
          exact s7 i hi
        · intro i hi
          show f20 i = te i ∧ upd le ((1952 : Int32) + lm 32).toNatClampNeg (vp_nar .short (z8.toInt16.toInt32)) i = le i
          rw [e20, upd_n (by rw [hr]; exact hi), e4, upd_n (by rw [hr]; exact hi), upd_n (by rw [hr]; exact hi)]
          exact ⟨rfl, rfl⟩
      · have hb : LBAD ts tb u17 u18 z6 := hb
        refine Or.inr ?_
        replace k := m5_l68 k
        have hR2 : R.2.1 = u17 ∧ R.2.2.1 = u18 := by
          by_cases c121 : (121 : Int32) ≤ u1
          · replace h := zk_t c121 h
            unfold B_X5_readLine_59 at h
            rw [← Option.some.inj h]
            exact ⟨rfl, rfl⟩
          · replace h := zk_f c121 h
            replace h := zk_lt h
            obtain ⟨v25, e25, h⟩ := h
            replace h := zk_gd h
            obtain ⟨_, h⟩ := h
            replace h := zk_lt h
            obtain ⟨f27, e27, h⟩ := h
            unfold B_X5_readLine_59 at h
            rw [← Option.some.inj h]
            exact ⟨rfl, rfl⟩
        rw [hR2.1, hR2.2, k]
        exact hb
    · subst r1
      replace r2 := r2.symm
      subst r2
      have z : bZ ts tb y5 ≠ 63 := z.elim (fun y => by omega) id
      replace k := zk_f (fun y => z ((BR_e hb1 ⟨by decide, by decide, by decide⟩).mp y)) k
      replace h := zk_t rfl h
      replace h := zk_o2 h
      obtain ⟨u10, u11, c3, h⟩ := h
      replace h := (Option.some.inj h).symm
      replace k := m5_l68 k
      obtain ⟨x1, x2, x3⟩ := (c5_emit c3).1 g1 g8 (by omega)
      have x1 : u10.toInt = u1.toInt + 1 := x1
      have x3 : u11 = upd u4 u1.toInt.toNat 2 := x3
      have ey8 : vp_nar .short (y8.toInt16.toInt32) = y8 := by
        rw [zn_short0 ⟨by omega, by omega⟩]
        exact zn_shortI ⟨by omega, by omega⟩
      have el : vp_nar .short (l.toInt16.toInt32) = l := by
        rw [zn_short0 ⟨by omega, by omega⟩]
        exact zn_shortI ⟨by omega, by omega⟩
      refine Or.inl ?_
      rw [h, k]
      refine ⟨⟨g1, g2, rfl, g4, rfl, by show 0 ≤ u10.toInt; omega, by show u10.toInt ≤ y5.toInt + 1; omega, g10, g11, by show he.toInt + 1 ≤ y5.toInt; omega⟩, rfl, ([], L1), ⟨t1, Or.inl rfl⟩, Or.inl ⟨rfl, ?_, ?_⟩, ?_, ?_, ⟨?_, ?_, ?_⟩, ?_, ?_, ?_⟩
      · show CTk u11 sz.toInt.toNat L1
        exact CTk_fr s4 (fun i i1 i2 => by rw [x3, upd_n (by omega)])
      · show u11 (sz.toInt.toNat + L1.length) = 2
        rw [x3, upd_at (by omega)]
      · show u10.toInt = sz.toInt + ((lnl ([], L1) : Nat) : Int)
        have e : lnl ([], L1) = L1.length + 1 := rfl
        rw [e]
        omega
      · intro i hi
        show u11 i = cd i
        rw [x3, upd_n (by omega), s5 i hi]
      · exact s6
      · show (t4 (1952 + (lm 32).toInt.toNat)).toInt = ((l.toInt.toNat + 0 : Nat) : Int)
        rw [e4, upd_at hr.symm, el]
        omega
      · show (upd le ((1952 : Int32) + lm 32).toNatClampNeg (vp_nar .short (y8.toInt16.toInt32)) (1952 + (lm 32).toInt.toNat)).toInt = ((l.toInt.toNat + 0 + L1.length : Nat) : Int)
        rw [upd_at hr.symm, ey8]
        omega
      · show y8.toInt = l.toInt + ((0 + L1.length : Nat) : Int)
        omega
      · intro i hi
        exact s7 i hi
      · intro i hi
        show t4 i = te i ∧ upd le ((1952 : Int32) + lm 32).toNatClampNeg (vp_nar .short (y8.toInt16.toInt32)) i = le i
        rw [e4, upd_n (by rw [hr]; exact hi), upd_n (by rw [hr]; exact hi)]
        exact ⟨rfl, rfl⟩
  · have hb : LBAD ts tb u2 u3 y6 := hb
    have g0 := LBAD_g hb
    refine Or.inr ?_
    replace k := zk_t (show 0 ≤ y6 by rw [i32_le, z32_0]; exact g0) k
    replace k := m5_l68 k
    replace h := zk_o2 h
    obtain ⟨r6, w7, c2, h⟩ := h
    have hc : r6 = 0 ∧ w7 = u2 := by
      rcases hb with ⟨b1, b2, b3⟩ | ⟨b1, b2, b3, b4⟩
      · rcases c5_accept hT (fun z => by omega) (x1 := 63) (n := 63) ⟨by decide, by decide⟩ c2 with ⟨z, _⟩ | ⟨z, r1, r2⟩
        · omega
        · exact ⟨r1, r2⟩
      · rcases c5_accept hT (fun _ => b2) (x1 := 63) (n := 63) ⟨by decide, by decide⟩ c2 with ⟨_, z, _⟩ | ⟨z, r1, r2⟩
        · omega
        · exact ⟨r1, r2⟩
    replace h := zk_t hc.1 h
    replace h := zk_o2 h
    obtain ⟨u10, u11, c3, h⟩ := h
    replace h := (Option.some.inj h).symm
    rw [h, k]
    show LBAD ts tb w7 u3 y6
    rw [hc.2]
    exact hb
