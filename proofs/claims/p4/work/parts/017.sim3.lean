
set_option maxHeartbeats 4000000 in
set_option maxRecDepth 20000 in
theorem rf_product {mod_code : Int32} {court_shoeCount : Int32} {mod_claims : Int32} {ts : Int32} {court_suitCount : Int32} {mod_doneMany : Int32} {mod_undoneMany : Int32} {mod_isBoth : Int32} {mod_wished : Int32} {mod_bestMany : Int32} {mod_bestRow : Int32} {mod_ringDigits : Int32} {mod_traces : Int32} {tm : Nat → Int32} {r_X12_both : Int32 → Int32 → Int32 → Int32 → Int32 → Int32 → Int32 → Int32 → Int32 → Int32 → Int32 → Int32 → Int32 → Int32 → Int32 → Int32 → Int32 → (Nat → Int32) → (Nat → Int32) → (Nat → Int32) → (Option (Int32 × Int32 × Int32 × Int32 × (Nat → Int32) × (Nat → Int32)))} {r_X12_compared : Int32 → Int32 → Int32 → Int32 → Int32 → Int32 → Int32 → Int32 → Int32 → Int32 → Int32 → Int32 → Int32 → Int32 → Int32 → Int32 → Int32 → (Nat → Int32) → (Nat → Int32) → (Nat → Int32) → (Option (Int32 × Int32 × Int32 × Int32 × (Nat → Int32) × (Nat → Int32)))} {r_X12_either : Int32 → Int32 → Int32 → Int32 → Int32 → Int32 → Int32 → Int32 → Int32 → Int32 → Int32 → Int32 → Int32 → Int32 → Int32 → Int32 → Int32 → (Nat → Int32) → (Nat → Int32) → (Nat → Int32) → (Option (Int32 × Int32 × Int32 × Int32 × (Nat → Int32) × (Nat → Int32)))} {r_X12_operand : Int32 → Int32 → Int32 → Int32 → Int32 → Int32 → Int32 → Int32 → Int32 → Int32 → Int32 → Int32 → Int32 → Int32 → Int32 → Int32 → Int32 → (Nat → Int32) → (Nat → Int32) → (Nat → Int32) → (Option (Int32 × Int32 × Int32 × Int32 × (Nat → Int32) × (Nat → Int32)))} {r_X12_product : Int32 → Int32 → Int32 → Int32 → Int32 → Int32 → Int32 → Int32 → Int32 → Int32 → Int32 → Int32 → Int32 → Int32 → Int32 → Int32 → Int32 → (Nat → Int32) → (Nat → Int32) → (Nat → Int32) → (Option (Int32 × Int32 × Int32 × Int32 × (Nat → Int32) × (Nat → Int32)))} {r_X12_sum : Int32 → Int32 → Int32 → Int32 → Int32 → Int32 → Int32 → Int32 → Int32 → Int32 → Int32 → Int32 → Int32 → Int32 → Int32 → Int32 → Int32 → (Nat → Int32) → (Nat → Int32) → (Nat → Int32) → (Option (Int32 × Int32 × Int32 × Int32 × (Nat → Int32) × (Nat → Int32)))} {m : Nat} {he g o l : Int32} {ac wi : Nat → Int32} {S : Int32 × Int32 × Int32 × Int32 × (Nat → Int32) × (Nat → Int32)} (h : f_X12_product r_X12_both r_X12_compared r_X12_either r_X12_operand r_X12_product r_X12_sum m mod_code court_shoeCount mod_claims ts he g court_suitCount mod_doneMany mod_undoneMany o l mod_isBoth mod_wished mod_bestMany mod_bestRow mod_ringDigits mod_traces tm ac wi = some S) : ∃ u1 u2 u3 u4 u5 u6, (fun he g o l ac wi => r_X12_operand mod_code court_shoeCount mod_claims ts he g court_suitCount mod_doneMany mod_undoneMany o l mod_isBoth mod_wished mod_bestMany mod_bestRow mod_ringDigits mod_traces tm ac wi) he g o l ac wi = some (u1, u2, u3, u4, u5, u6) ∧ (fun m he g o l ac wi => G_X12_product r_X12_both r_X12_compared r_X12_either r_X12_operand r_X12_product r_X12_sum mod_code court_shoeCount mod_claims ts court_suitCount mod_doneMany mod_undoneMany mod_isBoth mod_wished mod_bestMany mod_bestRow mod_ringDigits mod_traces tm m he g o l ac wi) m u1 u2 u3 u4 u5 u6 = some S := by
  unfold f_X12_product B_X12_product_0 at h
  obtain ⟨u1, u2, u3, u4, u5, u6, k1, h⟩ := zk_o6 h
  exact ⟨u1, u2, u3, u4, u5, u6, k1, h⟩
set_option maxHeartbeats 4000000 in
set_option maxRecDepth 20000 in
theorem lv_go {ts : Int32} {f : Int32} {tb : Nat → Int32} {rL : Int32 → Int32 → Int32 → (Nat → Int32) → Int32 → Int32 → Int32 → (Nat → Int32) → (Option (Int32 × Int32 × Int32 × (Nat → Int32)))} {rO : Int32 → Int32 → (Nat → Int32) → Int32 → Int32 → Int32 → (Nat → Int32) → (Option (Int32 × Int32 × Int32 × (Nat → Int32)))} {kh : Nat} {lv o : Int32} {nn mm : Nat} {GM : Nat → Int32 → Int32 → Int32 → Int32 → (Nat → Int32) → (Nat → Int32) → Option (Int32 × Int32 × Int32 × Int32 × (Nat → Int32) × (Nat → Int32))} {sub F : Int32 → Int32 → Int32 → Int32 → (Nat → Int32) → (Nat → Int32) → Option (Int32 × Int32 × Int32 × Int32 × (Nat → Int32) × (Nat → Int32))} (hT : TS ts) (hl : 0 ≤ lv.toInt ∧ lv.toInt ≤ 4) (h2l : ¬ lv = 2) (hG : RSTEP ts tb lv GM sub) (hS : SUBS ts tb kh o (fun sz a f cd => rL (lv + 1) o ts tb sz a f cd) sub) (hF : ∀ he g o2 l ac wi S, F he g o2 l ac wi = some S → ∃ u1 u2 u3 u4 u5 u6, sub he g o2 l ac wi = some (u1, u2, u3, u4, u5, u6) ∧ GM mm u1 u2 u3 u4 u5 u6 = some S) : SUBS ts tb (kh + 1) o (fun sz a f cd => f_X5_readLevel rL rO nn lv o ts tb sz a f cd) F := by
  intro sz a f cd he g o2 l ac wi R S hp h h2
  have h : f_X5_readLevel rL rO nn lv o ts tb sz a f cd = some R := h
  unfold f_X5_readLevel B_X5_readLevel_0 at h
  have e4 : (4 : Int32).toInt = 4 := by decide
  have h := zk_t (show lv ≤ (4 : Int32) by rw [i32_le, e4]; exact hl.2) h
  obtain ⟨v1, v2, v3, v4, j1, h⟩ := zk_o4 h
  obtain ⟨u1, u2, u3, u4, u5, u6, k1, h2⟩ := hF _ _ _ _ _ _ _ h2
  have s0 := hp.2.2.2.2.2.2.2.1
  have l0 := hp.2.2.2.2.2.2.2.2.2.1
  rcases hS _ _ _ _ _ _ _ _ _ _ _ _ hp j1 k1 with ⟨hp2, L, t, q⟩ | hb
  · have hp2 : LPR ts o v1 v2 v3 u1 u2 u3 u4 := hp2
    exact lp_go hT hl h2l hG hS s0 l0 _ _ 0 v1 v2 v3 u1 u2 u3 u4 v4 u5 u6 R S L hp2 (TSG_m t) q (by decide) hp2.2.2.2.1.1 h h2
  · have hb : LBAD ts tb v2 v3 u2 := hb
    exact Or.inr (lp_bad hT hl hG hb h h2)
set_option maxHeartbeats 4000000 in
set_option maxRecDepth 20000 in
theorem rf_compared {mod_code : Int32} {court_shoeCount : Int32} {mod_claims : Int32} {ts : Int32} {court_suitCount : Int32} {mod_doneMany : Int32} {mod_undoneMany : Int32} {mod_isBoth : Int32} {mod_wished : Int32} {mod_bestMany : Int32} {mod_bestRow : Int32} {mod_ringDigits : Int32} {mod_traces : Int32} {tm : Nat → Int32} {tb : Nat → Int32} {r_X12_both : Int32 → Int32 → Int32 → Int32 → Int32 → Int32 → Int32 → Int32 → Int32 → Int32 → Int32 → Int32 → Int32 → Int32 → Int32 → Int32 → Int32 → (Nat → Int32) → (Nat → Int32) → (Nat → Int32) → (Option (Int32 × Int32 × Int32 × Int32 × (Nat → Int32) × (Nat → Int32)))} {r_X12_compared : Int32 → Int32 → Int32 → Int32 → Int32 → Int32 → Int32 → Int32 → Int32 → Int32 → Int32 → Int32 → Int32 → Int32 → Int32 → Int32 → Int32 → (Nat → Int32) → (Nat → Int32) → (Nat → Int32) → (Option (Int32 × Int32 × Int32 × Int32 × (Nat → Int32) × (Nat → Int32)))} {r_X12_either : Int32 → Int32 → Int32 → Int32 → Int32 → Int32 → Int32 → Int32 → Int32 → Int32 → Int32 → Int32 → Int32 → Int32 → Int32 → Int32 → Int32 → (Nat → Int32) → (Nat → Int32) → (Nat → Int32) → (Option (Int32 × Int32 × Int32 × Int32 × (Nat → Int32) × (Nat → Int32)))} {r_X12_operand : Int32 → Int32 → Int32 → Int32 → Int32 → Int32 → Int32 → Int32 → Int32 → Int32 → Int32 → Int32 → Int32 → Int32 → Int32 → Int32 → Int32 → (Nat → Int32) → (Nat → Int32) → (Nat → Int32) → (Option (Int32 × Int32 × Int32 × Int32 × (Nat → Int32) × (Nat → Int32)))} {r_X12_product : Int32 → Int32 → Int32 → Int32 → Int32 → Int32 → Int32 → Int32 → Int32 → Int32 → Int32 → Int32 → Int32 → Int32 → Int32 → Int32 → Int32 → (Nat → Int32) → (Nat → Int32) → (Nat → Int32) → (Option (Int32 × Int32 × Int32 × Int32 × (Nat → Int32) × (Nat → Int32)))} {r_X12_sum : Int32 → Int32 → Int32 → Int32 → Int32 → Int32 → Int32 → Int32 → Int32 → Int32 → Int32 → Int32 → Int32 → Int32 → Int32 → Int32 → Int32 → (Nat → Int32) → (Nat → Int32) → (Nat → Int32) → (Option (Int32 × Int32 × Int32 × Int32 × (Nat → Int32) × (Nat → Int32)))} {he g o l : Int32} {ac wi : Nat → Int32} {S : Int32 × Int32 × Int32 × Int32 × (Nat → Int32) × (Nat → Int32)} (hT : TS ts) (hR : TR ts tb tm) (h : f_X12_compared r_X12_both r_X12_compared r_X12_either r_X12_operand r_X12_product r_X12_sum mod_code court_shoeCount mod_claims ts he g court_suitCount mod_doneMany mod_undoneMany o l mod_isBoth mod_wished mod_bestMany mod_bestRow mod_ringDigits mod_traces tm ac wi = some S) : ∃ u1 u2 u3 u4 u5 u6, (fun he g o l ac wi => r_X12_sum mod_code court_shoeCount mod_claims ts he g court_suitCount mod_doneMany mod_undoneMany o l mod_isBoth mod_wished mod_bestMany mod_bestRow mod_ringDigits mod_traces tm ac wi) he g o l ac wi = some (u1, u2, u3, u4, u5, u6) ∧ ((u2.toInt < 0 → PB ts u1) → (S = (u1, u2, u3, u4, u5, u6) ∧ (0 ≤ u2.toInt ∨ ¬ sgn 2 (bZ ts tb u1))) ∨ (u2.toInt < 0 ∧ sgn 2 (bZ ts tb u1) ∧ ∃ x1 x2 x3 x4 x5 x6 l2 a2 w2, (fun he g o l ac wi => r_X12_sum mod_code court_shoeCount mod_claims ts he g court_suitCount mod_doneMany mod_undoneMany o l mod_isBoth mod_wished mod_bestMany mod_bestRow mod_ringDigits mod_traces tm ac wi) (u1 + 1) u2 u3 u4 u5 u6 = some (x1, x2, x3, x4, x5, x6) ∧ ((0 ≤ x4.toInt ∧ x4.toInt ≤ 1000) → l2 = x4 + 1 ∧ a2 = upd x5 (4160 + x4.toInt.toNat) (bz ts tb u1) ∧ w2 = upd x6 (4160 + x4.toInt.toNat) 0) ∧ S = (x1, x2, x3, l2, a2, w2))) := by
  unfold f_X12_compared B_X12_compared_0 at h
  obtain ⟨u1, u2, u3, u4, u5, u6, k1, h⟩ := zk_o6 h
  refine ⟨u1, u2, u3, u4, u5, u6, k1, fun hp => ?_⟩
  obtain ⟨r0, w0, a0, h⟩ := zk_o2 h
  by_cases c1 : 0 ≤ u2
  · have h := (Option.some.inj (zk_t c1 h)).symm
    rw [i32_le, z32_0] at c1
    exact Or.inl ⟨h, Or.inl c1⟩
  have h := zk_f c1 h
  rw [i32_le, z32_0] at c1
  have hb0 := mb_look hT hR (hp (by omega)) a0
  by_cases b0 : r0 = (60 : Int32)
  · have h := zk_t b0 h
    have ez : bZ ts tb u1 = 60 := (BR_e hb0 ⟨by decide, by decide, by decide⟩).mp b0
    have eb : bz ts tb u1 = 60 := Int32.toInt_inj.mp (ez.trans (by decide))
    subst b0
    unfold B_X12_compared_35 at h
    obtain ⟨v, ev, h⟩ := zk_lt h
    subst ev
    obtain ⟨x1, x2, x3, x4, x5, x6, k2, h⟩ := zk_o6 h
    obtain ⟨l2, a2, w2, k3, h⟩ := zk_o3 h
    refine Or.inr ⟨by omega, Or.inr (Or.inr (Or.inl ⟨rfl, Or.inl (ez)⟩)), x1, x2, x3, x4, x5, x6, l2, a2, w2, k2, fun hl => ?_, (Option.some.inj h).symm⟩
    have q := m5_lay ⟨by decide, by decide⟩ hl k3
    rw [eb]
    exact q.2
  have h := zk_f b0 h
  have n0 : bZ ts tb u1 ≠ 60 := fun z => b0 ((BR_e hb0 ⟨by decide, by decide, by decide⟩).mpr z)
  by_cases b1 : r0 = (61 : Int32)
  · have h := zk_t b1 h
    have ez : bZ ts tb u1 = 61 := (BR_e hb0 ⟨by decide, by decide, by decide⟩).mp b1
    have eb : bz ts tb u1 = 61 := Int32.toInt_inj.mp (ez.trans (by decide))
    subst b1
    unfold B_X12_compared_35 at h
    obtain ⟨v, ev, h⟩ := zk_lt h
    subst ev
    obtain ⟨x1, x2, x3, x4, x5, x6, k2, h⟩ := zk_o6 h
    obtain ⟨l2, a2, w2, k3, h⟩ := zk_o3 h
    refine Or.inr ⟨by omega, Or.inr (Or.inr (Or.inl ⟨rfl, Or.inr (Or.inl (ez))⟩)), x1, x2, x3, x4, x5, x6, l2, a2, w2, k2, fun hl => ?_, (Option.some.inj h).symm⟩
    have q := m5_lay ⟨by decide, by decide⟩ hl k3
    rw [eb]
    exact q.2
  have h := zk_f b1 h
  have n1 : bZ ts tb u1 ≠ 61 := fun z => b1 ((BR_e hb0 ⟨by decide, by decide, by decide⟩).mpr z)
  by_cases b2 : r0 = (62 : Int32)
  · have h := zk_t b2 h
    have ez : bZ ts tb u1 = 62 := (BR_e hb0 ⟨by decide, by decide, by decide⟩).mp b2
    have eb : bz ts tb u1 = 62 := Int32.toInt_inj.mp (ez.trans (by decide))
    subst b2
    unfold B_X12_compared_35 at h
    obtain ⟨v, ev, h⟩ := zk_lt h
    subst ev
    obtain ⟨x1, x2, x3, x4, x5, x6, k2, h⟩ := zk_o6 h
    obtain ⟨l2, a2, w2, k3, h⟩ := zk_o3 h
    refine Or.inr ⟨by omega, Or.inr (Or.inr (Or.inl ⟨rfl, Or.inr (Or.inr (ez))⟩)), x1, x2, x3, x4, x5, x6, l2, a2, w2, k2, fun hl => ?_, (Option.some.inj h).symm⟩
    have q := m5_lay ⟨by decide, by decide⟩ hl k3
    rw [eb]
    exact q.2
  have h := zk_f b2 h
  have n2 : bZ ts tb u1 ≠ 62 := fun z => b2 ((BR_e hb0 ⟨by decide, by decide, by decide⟩).mpr z)
  refine Or.inl ⟨(Option.some.inj h).symm, Or.inr (fun z => ?_)⟩
  rcases z with ⟨z1, z⟩ | ⟨z1, z⟩ | ⟨z1, z⟩ | ⟨z1, z⟩ | ⟨z1, z⟩
  · exact absurd z1 (by decide)
  · exact absurd z1 (by decide)
  · omega
  · exact absurd z1 (by decide)
  · exact absurd z1 (by decide)
set_option maxHeartbeats 4000000 in
set_option maxRecDepth 20000 in
theorem lv_cmp {ts : Int32} {f : Int32} {tb : Nat → Int32} {rL : Int32 → Int32 → Int32 → (Nat → Int32) → Int32 → Int32 → Int32 → (Nat → Int32) → (Option (Int32 × Int32 × Int32 × (Nat → Int32)))} {rO : Int32 → Int32 → (Nat → Int32) → Int32 → Int32 → Int32 → (Nat → Int32) → (Option (Int32 × Int32 × Int32 × (Nat → Int32)))} {kh : Nat} {o : Int32} {nn : Nat} {sub F : Int32 → Int32 → Int32 → Int32 → (Nat → Int32) → (Nat → Int32) → Option (Int32 × Int32 × Int32 × Int32 × (Nat → Int32) × (Nat → Int32))} (hT : TS ts) (hS : SUBS ts tb kh o (fun sz a f cd => rL (2 + 1) o ts tb sz a f cd) sub) (hF : ∀ he g o l ac wi S, F he g o l ac wi = some S → ∃ u1 u2 u3 u4 u5 u6, (sub) he g o l ac wi = some (u1, u2, u3, u4, u5, u6) ∧ ((u2.toInt < 0 → PB ts u1) → (S = (u1, u2, u3, u4, u5, u6) ∧ (0 ≤ u2.toInt ∨ ¬ sgn 2 (bZ ts tb u1))) ∨ (u2.toInt < 0 ∧ sgn 2 (bZ ts tb u1) ∧ ∃ x1 x2 x3 x4 x5 x6 l2 a2 w2, (sub) (u1 + 1) u2 u3 u4 u5 u6 = some (x1, x2, x3, x4, x5, x6) ∧ ((0 ≤ x4.toInt ∧ x4.toInt ≤ 1000) → l2 = x4 + 1 ∧ a2 = upd x5 (4160 + x4.toInt.toNat) (bz ts tb u1) ∧ w2 = upd x6 (4160 + x4.toInt.toNat) 0) ∧ S = (x1, x2, x3, l2, a2, w2)))) : SUBS ts tb (kh + 1) o (fun sz a f cd => f_X5_readLevel rL rO nn 2 o ts tb sz a f cd) F := by
  intro sz a f cd he g o2 l ac wi R S hp h h2
  have h : f_X5_readLevel rL rO nn 2 o ts tb sz a f cd = some R := h
  unfold f_X5_readLevel B_X5_readLevel_0 at h
  have h := zk_t (show (2 : Int32) ≤ (4 : Int32) by decide) h
  obtain ⟨v1, v2, v3, v4, j1, h⟩ := zk_o4 h
  obtain ⟨u1, u2, u3, u4, u5, u6, k1, h2⟩ := hF _ _ _ _ _ _ _ h2
  have s0 := hp.2.2.2.2.2.2.2.1
  have l0 := hp.2.2.2.2.2.2.2.2.2.1
  have hT2 := hT.2
  have hl : 0 ≤ (2 : Int32).toInt ∧ (2 : Int32).toInt ≤ 4 := by decide
  cases nn with
  | zero => cases h
  | succ nn =>
  rcases hS _ _ _ _ _ _ _ _ _ _ _ _ hp j1 k1 with ⟨hp2, L, t, q⟩ | hb
  · have hp2 : LPR ts o v1 v2 v3 u1 u2 u3 u4 := hp2
    have q : SEGS sz.toInt a.toInt l.toInt cd ac wi v1.toInt v2.toInt u4.toInt v4 u5 u6 L := q
    have ehe : u1 = v2 := hp2.2.2.1
    subst ehe
    have hf0 : v3.toInt < 0 := hp2.1
    have hg0 : u2.toInt < 0 := hp2.2.1
    by_cases hs : sgn 2 (bZ ts tb u1)
    · obtain ⟨hn, en, hlt⟩ := LPR_n (tb := tb) hT hp2 hs
      rcases h2 (fun _ => hp2.2.2.2.1) with ⟨_, z⟩ | ⟨_, _, x1, x2, x3, x4, x5, x6, l2, a2, w2, k2, k3, k4⟩
      · exact False.elim (z.elim (fun y => by omega) (fun y => y hs))
      rcases c5_step hT hl h with ⟨_, z⟩ | ⟨_, _, _, y1, y2, y3, y4, g1, g2, j2, j3, j4, _⟩
      · exact False.elim (z.elim (fun y => absurd y (by decide)) (fun y => y.elim (fun w => by omega) (fun w => w hs)))
      have j4 := j4 rfl
      rw [j4, k4]
      rcases hS _ _ _ _ _ _ _ _ _ _ _ _ hn j2 k2 with ⟨hp3, L2, t2, q2⟩ | hb
      · have hp3 : LPR ts o y1 y2 y3 x1 x2 x3 x4 := hp3
        have q2 : SEGS v1.toInt (u1 + 1).toInt u4.toInt v4 u5 u6 y1.toInt y2.toInt x4.toInt y4 x5 x6 L2 := q2
        obtain ⟨b1, b2, b3, b4, b5, b6, b7, b8, b9, b10, b11⟩ := hp3
        have b4' := b4.2
        have m1 := hp2.2.2.2.2.2.2.2.2.1
        have m2 := hp2.2.2.2.2.2.2.2.2.2.2
        have q3 := q2.2.2.1
        have qs := q2.1
        have ql := q2.2.1
        obtain ⟨d1, _, d2⟩ := (c5_emit j3).1 b1 b8 (by omega)
        obtain ⟨f1, f2, f3⟩ := k3 ⟨b10, by omega⟩
        have tk := sgn_tk (show sgn 2 (bz ts tb u1).toInt from hs)
        have sh := SEGS_sh q2 en
        have dd := SEGS_tr s0 l0 (Int.le_refl _) q sh.1
        have la : a.toInt + ((L ++ L2).length : Int) + 1 ≤ y2.toInt := by
          have := q.2.2.1
          have := sh.2
          rw [List.length_append]
          omega
        have el := i32_s (a := x4) (by omega)
        have d1' : g1.toInt = y1.toInt + 1 := d1
        have l1 : l2.toInt = x4.toInt + 1 := by rw [f1]; exact el
        have de := SEGS_em (x := (bz ts tb u1, (0 : Int32))) (v := enc (bz ts tb u1, 0)) (b := bz ts tb u1) (w := 0) (s2 := g1.toInt) (l2 := l2.toInt) s0 l0 dd la rfl rfl rfl tk.1 rfl rfl d1' l1
        have d2' : g2 = upd y4 y1.toInt.toNat (enc (bz ts tb u1, 0)) := d2
        refine Or.inl ⟨⟨b1, b2, b3, b4, b5, b6, b7, ?_, ?_, ?_, ?_⟩, L ++ (L2 ++ [(bz ts tb u1, (0 : Int32))]), TSG_bin (TSG_m t) t2 ⟨tk.2.1, tk.2.2.1, tk.2.2.2.1, tk.2.2.2.2⟩ (Nat.le_refl _) (Nat.le_refl _), ?_⟩
        · show 0 ≤ g1.toInt
          omega
        · show g1.toInt ≤ y2.toInt
          omega
        · show 0 ≤ l2.toInt
          omega
        · show l2.toInt ≤ y2.toInt
          omega
        · show SEGS sz.toInt a.toInt l.toInt cd ac wi g1.toInt y2.toInt l2.toInt g2 a2 w2 _
          rw [d2', f2, f3, ← List.append_assoc]
          exact de
      · exact Or.inr hb
    · rcases h2 (fun _ => hp2.2.2.2.1) with ⟨e2, _⟩ | ⟨_, z, _⟩
      · rcases c5_step hT hl h with ⟨e1, _⟩ | ⟨_, _, z, _⟩
        · rw [e1, e2]
          exact Or.inl ⟨hp2, L, TSG_m t, q⟩
        · exact absurd z hs
      · exact absurd z hs
  · have hb : LBAD ts tb v2 v3 u2 := hb
    have g0 := LBAD_g hb
    rcases h2 (fun z => by omega) with ⟨e2, _⟩ | ⟨z, _⟩
    · rcases c5_step hT hl h with ⟨e1, _⟩ | ⟨_, z, hs, _⟩
      · rw [e1, e2]
        exact Or.inr hb
      · exact (LBAD_sg hb z hs).elim
    · omega
theorem nm_tab : ∀ b : Fin 256, f_J0_indexOf_0f7a4 4 (((Int32.ofNat b.val).toUInt32 % 65536).toInt32) = f_X12_nameOf (Int32.ofNat b.val) := by decide +kernel
def nmok (b : Nat) : Bool := match f_X12_nameOf (Int32.ofNat b) with
  | some (r, _) => decide (-1 ≤ r.toInt ∧ r.toInt ≤ 10 ∧ (0 ≤ r.toInt → 58 ≤ b) ∧ (r.toInt < 0 → r.toInt = -1))
  | none => true
theorem nm_tab2 : ∀ b : Fin 256, nmok b.val = true := by decide +kernel
theorem i32_n {x : Int32} (h0 : 0 ≤ x.toInt) : x = Int32.ofNat x.toInt.toNat := by
  apply Int32.toInt_inj.mp
  have := x.toInt_lt
  rw [Int32.toInt_ofNat_of_lt (by omega)]
  omega
theorem nm_eq {x r q : Int32} {u w : Unit} (h0 : 0 ≤ x.toInt) (h1 : x.toInt ≤ 255) (h : f_J0_indexOf_0f7a4 4 ((x.toUInt32 % 65536).toInt32) = some (r, u)) (h2 : f_X12_nameOf x = some (q, w)) : r = q := by
  have k := nm_tab ⟨x.toInt.toNat, by omega⟩
  dsimp only at k
  rw [← i32_n h0, h, h2] at k
  exact congrArg Prod.fst (Option.some.inj k)
theorem nm_in {x q : Int32} {w : Unit} (h0 : 0 ≤ x.toInt) (h1 : x.toInt ≤ 255) (h2 : f_X12_nameOf x = some (q, w)) : -1 ≤ q.toInt ∧ q.toInt ≤ 10 ∧ (0 ≤ q.toInt → 58 ≤ x.toInt) ∧ (q.toInt < 0 → q.toInt = -1) := by
  have k := nm_tab2 ⟨x.toInt.toNat, by omega⟩
  dsimp only at k
  unfold nmok at k
  rw [← i32_n h0, h2] at k
  have k := of_decide_eq_true k
  exact ⟨k.1, k.2.1, fun z => by have := k.2.2.1 z; omega, k.2.2.2⟩
theorem nmr_ge {ts : Int32} {tb : Nat → Int32} (hT : TS ts) : ∀ (k : Nat) (v a : Int32), PB ts a → a.toInt ≤ (nmr ts tb k v a).2.toInt
  | 0, v, a, h => Int.le_refl _
  | k + 1, v, a, h => by
    show a.toInt ≤ (if 48 ≤ bZ ts tb a ∧ bZ ts tb a ≤ 57 then nmr ts tb k (v * 10 + bz ts tb a - 48) (a + 1) else (v, a)).2.toInt
    by_cases c : 48 ≤ bZ ts tb a ∧ bZ ts tb a ≤ 57
    · rw [if_pos c]
      have p := PB_s (tb := tb) hT h (by omega)
      have := nmr_ge (tb := tb) hT k (v * 10 + bz ts tb a - 48) (a + 1) p
      have h2 := hT.2
      have h3 := h.1
      have h4 := h.2
      have e := i32_s (a := a) (by omega)
      omega
    · rw [if_neg c]
      exact Int.le_refl _

theorem nm_neg {x q : Int32} {w : Unit} (h0 : x.toInt < 0) (h : f_X12_nameOf x = some (q, w)) : q = -1 := by
  unfold f_X12_nameOf B_X12_nameOf_0 at h
  have k : ∀ c : Int32, 0 ≤ c.toInt → ¬ x = c := fun c hc e => by
    rw [e] at h0
    omega
  have h := zk_f (k (97 : Int32) (by decide)) h
  have h := zk_f (k (98 : Int32) (by decide)) h
  have h := zk_f (k (99 : Int32) (by decide)) h
  have h := zk_f (k (100 : Int32) (by decide)) h
  have h := zk_f (k (101 : Int32) (by decide)) h
  have h := zk_f (k (102 : Int32) (by decide)) h
  have h := zk_f (k (103 : Int32) (by decide)) h
  have h := zk_f (k (104 : Int32) (by decide)) h
  have h := zk_f (k (105 : Int32) (by decide)) h
  have h := zk_f (k (106 : Int32) (by decide)) h
  have h := zk_f (k (107 : Int32) (by decide)) h
  have h := zk_f (k (108 : Int32) (by decide)) h
  have h := zk_f (k (109 : Int32) (by decide)) h
  have h := zk_f (k (110 : Int32) (by decide)) h
  have h := zk_f (k (111 : Int32) (by decide)) h
  have h := zk_f (k (112 : Int32) (by decide)) h
  have h := zk_f (k (113 : Int32) (by decide)) h
  have h := zk_f (k (114 : Int32) (by decide)) h
  have h := zk_f (k (115 : Int32) (by decide)) h
  have h := zk_f (k (116 : Int32) (by decide)) h
  have h := zk_f (k (117 : Int32) (by decide)) h
  have h := zk_f (k (118 : Int32) (by decide)) h
  have h := zk_f (k (119 : Int32) (by decide)) h
  exact (congrArg Prod.fst (Option.some.inj h)).symm

set_option maxHeartbeats 4000000 in
set_option maxRecDepth 20000 in
theorem m5_operand {mod_code : Int32} {court_shoeCount : Int32} {mod_claims : Int32} {ts : Int32} {court_suitCount : Int32} {mod_doneMany : Int32} {mod_undoneMany : Int32} {mod_isBoth : Int32} {mod_wished : Int32} {mod_bestMany : Int32} {mod_bestRow : Int32} {mod_ringDigits : Int32} {mod_traces : Int32} {tm : Nat → Int32} {tb : Nat → Int32} {r_X12_both : Int32 → Int32 → Int32 → Int32 → Int32 → Int32 → Int32 → Int32 → Int32 → Int32 → Int32 → Int32 → Int32 → Int32 → Int32 → Int32 → Int32 → (Nat → Int32) → (Nat → Int32) → (Nat → Int32) → (Option (Int32 × Int32 × Int32 × Int32 × (Nat → Int32) × (Nat → Int32)))} {r_X12_compared : Int32 → Int32 → Int32 → Int32 → Int32 → Int32 → Int32 → Int32 → Int32 → Int32 → Int32 → Int32 → Int32 → Int32 → Int32 → Int32 → Int32 → (Nat → Int32) → (Nat → Int32) → (Nat → Int32) → (Option (Int32 × Int32 × Int32 × Int32 × (Nat → Int32) × (Nat → Int32)))} {r_X12_either : Int32 → Int32 → Int32 → Int32 → Int32 → Int32 → Int32 → Int32 → Int32 → Int32 → Int32 → Int32 → Int32 → Int32 → Int32 → Int32 → Int32 → (Nat → Int32) → (Nat → Int32) → (Nat → Int32) → (Option (Int32 × Int32 × Int32 × Int32 × (Nat → Int32) × (Nat → Int32)))} {r_X12_operand : Int32 → Int32 → Int32 → Int32 → Int32 → Int32 → Int32 → Int32 → Int32 → Int32 → Int32 → Int32 → Int32 → Int32 → Int32 → Int32 → Int32 → (Nat → Int32) → (Nat → Int32) → (Nat → Int32) → (Option (Int32 × Int32 × Int32 × Int32 × (Nat → Int32) × (Nat → Int32)))} {r_X12_product : Int32 → Int32 → Int32 → Int32 → Int32 → Int32 → Int32 → Int32 → Int32 → Int32 → Int32 → Int32 → Int32 → Int32 → Int32 → Int32 → Int32 → (Nat → Int32) → (Nat → Int32) → (Nat → Int32) → (Option (Int32 × Int32 × Int32 × Int32 × (Nat → Int32) × (Nat → Int32)))} {r_X12_sum : Int32 → Int32 → Int32 → Int32 → Int32 → Int32 → Int32 → Int32 → Int32 → Int32 → Int32 → Int32 → Int32 → Int32 → Int32 → Int32 → Int32 → (Nat → Int32) → (Nat → Int32) → (Nat → Int32) → (Option (Int32 × Int32 × Int32 × Int32 × (Nat → Int32) × (Nat → Int32)))} {he g o l : Int32} {ac wi : Nat → Int32} {S : Int32 × Int32 × Int32 × Int32 × (Nat → Int32) × (Nat → Int32)} (hT : TS ts) (hR : TR ts tb tm) (hp : PB ts he) (hg : g.toInt < 0) (ho : 0 ≤ o.toInt ∧ o.toInt ≤ 6) (hl : 0 ≤ l.toInt ∧ l.toInt ≤ 1000) (h : f_X12_operand r_X12_both r_X12_compared r_X12_either r_X12_operand r_X12_product r_X12_sum mod_code court_shoeCount mod_claims ts he g court_suitCount mod_doneMany mod_undoneMany o l mod_isBoth mod_wished mod_bestMany mod_bestRow mod_ringDigits mod_traces tm ac wi = some S) : (bZ ts tb he = 33 → (6 ≤ o.toInt ∧ S = (he, he, o, l, ac, wi)) ∨ (o.toInt < 6 ∧ ∃ u1 u2 u3 u4 u5 u6 l2 a2 w2, (fun he g o l ac wi => r_X12_operand mod_code court_shoeCount mod_claims ts he g court_suitCount mod_doneMany mod_undoneMany o l mod_isBoth mod_wished mod_bestMany mod_bestRow mod_ringDigits mod_traces tm ac wi) (he + 1) g (o + 1) l ac wi = some (u1, u2, u3, u4, u5, u6) ∧ ((0 ≤ u4.toInt ∧ u4.toInt ≤ 1000) → l2 = u4 + 1 ∧ a2 = upd u5 (4160 + u4.toInt.toNat) 3 ∧ w2 = upd u6 (4160 + u4.toInt.toNat) 0) ∧ S = (u1, u2, u3 - 1, l2, a2, w2))) ∧ (bZ ts tb he = 45 → (6 ≤ o.toInt ∧ S = (he, he, o, l, ac, wi)) ∨ (o.toInt < 6 ∧ ∃ u1 u2 u3 u4 u5 u6 l2 a2 w2, (fun he g o l ac wi => r_X12_operand mod_code court_shoeCount mod_claims ts he g court_suitCount mod_doneMany mod_undoneMany o l mod_isBoth mod_wished mod_bestMany mod_bestRow mod_ringDigits mod_traces tm ac wi) (he + 1) g (o + 1) l ac wi = some (u1, u2, u3, u4, u5, u6) ∧ ((0 ≤ u4.toInt ∧ u4.toInt ≤ 1000) → l2 = u4 + 1 ∧ a2 = upd u5 (4160 + u4.toInt.toNat) 4 ∧ w2 = upd u6 (4160 + u4.toInt.toNat) 0) ∧ S = (u1, u2, u3 - 1, l2, a2, w2))) ∧ (bZ ts tb he = 40 → (6 ≤ o.toInt ∧ S = (he, he, o, l, ac, wi)) ∨ (o.toInt < 6 ∧ ∃ u1 u2 u3 u4 u5 u6, (fun he g o l ac wi => r_X12_either mod_code court_shoeCount mod_claims ts he g court_suitCount mod_doneMany mod_undoneMany o l mod_isBoth mod_wished mod_bestMany mod_bestRow mod_ringDigits mod_traces tm ac wi) (he + 1) g (o + 1) l ac wi = some (u1, u2, u3, u4, u5, u6) ∧ (0 ≤ u2.toInt → S = (u1, u2, u3, u4, u5, u6)) ∧ (u2.toInt < 0 → PB ts u1 → (bZ ts tb u1 = 41 ∧ S = (u1 + 1, u2, u3 - 1, u4, u5, u6)) ∨ (bZ ts tb u1 ≠ 41 ∧ S = (u1, u1, u3, u4, u5, u6))))) ∧ ((48 ≤ bZ ts tb he ∧ bZ ts tb he ≤ 57) → S.1 = (nmr ts tb 4 0 he).2 ∧ ((48 ≤ bZ ts tb (nmr ts tb 4 0 he).2 ∧ bZ ts tb (nmr ts tb 4 0 he).2 ≤ 57) → S.2.1 = (nmr ts tb 4 0 he).2) ∧ (¬ (48 ≤ bZ ts tb (nmr ts tb 4 0 he).2 ∧ bZ ts tb (nmr ts tb 4 0 he).2 ≤ 57) → S.2.1 = g) ∧ S.2.2.1 = o ∧ S.2.2.2.1 = l + 1 ∧ S.2.2.2.2.1 = upd ac (4160 + l.toInt.toNat) 1 ∧ S.2.2.2.2.2 = upd wi (4160 + l.toInt.toNat) (nmr ts tb 4 0 he).1) ∧ (¬ bZ ts tb he = 33 → ¬ bZ ts tb he = 45 → ¬ bZ ts tb he = 40 → ¬ (48 ≤ bZ ts tb he ∧ bZ ts tb he ≤ 57) → ∃ r q w, BR (bz ts tb he) r ∧ f_X12_nameOf r = some (q, w) ∧ (q.toInt < 0 → S.2.1 = he) ∧ (0 ≤ q.toInt → S = (he + 1, g, o, l + 1, upd ac (4160 + l.toInt.toNat) 2, upd wi (4160 + l.toInt.toNat) q))) := by
  unfold f_X12_operand B_X12_operand_0 at h
  obtain ⟨r, w, a1, h⟩ := zk_o2 h
  have hb := mb_look hT hR hp a1
  obtain ⟨q, w2, a2, h⟩ := zk_o2 h
  have ebz : bZ ts tb he = (bz ts tb he).toInt := rfl
  have hq0 : bZ ts tb he < 58 → q.toInt < 0 := fun z => by
    rcases hb with ⟨b0, b1, e⟩ | ⟨b0, b1, _⟩
    · rw [e] at a2
      have := (nm_in b0 (by omega) a2).2.2.1
      omega
    · rw [nm_neg b1 a2]
      decide
  have hr : ∀ (c : Int32) (n : Int), c.toInt = n ∧ 0 ≤ n ∧ n ≤ 127 → (r = c ↔ bZ ts tb he = n) := fun c n hc => BR_e hb hc
  have e33 := hr 33 33 ⟨by decide, by decide, by decide⟩
  have e45 := hr 45 45 ⟨by decide, by decide, by decide⟩
  have e40 := hr 40 40 ⟨by decide, by decide, by decide⟩
  have una : ∀ (c : Int32) (T : Int32), (h9 : B_X12_operand_46 r_X12_both r_X12_compared r_X12_either r_X12_operand r_X12_product r_X12_sum mod_code court_shoeCount mod_claims ts court_suitCount mod_doneMany mod_undoneMany mod_isBoth mod_wished mod_bestMany mod_bestRow mod_ringDigits mod_traces tm c he g o l ac wi = some S) → (c = 33 → T = 3) → (¬ c = 33 → T = 4) → (6 ≤ o.toInt ∧ S = (he, he, o, l, ac, wi)) ∨ (o.toInt < 6 ∧ ∃ u1 u2 u3 u4 u5 u6 l2 a2 w2, (fun he g o l ac wi => r_X12_operand mod_code court_shoeCount mod_claims ts he g court_suitCount mod_doneMany mod_undoneMany o l mod_isBoth mod_wished mod_bestMany mod_bestRow mod_ringDigits mod_traces tm ac wi) (he + 1) g (o + 1) l ac wi = some (u1, u2, u3, u4, u5, u6) ∧ ((0 ≤ u4.toInt ∧ u4.toInt ≤ 1000) → l2 = u4 + 1 ∧ a2 = upd u5 (4160 + u4.toInt.toNat) T ∧ w2 = upd u6 (4160 + u4.toInt.toNat) 0) ∧ S = (u1, u2, u3 - 1, l2, a2, w2)) := fun c T h9 t1 t2 => by
    unfold B_X12_operand_46 at h9
    obtain ⟨x1, x2, x3, x4, k1, h9⟩ := zk_o4 h9
    rcases m5_open hg ho k1 with ⟨c1, e⟩ | ⟨c1, e⟩
    · obtain ⟨rfl, rfl, rfl, rfl⟩ : 1 = x1 ∧ he + 1 = x2 ∧ g = x3 ∧ o + 1 = x4 := by
        simp only [Prod.mk.injEq] at e
        exact ⟨e.1.symm, e.2.1.symm, e.2.2.1.symm, e.2.2.2.symm⟩
      have h9 := zk_f (by decide) h9
      obtain ⟨u1, u2, u3, u4, u5, u6, k2, h9⟩ := zk_o6 h9
      obtain ⟨v, ev, h9⟩ := zk_lt h9
      subst ev
      by_cases c33 : c = 33
      · have h9 := zk_t c33 h9
        unfold B_X12_operand_80 at h9
        obtain ⟨l2, a3, w3, k3, h9⟩ := zk_o3 h9
        refine Or.inr ⟨c1, u1, u2, u3, u4, u5, u6, l2, a3, w3, k2, fun hl => ?_, (Option.some.inj h9).symm⟩
        rw [t1 c33]
        exact (m5_lay ⟨by decide, by decide⟩ hl k3).2
      · have h9 := zk_f c33 h9
        unfold B_X12_operand_80 at h9
        obtain ⟨l2, a3, w3, k3, h9⟩ := zk_o3 h9
        refine Or.inr ⟨c1, u1, u2, u3, u4, u5, u6, l2, a3, w3, k2, fun hl => ?_, (Option.some.inj h9).symm⟩
        rw [t2 c33]
        exact (m5_lay ⟨by decide, by decide⟩ hl k3).2
    · obtain ⟨rfl, rfl, rfl, rfl⟩ : 0 = x1 ∧ he = x2 ∧ he = x3 ∧ o = x4 := by
        simp only [Prod.mk.injEq] at e
        exact ⟨e.1.symm, e.2.1.symm, e.2.2.1.symm, e.2.2.2.symm⟩
      have h9 := zk_t rfl h9
      exact Or.inl ⟨c1, (Option.some.inj h9).symm⟩
  refine ⟨fun z => ?_, fun z => ?_, fun z => ?_, fun z => ?_, fun z1 z2 z3 z4 => ?_⟩
  · have h := zk_t (show q < 0 by rw [i32_lt, z32_0]; exact hq0 (by omega)) h
    have h := zk_t (e33.mpr z) h
    exact una _ 3 h (fun _ => rfl) (fun n => absurd (e33.mpr z) n)
  · have h := zk_t (show q < 0 by rw [i32_lt, z32_0]; exact hq0 (by omega)) h
    have n33 : ¬ r = 33 := fun y => by have := e33.mp y; omega
    have h := zk_f n33 h
    have h := zk_t (e45.mpr z) h
    exact una _ 4 h (fun n => absurd n n33) (fun _ => rfl)
  · have h := zk_t (show q < 0 by rw [i32_lt, z32_0]; exact hq0 (by omega)) h
    have h := zk_f (fun y => by have := e33.mp y; omega) h
    have h := zk_f (fun y => by have := e45.mp y; omega) h
    have h := zk_t (e40.mpr z) h
    obtain ⟨x1, x2, x3, x4, k1, h⟩ := zk_o4 h
    rcases m5_open hg ho k1 with ⟨c1, e⟩ | ⟨c1, e⟩
    · obtain ⟨rfl, rfl, rfl, rfl⟩ : 1 = x1 ∧ he + 1 = x2 ∧ g = x3 ∧ o + 1 = x4 := by
        simp only [Prod.mk.injEq] at e
        exact ⟨e.1.symm, e.2.1.symm, e.2.2.1.symm, e.2.2.2.symm⟩
      have h := zk_f (by decide) h
      obtain ⟨u1, u2, u3, u4, u5, u6, k2, h⟩ := zk_o6 h
      refine Or.inr ⟨c1, u1, u2, u3, u4, u5, u6, k2, fun y => ?_, fun y yp => ?_⟩
      · have h := zk_f (show ¬ u2 < 0 by rw [i32_lt, z32_0]; omega) h
        exact (Option.some.inj h).symm
      · have h := zk_t (show u2 < 0 by rw [i32_lt, z32_0]; omega) h
        obtain ⟨r5, w5, a5, h⟩ := zk_o2 h
        have hb5 := mb_look hT hR yp a5
        by_cases c41 : r5 = 41
        · have h := zk_t c41 h
          obtain ⟨v1, e1, h⟩ := zk_lt h
          obtain ⟨v2, e2, h⟩ := zk_lt h
          subst e1
          subst e2
          exact Or.inl ⟨(BR_e hb5 ⟨by decide, by decide, by decide⟩).mp c41, (Option.some.inj h).symm⟩
        · have h := zk_f c41 h
          obtain ⟨v, k3, h⟩ := zk_o1 h
          rcases mb_wrong k3 with ⟨_, e⟩ | ⟨e, _⟩
          · subst e
            exact Or.inr ⟨fun y2 => c41 ((BR_e hb5 ⟨by decide, by decide, by decide⟩).mpr y2), (Option.some.inj h).symm⟩
          · omega
    · obtain ⟨rfl, rfl, rfl, rfl⟩ : 0 = x1 ∧ he = x2 ∧ he = x3 ∧ o = x4 := by
        simp only [Prod.mk.injEq] at e
        exact ⟨e.1.symm, e.2.1.symm, e.2.2.1.symm, e.2.2.2.symm⟩
      have h := zk_t rfl h
      exact Or.inl ⟨c1, (Option.some.inj h).symm⟩
  · have h := zk_t (show q < 0 by rw [i32_lt, z32_0]; exact hq0 (by omega)) h
    have h := zk_f (fun y => by have := e33.mp y; omega) h
    have h := zk_f (fun y => by have := e45.mp y; omega) h
    have h := zk_f (fun y => by have := e40.mp y; omega) h
    obtain ⟨u1, u2, u3, u4, u5, k1, h⟩ := zk_o5 h
    unfold f_X12_figure B_X12_figure_0 at k1
    obtain ⟨q1, q2, q3, _, q4, q5, q6⟩ := m5_figL hT hR hg hl _ 4 0 0 he _ (by decide) (by decide) hp k1
    have h := Option.some.inj h
    rw [← h]
    exact ⟨q1, fun y => q2 (Or.inr y), fun y => q3 (fun x => x.elim (fun v => v.2 z) y), rfl, q4, q5, q6⟩
  · refine ⟨r, q, w2, hb, a2, fun y => ?_, fun y => ?_⟩
    · have h := zk_t (show q < 0 by rw [i32_lt, z32_0]; exact y) h
      have h := zk_f (fun y => z1 (e33.mp y)) h
      have h := zk_f (fun y => z2 (e45.mp y)) h
      have h := zk_f (fun y => z3 (e40.mp y)) h
      obtain ⟨u1, u2, u3, u4, u5, k1, h⟩ := zk_o5 h
      unfold f_X12_figure B_X12_figure_0 at k1
      obtain ⟨q1, q2, _⟩ := m5_figL hT hR hg hl _ 4 0 0 he _ (by decide) (by decide) hp k1
      have h := Option.some.inj h
      rw [← h]
      have hn : nmr ts tb 4 0 he = (0, he) := by
        show (if 48 ≤ bZ ts tb he ∧ bZ ts tb he ≤ 57 then nmr ts tb 3 (0 * 10 + bz ts tb he - 48) (he + 1) else ((0 : Int32), he)) = _
        rw [if_neg z4]
      have q2 := q2 (Or.inl ⟨rfl, z4⟩)
      rw [hn] at q2
      exact q2
    · have h := zk_f (show ¬ q < 0 by rw [i32_lt, z32_0]; omega) h
      obtain ⟨r7, w7, a7, h⟩ := zk_o2 h
      have er : q = r7 := by
        rw [a2] at a7
        exact congrArg Prod.fst (Option.some.inj a7)
      subst er
      obtain ⟨l2, a3, w3, k3, h⟩ := zk_o3 h
      obtain ⟨v, ev, h⟩ := zk_lt h
      subst ev
      have h := Option.some.inj h
      rw [← h]
      obtain ⟨_, q1, q2, q3⟩ := m5_lay ⟨by decide, by decide⟩ hl k3
      have q1 : l2 = l + 1 := q1
      have q2 : a3 = _ := q2
      have q3 : w3 = _ := q3
      rw [q1, q2, q3]
theorem i32_p1 {o : Int32} (h : 0 ≤ o.toInt ∧ o.toInt ≤ 1000) : o + 1 - 1 = o := by
  apply Int32.toInt_inj.mp
  rw [Int32.toInt_sub, i32_s (by omega), z32_1, Int.bmod_eq_of_le (by omega) (by omega)]
  omega
theorem LPR_o {ts : Int32} {tb : Nat → Int32} {o sz a f he g o2 l : Int32} (hT : TS ts) (h : LPR ts o sz a f he g o2 l) (ho : o.toInt < 6) (hb : 0 ≤ bZ ts tb a) : LPR ts (o + 1) sz (a + 1) f (he + 1) g (o2 + 1) l ∧ (a + 1).toInt = a.toInt + 1 := by
  obtain ⟨h1, h2, h3, h4, h5, h6, h7, h8, h9, h10, h11⟩ := h
  have hp := PB_s (tb := tb) hT h4 hb
  have ht := hT.2
  have ha := h4.2
  have ha0 := h4.1
  have e := i32_s (a := a) (by omega)
  have eo := i32_s (a := o) (by omega)
  exact ⟨⟨h1, h2, by rw [h3], hp, by rw [h5], by omega, by omega, h8, by omega, h10, by omega⟩, e⟩
theorem bz_B {ts : Int32} {tb : Nat → Int32} {a : Int32} (hB : ∀ k, k < ts.toInt.toNat → (tb k).toInt ≤ 255) : bZ ts tb a ≤ 255 := by
  unfold bZ bz
  by_cases c1 : a < 0
  · rw [if_pos c1]
    decide
  · rw [if_neg c1]
    by_cases c2 : ts ≤ a
    · rw [if_pos c2]
      decide
    · rw [if_neg c2]
      have e : a.toNatClampNeg = a.toInt.toNat := rfl
      rw [i32_lt, z32_0] at c1
      rw [i32_le] at c2
      exact hB _ (by rw [e]; omega)

theorem nm_hi {x q : Int32} {w : Unit} (h0 : 128 ≤ x.toInt) (h : f_X12_nameOf x = some (q, w)) : q = -1 := by
  unfold f_X12_nameOf B_X12_nameOf_0 at h
  have k : ∀ c : Int32, c.toInt ≤ 127 → ¬ x = c := fun c hc e => by
    rw [e] at h0
    omega
  have h := zk_f (k (97 : Int32) (by decide)) h
  have h := zk_f (k (98 : Int32) (by decide)) h
  have h := zk_f (k (99 : Int32) (by decide)) h
  have h := zk_f (k (100 : Int32) (by decide)) h
  have h := zk_f (k (101 : Int32) (by decide)) h
  have h := zk_f (k (102 : Int32) (by decide)) h
  have h := zk_f (k (103 : Int32) (by decide)) h
  have h := zk_f (k (104 : Int32) (by decide)) h
  have h := zk_f (k (105 : Int32) (by decide)) h
  have h := zk_f (k (106 : Int32) (by decide)) h
  have h := zk_f (k (107 : Int32) (by decide)) h
  have h := zk_f (k (108 : Int32) (by decide)) h
  have h := zk_f (k (109 : Int32) (by decide)) h
  have h := zk_f (k (110 : Int32) (by decide)) h
  have h := zk_f (k (111 : Int32) (by decide)) h
  have h := zk_f (k (112 : Int32) (by decide)) h
  have h := zk_f (k (113 : Int32) (by decide)) h
  have h := zk_f (k (114 : Int32) (by decide)) h
  have h := zk_f (k (115 : Int32) (by decide)) h
  have h := zk_f (k (116 : Int32) (by decide)) h
  have h := zk_f (k (117 : Int32) (by decide)) h
  have h := zk_f (k (118 : Int32) (by decide)) h
  have h := zk_f (k (119 : Int32) (by decide)) h
  exact (congrArg Prod.fst (Option.some.inj h)).symm

set_option maxHeartbeats 4000000 in
set_option maxRecDepth 20000 in
theorem op_sub {mod_code : Int32} {court_shoeCount : Int32} {mod_claims : Int32} {ts : Int32} {court_suitCount : Int32} {mod_doneMany : Int32} {mod_undoneMany : Int32} {mod_isBoth : Int32} {mod_wished : Int32} {mod_bestMany : Int32} {mod_bestRow : Int32} {mod_ringDigits : Int32} {mod_traces : Int32} {tm : Nat → Int32} {tb : Nat → Int32} {rL : Int32 → Int32 → Int32 → (Nat → Int32) → Int32 → Int32 → Int32 → (Nat → Int32) → (Option (Int32 × Int32 × Int32 × (Nat → Int32)))} {rO : Int32 → Int32 → (Nat → Int32) → Int32 → Int32 → Int32 → (Nat → Int32) → (Option (Int32 × Int32 × Int32 × (Nat → Int32)))} {r_X12_both : Int32 → Int32 → Int32 → Int32 → Int32 → Int32 → Int32 → Int32 → Int32 → Int32 → Int32 → Int32 → Int32 → Int32 → Int32 → Int32 → Int32 → (Nat → Int32) → (Nat → Int32) → (Nat → Int32) → (Option (Int32 × Int32 × Int32 × Int32 × (Nat → Int32) × (Nat → Int32)))} {r_X12_compared : Int32 → Int32 → Int32 → Int32 → Int32 → Int32 → Int32 → Int32 → Int32 → Int32 → Int32 → Int32 → Int32 → Int32 → Int32 → Int32 → Int32 → (Nat → Int32) → (Nat → Int32) → (Nat → Int32) → (Option (Int32 × Int32 × Int32 × Int32 × (Nat → Int32) × (Nat → Int32)))} {r_X12_either : Int32 → Int32 → Int32 → Int32 → Int32 → Int32 → Int32 → Int32 → Int32 → Int32 → Int32 → Int32 → Int32 → Int32 → Int32 → Int32 → Int32 → (Nat → Int32) → (Nat → Int32) → (Nat → Int32) → (Option (Int32 × Int32 × Int32 × Int32 × (Nat → Int32) × (Nat → Int32)))} {r_X12_operand : Int32 → Int32 → Int32 → Int32 → Int32 → Int32 → Int32 → Int32 → Int32 → Int32 → Int32 → Int32 → Int32 → Int32 → Int32 → Int32 → Int32 → (Nat → Int32) → (Nat → Int32) → (Nat → Int32) → (Option (Int32 × Int32 × Int32 × Int32 × (Nat → Int32) × (Nat → Int32)))} {r_X12_product : Int32 → Int32 → Int32 → Int32 → Int32 → Int32 → Int32 → Int32 → Int32 → Int32 → Int32 → Int32 → Int32 → Int32 → Int32 → Int32 → Int32 → (Nat → Int32) → (Nat → Int32) → (Nat → Int32) → (Option (Int32 × Int32 × Int32 × Int32 × (Nat → Int32) × (Nat → Int32)))} {r_X12_sum : Int32 → Int32 → Int32 → Int32 → Int32 → Int32 → Int32 → Int32 → Int32 → Int32 → Int32 → Int32 → Int32 → Int32 → Int32 → Int32 → Int32 → (Nat → Int32) → (Nat → Int32) → (Nat → Int32) → (Option (Int32 × Int32 × Int32 × Int32 × (Nat → Int32) × (Nat → Int32)))} {K0 K1 K2 : Nat} {o : Int32} (hT : TS ts) (hR : TR ts tb tm) (hB : ∀ k, k < ts.toInt.toNat → (tb k).toInt ≤ 255) (hk0 : 1 ≤ K0) (hk1 : 0 ≤ o.toInt → o.toInt < 6 → K1 ≤ K0) (hk2 : 0 ≤ o.toInt → o.toInt < 6 → K2 ≤ K0) (hL : SUBS ts tb K1 (o + 1) (fun sz a f cd => rL 0 (o + 1) ts tb sz a f cd) (fun he g o l ac wi => r_X12_either mod_code court_shoeCount mod_claims ts he g court_suitCount mod_doneMany mod_undoneMany o l mod_isBoth mod_wished mod_bestMany mod_bestRow mod_ringDigits mod_traces tm ac wi)) (hO : SUBS ts tb K2 (o + 1) (fun sz a f cd => rO (o + 1) ts tb sz a f cd) (fun he g o l ac wi => r_X12_operand mod_code court_shoeCount mod_claims ts he g court_suitCount mod_doneMany mod_undoneMany o l mod_isBoth mod_wished mod_bestMany mod_bestRow mod_ringDigits mod_traces tm ac wi)) : SUBS ts tb K0 o (fun sz a f cd => f_X5_readOperand rL rO o ts tb sz a f cd) (fun he g o l ac wi => f_X12_operand r_X12_both r_X12_compared r_X12_either r_X12_operand r_X12_product r_X12_sum mod_code court_shoeCount mod_claims ts he g court_suitCount mod_doneMany mod_undoneMany o l mod_isBoth mod_wished mod_bestMany mod_bestRow mod_ringDigits mod_traces tm ac wi) := by
  intro sz a f cd he g o2 l ac wi R S hp h h2
  have h : f_X5_readOperand rL rO o ts tb sz a f cd = some R := h
  have h2 : f_X12_operand r_X12_both r_X12_compared r_X12_either r_X12_operand r_X12_product r_X12_sum mod_code court_shoeCount mod_claims ts he g court_suitCount mod_doneMany mod_undoneMany o2 l mod_isBoth mod_wished mod_bestMany mod_bestRow mod_ringDigits mod_traces tm ac wi = some S := h2
  obtain ⟨p1, p2, p3, p4, p5, p6, p7, p8, p9, p10, p11⟩ := id hp
  subst p3
  subst p5
  have hT2 := hT.2
  have ha := p4.2
  have ha0 := p4.1
  obtain ⟨m33, m45, m40, mnum, mels⟩ := m5_operand hT hR p4 p2 ⟨p6, p7⟩ ⟨p10, by omega⟩ h2
  unfold f_X5_readOperand B_X5_readOperand_0 at h
  obtain ⟨r, w, a1, h⟩ := zk_o2 h
  have e := cb_byte hT a1
  subst e
  have h := zk_t (show f < 0 by rw [i32_lt, z32_0]; exact p1) h
  obtain ⟨d, w2, a2, h⟩ := zk_o2 h
  rcases cb_dig hT a2 with ⟨d1, d2, rfl⟩ | ⟨d1, rfl⟩
  · have h := zk_f (by decide) h
    obtain ⟨v1, v2, v3, k1, h⟩ := zk_o3 h
    have h := Option.some.inj h
    unfold f_X5_readNumber B_X5_readNumber_0 at k1
    obtain ⟨e, c, j1, j2⟩ := c5_numL hT _ 4 0 0 he _ (by decide) (by decide) k1
    obtain ⟨rfl, rfl, rfl⟩ : v1 = e ∧ v2 = (nmr ts tb 4 0 he).2 ∧ v3 = c := by
      simp only [Prod.mk.injEq] at j2
      exact j2
    obtain ⟨n1, n2, n3, n4, n5, n6, n7⟩ := mnum ⟨d1, d2⟩
    have hP := nmr_PB (tb := tb) hT 4 0 he p4
    have hge : he.toInt + 1 ≤ (nmr ts tb 4 0 he).2.toInt := by
      show he.toInt + 1 ≤ (if 48 ≤ bZ ts tb he ∧ bZ ts tb he ≤ 57 then nmr ts tb 3 (0 * 10 + bz ts tb he - 48) (he + 1) else ((0 : Int32), he)).2.toInt
      rw [if_pos ⟨d1, d2⟩, ← i32_s (a := he) (by omega)]
      exact nmr_ge (tb := tb) hT 3 _ _ (PB_s (tb := tb) hT p4 (by omega))
    rw [← h]
    by_cases c5 : 48 ≤ bZ ts tb (nmr ts tb 4 0 he).2 ∧ bZ ts tb (nmr ts tb 4 0 he).2 ≤ 57
    · exact Or.inr (Or.inr ⟨p1, hP, c5, n2 c5⟩)
    · obtain ⟨x1, _, x2⟩ := (c5_emit j1).1 p1 p8 (by omega)
      have hP2 := hP.2
      have nb := nmr_b (ts := ts) (tb := tb) 4 0 he 0 (by decide) (by decide) (by decide)
      have nb9 : nbd 4 0 = 9999 := by decide
      rw [nb9] at nb
      have x1' : v1.toInt = sz.toInt + 1 := x1
      have x2' : v3 = upd cd sz.toInt.toNat (((nmr ts tb 4 0 he).1 <<< ((5 : Int32) &&& 31)) ||| (0 : Int32)) := x2
      have l1 : S.2.2.2.1.toInt = l.toInt + 1 := by rw [n5]; exact i32_s (by omega)
      have de := SEGS_em (x := ((1 : Int32), (nmr ts tb 4 0 he).1)) (b := (1 : Int32)) (w := (nmr ts tb 4 0 he).1) (s2 := v1.toInt) (l2 := S.2.2.2.1.toInt) (a1 := (nmr ts tb 4 0 he).2.toInt) (a0 := he.toInt) (c0 := cd) (A0 := ac) (W0 := wi) p8 p10 (SEGS_r2 (by omega)) (by simp only [List.length_nil]; omega) (show (((nmr ts tb 4 0 he).1 <<< ((5 : Int32) &&& 31)) ||| (0 : Int32)) = enc ((1 : Int32), (nmr ts tb 4 0 he).1) from (if_pos rfl).symm) rfl rfl (Or.inl ⟨rfl, nb.1, nb.2⟩) rfl rfl x1' l1
      refine Or.inl ⟨⟨p1, ?_, n1, hP, n4, p6, p7, ?_, ?_, ?_, ?_⟩, [((1 : Int32), (nmr ts tb 4 0 he).1)], TSG_1 (Or.inl rfl) hk0, ?_⟩
      · rw [n3 c5]
        exact p2
      · show 0 ≤ v1.toInt
        omega
      · show v1.toInt ≤ (nmr ts tb 4 0 he).2.toInt
        omega
      · omega
      · show S.2.2.2.1.toInt ≤ (nmr ts tb 4 0 he).2.toInt
        omega
      · show SEGS sz.toInt he.toInt l.toInt cd ac wi v1.toInt (nmr ts tb 4 0 he).2.toInt S.2.2.2.1.toInt v3 S.2.2.2.2.1 S.2.2.2.2.2 _
        rw [x2', n6, n7]
        exact de
  have h := zk_t rfl h
  by_cases c33 : bz ts tb he = 33
  · have h := zk_t c33 h
    have ez : bZ ts tb he = 33 := by
      unfold bZ
      rw [c33]
      decide
    unfold B_X5_readOperand_53 at h
    obtain ⟨x1, x2, x3, k1, h⟩ := zk_o3 h
    rcases c5_open p1 k1 with ⟨o6, e⟩ | ⟨o6, e⟩
    · obtain ⟨rfl, rfl, rfl⟩ : 1 = x1 ∧ he + 1 = x2 ∧ f = x3 := by
        simp only [Prod.mk.injEq] at e
        exact ⟨e.1.symm, e.2.1.symm, e.2.2.symm⟩
      have h := zk_f (by decide) h
      obtain ⟨u1, u2, u3, u4, k2, h⟩ := zk_o4 h
      have h := zk_t c33 h
      unfold B_X5_readOperand_80 at h
      obtain ⟨g1, g2, k3, h⟩ := zk_o2 h
      have h := Option.some.inj h
      rcases m33 ez with ⟨z, _⟩ | ⟨_, y1, y2, y3, y4, y5, y6, l2, a2, w2, j1, j2, j3⟩
      · omega
      rw [← h, j3]
      obtain ⟨hn, en⟩ := LPR_o (tb := tb) hT hp o6 (by omega)
      rcases hO _ _ _ _ _ _ _ _ _ _ _ _ hn k2 j1 with ⟨hp3, L2, t2, q2⟩ | hb
      · have hp3 : LPR ts (o2 + 1) u1 u2 u3 y1 y2 y3 y4 := hp3
        have q2 : SEGS sz.toInt (he + 1).toInt l.toInt cd ac wi u1.toInt u2.toInt y4.toInt u4 y5 y6 L2 := q2
        obtain ⟨b1, b2, b3, b4, b5, b6, b7, b8, b9, b10, b11⟩ := hp3
        have b4' := b4.2
        have q3 := q2.2.2.1
        have qs := q2.1
        have ql := q2.2.1
        obtain ⟨d1, _, d2⟩ := (c5_emit k3).1 b1 b8 (by omega)
        obtain ⟨f1, f2, f3⟩ := j2 ⟨b10, by omega⟩
        have sh := SEGS_sh q2 en
        have el := i32_s (a := y4) (by omega)
        have d1' : g1.toInt = u1.toInt + 1 := d1
        have l1 : l2.toInt = y4.toInt + 1 := by rw [f1]; exact el
        have de := SEGS_em (x := ((3 : Int32), (0 : Int32))) (v := (4 : Int32)) (b := (3 : Int32)) (w := 0) (s2 := g1.toInt) (l2 := l2.toInt) p8 p10 sh.1 sh.2 (by decide) rfl rfl (Or.inr (Or.inr ⟨by decide, rfl⟩)) rfl rfl d1' l1
        have d2' : g2 = upd u4 u1.toInt.toNat (4 : Int32) := d2
        have eo : y3 - 1 = o2 := by rw [b5]; exact i32_p1 ⟨p6, by omega⟩
        refine Or.inl ⟨⟨b1, b2, b3, b4, eo, p6, p7, ?_, ?_, ?_, ?_⟩, L2 ++ [((3 : Int32), (0 : Int32))], TSG_un (TSG_le t2 (hk2 p6 o6)) (by decide), ?_⟩
        · show 0 ≤ g1.toInt
          omega
        · show g1.toInt ≤ u2.toInt
          omega
        · show 0 ≤ l2.toInt
          omega
        · show l2.toInt ≤ u2.toInt
          omega
        · show SEGS sz.toInt he.toInt l.toInt cd ac wi g1.toInt u2.toInt l2.toInt g2 a2 w2 _
          rw [d2', f2, f3]
          exact de
      · exact Or.inr hb
    · obtain ⟨rfl, rfl, rfl⟩ : 0 = x1 ∧ he = x2 ∧ he = x3 := by
        simp only [Prod.mk.injEq] at e
        exact ⟨e.1.symm, e.2.1.symm, e.2.2.symm⟩
      have h := Option.some.inj (zk_t rfl h)
      rcases m33 ez with ⟨_, z⟩ | ⟨z, _⟩
      · rw [← h, z]
        exact Or.inr (Or.inl ⟨p4.1, p4.2, rfl⟩)
      · omega
  have h := zk_f c33 h
  by_cases c45 : bz ts tb he = 45
  · have h := zk_t c45 h
    have ez : bZ ts tb he = 45 := by
      unfold bZ
      rw [c45]
      decide
    unfold B_X5_readOperand_53 at h
    obtain ⟨x1, x2, x3, k1, h⟩ := zk_o3 h
    rcases c5_open p1 k1 with ⟨o6, e⟩ | ⟨o6, e⟩
    · obtain ⟨rfl, rfl, rfl⟩ : 1 = x1 ∧ he + 1 = x2 ∧ f = x3 := by
        simp only [Prod.mk.injEq] at e
        exact ⟨e.1.symm, e.2.1.symm, e.2.2.symm⟩
      have h := zk_f (by decide) h
      obtain ⟨u1, u2, u3, u4, k2, h⟩ := zk_o4 h
      have h := zk_f c33 h
      unfold B_X5_readOperand_80 at h
      obtain ⟨g1, g2, k3, h⟩ := zk_o2 h
      have h := Option.some.inj h
      rcases m45 ez with ⟨z, _⟩ | ⟨_, y1, y2, y3, y4, y5, y6, l2, a2, w2, j1, j2, j3⟩
      · omega
      rw [← h, j3]
      obtain ⟨hn, en⟩ := LPR_o (tb := tb) hT hp o6 (by omega)
      rcases hO _ _ _ _ _ _ _ _ _ _ _ _ hn k2 j1 with ⟨hp3, L2, t2, q2⟩ | hb
      · have hp3 : LPR ts (o2 + 1) u1 u2 u3 y1 y2 y3 y4 := hp3
        have q2 : SEGS sz.toInt (he + 1).toInt l.toInt cd ac wi u1.toInt u2.toInt y4.toInt u4 y5 y6 L2 := q2
        obtain ⟨b1, b2, b3, b4, b5, b6, b7, b8, b9, b10, b11⟩ := hp3
        have b4' := b4.2
        have q3 := q2.2.2.1
        have qs := q2.1
        have ql := q2.2.1
        obtain ⟨d1, _, d2⟩ := (c5_emit k3).1 b1 b8 (by omega)
        obtain ⟨f1, f2, f3⟩ := j2 ⟨b10, by omega⟩
        have sh := SEGS_sh q2 en
        have el := i32_s (a := y4) (by omega)
        have d1' : g1.toInt = u1.toInt + 1 := d1
        have l1 : l2.toInt = y4.toInt + 1 := by rw [f1]; exact el
        have de := SEGS_em (x := ((4 : Int32), (0 : Int32))) (v := (5 : Int32)) (b := (4 : Int32)) (w := 0) (s2 := g1.toInt) (l2 := l2.toInt) p8 p10 sh.1 sh.2 (by decide) rfl rfl (Or.inr (Or.inr ⟨by decide, rfl⟩)) rfl rfl d1' l1
        have d2' : g2 = upd u4 u1.toInt.toNat (5 : Int32) := d2
        have eo : y3 - 1 = o2 := by rw [b5]; exact i32_p1 ⟨p6, by omega⟩
        refine Or.inl ⟨⟨b1, b2, b3, b4, eo, p6, p7, ?_, ?_, ?_, ?_⟩, L2 ++ [((4 : Int32), (0 : Int32))], TSG_un (TSG_le t2 (hk2 p6 o6)) (by decide), ?_⟩
        · show 0 ≤ g1.toInt
          omega
        · show g1.toInt ≤ u2.toInt
          omega
        · show 0 ≤ l2.toInt
          omega
        · show l2.toInt ≤ u2.toInt
          omega
        · show SEGS sz.toInt he.toInt l.toInt cd ac wi g1.toInt u2.toInt l2.toInt g2 a2 w2 _
          rw [d2', f2, f3]
          exact de
      · exact Or.inr hb
    · obtain ⟨rfl, rfl, rfl⟩ : 0 = x1 ∧ he = x2 ∧ he = x3 := by
        simp only [Prod.mk.injEq] at e
        exact ⟨e.1.symm, e.2.1.symm, e.2.2.symm⟩
      have h := Option.some.inj (zk_t rfl h)
      rcases m45 ez with ⟨_, z⟩ | ⟨z, _⟩
      · rw [← h, z]
        exact Or.inr (Or.inl ⟨p4.1, p4.2, rfl⟩)
      · omega
  have h := zk_f c45 h
  by_cases c40 : bz ts tb he = 40
  · have h := zk_t c40 h
    have ez : bZ ts tb he = 40 := by
      unfold bZ
      rw [c40]
      decide
    obtain ⟨x1, x2, x3, k1, h⟩ := zk_o3 h
    rcases c5_open p1 k1 with ⟨o6, e⟩ | ⟨o6, e⟩
    · obtain ⟨rfl, rfl, rfl⟩ : 1 = x1 ∧ he + 1 = x2 ∧ f = x3 := by
        simp only [Prod.mk.injEq] at e
        exact ⟨e.1.symm, e.2.1.symm, e.2.2.symm⟩
      have h := zk_f (by decide) h
      obtain ⟨u1, u2, u3, u4, k2, h⟩ := zk_o4 h
      obtain ⟨r5, u5, k3, h⟩ := zk_o2 h
      rcases m40 ez with ⟨z, _⟩ | ⟨_, y1, y2, y3, y4, y5, y6, j1, j2, j3⟩
      · omega
      obtain ⟨hn, en⟩ := LPR_o (tb := tb) hT hp o6 (by omega)
      rcases hL _ _ _ _ _ _ _ _ _ _ _ _ hn k2 j1 with ⟨hp3, L2, t2, q2⟩ | hb
      · have hp3 : LPR ts (o2 + 1) u1 u2 u3 y1 y2 y3 y4 := hp3
        have q2 : SEGS sz.toInt (he + 1).toInt l.toInt cd ac wi u1.toInt u2.toInt y4.toInt u4 y5 y6 L2 := q2
        obtain ⟨b1, b2, b3, b4, b5, b6, b7, b8, b9, b10, b11⟩ := hp3
        subst b3
        have b4' := b4.2
        have b4'' := b4.1
        have eo : y3 - 1 = o2 := by rw [b5]; exact i32_p1 ⟨p6, by omega⟩
        have sh := SEGS_sh q2 en
        rcases c5_accept hT (fun _ => b4) (x1 := 41) (n := 41) ⟨by decide, by decide⟩ k3 with ⟨_, z, r1, r2, r3⟩ | ⟨z, r1, r2⟩
        · have r1 := r1.symm
          subst r1
          subst r2
          have h := Option.some.inj (zk_f (by decide) h)
          rcases j3 b2 b4 with ⟨_, e⟩ | ⟨e, _⟩
          · have e1 := i32_s (a := y1) (by omega)
            rw [← h, e]
            have b9' : u1.toInt ≤ (y1 + 1).toInt := by omega
            have b11' : y4.toInt ≤ (y1 + 1).toInt := by omega
            have sc := sh.1.2.2.1
            refine Or.inl ⟨⟨b1, b2, rfl, r3, eo, p6, p7, b8, b9', b10, b11'⟩, L2, TSG_le t2 (hk1 p6 o6), ?_⟩
            exact ⟨sh.1.1, sh.1.2.1, by show he.toInt + L2.length ≤ (y1 + 1).toInt; omega, sh.1.2.2.2⟩
          · exact absurd z e
        · subst r1
          have r2 := r2.symm
          subst r2
          have h := zk_t rfl h
          obtain ⟨v, k4, h⟩ := zk_o1 h
          have h := Option.some.inj h
          have z : bZ ts tb y1 ≠ 41 := z.elim (fun y => by omega) id
          rcases c5_fail k4 with ⟨_, e⟩ | ⟨e, _⟩
          · rcases j3 b2 b4 with ⟨e2, _⟩ | ⟨_, e2⟩
            · exact absurd e2 z
            · rw [← h, e2, e]
              exact Or.inr (Or.inl ⟨b4.1, b4.2, rfl⟩)
          · omega
      · have hb : LBAD ts tb u2 u3 y2 := hb
        have e := j2 (LBAD_g hb)
        rw [e]
        rcases hb with ⟨b1, b2, b3⟩ | ⟨b1, b2, b3, b4⟩
        · rcases c5_accept hT (fun z => by omega) (x1 := 41) (n := 41) ⟨by decide, by decide⟩ k3 with ⟨z, _⟩ | ⟨z, r1, r2⟩
          · omega
          · subst r1
            have r2 := r2.symm
            subst r2
            have h := zk_t rfl h
            obtain ⟨v, k4, h⟩ := zk_o1 h
            have h := Option.some.inj h
            rcases c5_fail k4 with ⟨e, _⟩ | ⟨_, e⟩
            · omega
            · rw [← h, e]
              exact Or.inr (Or.inl ⟨b1, b2, b3⟩)
        · rcases c5_accept hT (fun _ => b2) (x1 := 41) (n := 41) ⟨by decide, by decide⟩ k3 with ⟨_, z, _⟩ | ⟨z, r1, r2⟩
          · omega
          · subst r1
            have r2 := r2.symm
            subst r2
            have h := zk_t rfl h
            obtain ⟨v, k4, h⟩ := zk_o1 h
            have h := Option.some.inj h
            rcases c5_fail k4 with ⟨_, e⟩ | ⟨e, _⟩
            · rw [← h, e]
              exact Or.inr (Or.inl ⟨b2.1, b2.2, b4⟩)
            · omega
    · obtain ⟨rfl, rfl, rfl⟩ : 0 = x1 ∧ he = x2 ∧ he = x3 := by
        simp only [Prod.mk.injEq] at e
        exact ⟨e.1.symm, e.2.1.symm, e.2.2.symm⟩
      have h := Option.some.inj (zk_t rfl h)
      rcases m40 ez with ⟨_, z⟩ | ⟨z, _⟩
      · rw [← h, z]
        exact Or.inr (Or.inl ⟨p4.1, p4.2, rfl⟩)
      · omega
  have h := zk_f c40 h
  have nz : ∀ (c : Int32) (n : Int), c.toInt = n → ¬ bz ts tb he = c → ¬ bZ ts tb he = n := fun c n hc hn z => hn (Int32.toInt_inj.mp (z.trans hc.symm))
  obtain ⟨q, y, x, hbr, hq, q1, q2⟩ := mels (nz 33 33 (by decide) c33) (nz 45 45 (by decide) c45) (nz 40 40 (by decide) c40) (fun z => by omega)
  obtain ⟨v1, v2, v3, v4, k1, h⟩ := zk_o4 h
  have h := Option.some.inj h
  unfold f_X5_readName B_X5_readName_0 at k1
  have fin : ∀ s : Int32, s = y → B_X5_readName_15 s sz he f cd = some (v1, v2, v3, v4) → LOUT ts tb K0 o2 sz.toInt he.toInt l.toInt cd ac wi R S := fun s es k => by
    subst es
    unfold B_X5_readName_15 at k
    by_cases c0 : 0 ≤ s
    · have k := zk_t c0 k
      rw [i32_le, z32_0] at c0
      have eS := q2 c0
      have hb0 : 0 ≤ bZ ts tb he ∧ q = bz ts tb he := by
        rcases hbr with ⟨b0, _, e⟩ | ⟨_, b1, _⟩
        · exact ⟨b0, e⟩
        · have := nm_neg b1 hq
          rw [this] at c0
          exact absurd c0 (by decide)
      have hq' := hq
      rw [hb0.2] at hq'
      have hin := nm_in hb0.1 (bz_B hB) hq'
      have hP := PB_s (tb := tb) hT p4 hb0.1
      have e1 := i32_s (a := he) (by omega)
      obtain ⟨v, ev, k⟩ := zk_lt k
      subst ev
      obtain ⟨g1, g2, k2, k⟩ := zk_o2 k
      have k := Option.some.inj k
      obtain ⟨rfl, rfl, rfl, rfl⟩ : g1 = v1 ∧ he + 1 = v2 ∧ f = v3 ∧ g2 = v4 := by
        simp only [Prod.mk.injEq] at k
        exact k
      obtain ⟨x1, _, x2⟩ := (c5_emit k2).1 p1 p8 (by omega)
      have x1' : g1.toInt = sz.toInt + 1 := x1
      have x2' : g2 = upd cd sz.toInt.toNat ((s <<< ((5 : Int32) &&& 31)) ||| (1 : Int32)) := x2
      have el := i32_s (a := l) (by omega)
      have de := SEGS_em (x := ((2 : Int32), s)) (b := (2 : Int32)) (w := s) (s2 := g1.toInt) (l2 := (l + 1).toInt) (a1 := (he + 1).toInt) (a0 := he.toInt) (c0 := cd) (A0 := ac) (W0 := wi) p8 p10 (SEGS_r2 (by omega)) (by simp only [List.length_nil]; omega) (show ((s <<< ((5 : Int32) &&& 31)) ||| (1 : Int32)) = enc ((2 : Int32), s) from ((if_neg (show ¬ (2 : Int32) = 1 by decide)).trans (if_pos rfl)).symm) rfl rfl (Or.inr (Or.inl ⟨rfl, c0, hin.2.1⟩)) rfl rfl x1' el
      rw [← h, eS]
      refine Or.inl ⟨⟨p1, p2, rfl, hP, rfl, p6, p7, ?_, ?_, ?_, ?_⟩, [((2 : Int32), s)], TSG_1 (Or.inr rfl) hk0, ?_⟩
      · show 0 ≤ g1.toInt
        omega
      · show g1.toInt ≤ (he + 1).toInt
        omega
      · show 0 ≤ (l + 1).toInt
        omega
      · show (l + 1).toInt ≤ (he + 1).toInt
        omega
      · show SEGS sz.toInt he.toInt l.toInt cd ac wi g1.toInt (he + 1).toInt (l + 1).toInt g2 _ _ _
        rw [x2']
        exact de
    · have k := zk_f c0 k
      rw [i32_le, z32_0] at c0
      obtain ⟨v, k2, k⟩ := zk_o1 k
      have k := Option.some.inj k
      obtain ⟨rfl, rfl, rfl, rfl⟩ : sz = v1 ∧ he = v2 ∧ v = v3 ∧ cd = v4 := by
        simp only [Prod.mk.injEq] at k
        exact k
      rcases c5_fail k2 with ⟨_, e⟩ | ⟨e, _⟩
      · have eS := q1 (by omega)
        rw [← h, e]
        exact Or.inr (Or.inl ⟨p4.1, p4.2, eS⟩)
      · omega
  by_cases cn : 0 ≤ bz ts tb he
  · have k1 := zk_t cn k1
    rw [i32_le, z32_0] at cn
    obtain ⟨s, u, k2, k1⟩ := zk_o2 k1
    refine fin s ?_ k1
    rcases hbr with ⟨_, _, e⟩ | ⟨b0, b1, _⟩
    · rw [e] at hq
      exact nm_eq cn (bz_B hB) k2 hq
    · have e1 := nm_neg b1 hq
      -- 128 .. 255: no name on either side
      have k := nm_tab ⟨(bz ts tb he).toInt.toNat, by have : bZ ts tb he ≤ 255 := bz_B hB; have e : bZ ts tb he = (bz ts tb he).toInt := rfl; omega⟩
      dsimp only at k
      rw [← i32_n cn, k2] at k
      have hk := nm_in cn (bz_B hB) k.symm
      have hk2 := nm_hi (x := bz ts tb he) (by omega) k.symm
      rw [e1, hk2]
  · have k1 := zk_f cn k1
    rw [i32_le, z32_0] at cn
    refine fin (-1) ?_ k1
    rcases hbr with ⟨b0, _, _⟩ | ⟨_, b1, _⟩
    · exact absurd b0 cn
    · exact (nm_neg b1 hq).symm
