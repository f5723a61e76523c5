
set_option maxHeartbeats 4000000 in
set_option maxRecDepth 20000 in
theorem rs_sum {mod_code : Int32} {court_shoeCount : Int32} {mod_claims : Int32} {ts : Int32} {court_suitCount : Int32} {mod_doneMany : Int32} {mod_undoneMany : Int32} {mod_isBoth : Int32} {mod_wished : Int32} {mod_bestMany : Int32} {mod_bestRow : Int32} {mod_ringDigits : Int32} {mod_traces : Int32} {tm : Nat → Int32} {tb : Nat → Int32} {r_X12_both : Int32 → Int32 → Int32 → Int32 → Int32 → Int32 → Int32 → Int32 → Int32 → Int32 → Int32 → Int32 → Int32 → Int32 → Int32 → Int32 → Int32 → (Nat → Int32) → (Nat → Int32) → (Nat → Int32) → (Option (Int32 × Int32 × Int32 × Int32 × (Nat → Int32) × (Nat → Int32)))} {r_X12_compared : Int32 → Int32 → Int32 → Int32 → Int32 → Int32 → Int32 → Int32 → Int32 → Int32 → Int32 → Int32 → Int32 → Int32 → Int32 → Int32 → Int32 → (Nat → Int32) → (Nat → Int32) → (Nat → Int32) → (Option (Int32 × Int32 × Int32 × Int32 × (Nat → Int32) × (Nat → Int32)))} {r_X12_either : Int32 → Int32 → Int32 → Int32 → Int32 → Int32 → Int32 → Int32 → Int32 → Int32 → Int32 → Int32 → Int32 → Int32 → Int32 → Int32 → Int32 → (Nat → Int32) → (Nat → Int32) → (Nat → Int32) → (Option (Int32 × Int32 × Int32 × Int32 × (Nat → Int32) × (Nat → Int32)))} {r_X12_operand : Int32 → Int32 → Int32 → Int32 → Int32 → Int32 → Int32 → Int32 → Int32 → Int32 → Int32 → Int32 → Int32 → Int32 → Int32 → Int32 → Int32 → (Nat → Int32) → (Nat → Int32) → (Nat → Int32) → (Option (Int32 × Int32 × Int32 × Int32 × (Nat → Int32) × (Nat → Int32)))} {r_X12_product : Int32 → Int32 → Int32 → Int32 → Int32 → Int32 → Int32 → Int32 → Int32 → Int32 → Int32 → Int32 → Int32 → Int32 → Int32 → Int32 → Int32 → (Nat → Int32) → (Nat → Int32) → (Nat → Int32) → (Option (Int32 × Int32 × Int32 × Int32 × (Nat → Int32) × (Nat → Int32)))} {r_X12_sum : Int32 → Int32 → Int32 → Int32 → Int32 → Int32 → Int32 → Int32 → Int32 → Int32 → Int32 → Int32 → Int32 → Int32 → Int32 → Int32 → Int32 → (Nat → Int32) → (Nat → Int32) → (Nat → Int32) → (Option (Int32 × Int32 × Int32 × Int32 × (Nat → Int32) × (Nat → Int32)))} (hT : TS ts) (hR : TR ts tb tm) : RSTEP ts tb 3 (fun m he g o l ac wi => G_X12_sum r_X12_both r_X12_compared r_X12_either r_X12_operand r_X12_product r_X12_sum mod_code court_shoeCount mod_claims ts court_suitCount mod_doneMany mod_undoneMany mod_isBoth mod_wished mod_bestMany mod_bestRow mod_ringDigits mod_traces tm m he g o l ac wi) (fun he g o l ac wi => r_X12_product mod_code court_shoeCount mod_claims ts he g court_suitCount mod_doneMany mod_undoneMany o l mod_isBoth mod_wished mod_bestMany mod_bestRow mod_ringDigits mod_traces tm ac wi) := by
  refine ⟨fun he g o l ac wi S h => ?_, fun m he g o l ac wi S hp h => ?_⟩
  · cases h
  · replace h : B_X12_sum_4 r_X12_both r_X12_compared r_X12_either r_X12_operand r_X12_product r_X12_sum (G_X12_sum r_X12_both r_X12_compared r_X12_either r_X12_operand r_X12_product r_X12_sum mod_code court_shoeCount mod_claims ts court_suitCount mod_doneMany mod_undoneMany mod_isBoth mod_wished mod_bestMany mod_bestRow mod_ringDigits mod_traces tm m) mod_code court_shoeCount mod_claims ts court_suitCount mod_doneMany mod_undoneMany mod_isBoth mod_wished mod_bestMany mod_bestRow mod_ringDigits mod_traces tm he g o l ac wi = some S := h
    unfold B_X12_sum_4 at h
    by_cases c1 : 0 ≤ g
    · replace h := (Option.some.inj (zk_t c1 h)).symm
      rw [i32_le, z32_0] at c1
      exact Or.inl ⟨h, Or.inl c1⟩
    replace h := zk_f c1 h
    rw [i32_le, z32_0] at c1
    have hp := hp (by omega)
    replace h := zk_o2 h
    obtain ⟨r0, w0, a0, h⟩ := h
    have hb0 := mb_look hT hR hp a0
    by_cases b0 : r0 = (43 : Int32)
    · replace h := zk_t b0 h
      have ez : bZ ts tb he = 43 := (BR_e hb0 ⟨by decide, by decide, by decide⟩).mp b0
      have eb : bz ts tb he = 43 := Int32.toInt_inj.mp (ez.trans (by decide))
      unfold B_X12_sum_29 at h
      replace h := zk_o2 h
      obtain ⟨r9, w9, a9, h⟩ := h
      have hb9 := mb_look hT hR hp a9
      have e9 : r9 = (43 : Int32) := (BR_e hb9 ⟨by decide, by decide, by decide⟩).mpr ez
      subst e9
      replace h := zk_lt h
      obtain ⟨v, ev, h⟩ := h
      subst ev
      replace h := zk_o6 h
      obtain ⟨u1, u2, u3, u4, u5, u6, k1, h⟩ := h
      replace h := zk_o3 h
      obtain ⟨l2, a2, w2, k2, h⟩ := h
      refine Or.inr ⟨by omega, Or.inr (Or.inr (Or.inr (Or.inl ⟨rfl, Or.inl (ez)⟩))), u1, u2, u3, u4, u5, u6, l2, a2, w2, k1, fun hl => ?_, h⟩
      have q := m5_lay ⟨by decide, by decide⟩ hl k2
      rw [eb]
      exact q.2
    replace h := zk_f b0 h
    have n0 : bZ ts tb he ≠ 43 := fun z => b0 ((BR_e hb0 ⟨by decide, by decide, by decide⟩).mpr z)
    replace h := zk_o2 h
    obtain ⟨r1, w1, a1, h⟩ := h
    have hb1 := mb_look hT hR hp a1
    by_cases b1 : r1 = (45 : Int32)
    · replace h := zk_t b1 h
      have ez : bZ ts tb he = 45 := (BR_e hb1 ⟨by decide, by decide, by decide⟩).mp b1
      have eb : bz ts tb he = 45 := Int32.toInt_inj.mp (ez.trans (by decide))
      unfold B_X12_sum_29 at h
      replace h := zk_o2 h
      obtain ⟨r9, w9, a9, h⟩ := h
      have hb9 := mb_look hT hR hp a9
      have e9 : r9 = (45 : Int32) := (BR_e hb9 ⟨by decide, by decide, by decide⟩).mpr ez
      subst e9
      replace h := zk_lt h
      obtain ⟨v, ev, h⟩ := h
      subst ev
      replace h := zk_o6 h
      obtain ⟨u1, u2, u3, u4, u5, u6, k1, h⟩ := h
      replace h := zk_o3 h
      obtain ⟨l2, a2, w2, k2, h⟩ := h
      refine Or.inr ⟨by omega, Or.inr (Or.inr (Or.inr (Or.inl ⟨rfl, Or.inr (ez)⟩))), u1, u2, u3, u4, u5, u6, l2, a2, w2, k1, fun hl => ?_, h⟩
      have q := m5_lay ⟨by decide, by decide⟩ hl k2
      rw [eb]
      exact q.2
    replace h := zk_f b1 h
    have n1 : bZ ts tb he ≠ 45 := fun z => b1 ((BR_e hb1 ⟨by decide, by decide, by decide⟩).mpr z)
    refine Or.inl ⟨(Option.some.inj h).symm, Or.inr (fun z => ?_)⟩
    rcases z with ⟨z1, z⟩ | ⟨z1, z⟩ | ⟨z1, z⟩ | ⟨z1, z⟩ | ⟨z1, z⟩
    · exact absurd z1 (by decide)
    · exact absurd z1 (by decide)
    · exact absurd z1 (by decide)
    · omega
    · exact absurd z1 (by decide)
set_option maxHeartbeats 4000000 in
set_option maxRecDepth 20000 in
theorem rf_sum {mod_code : Int32} {court_shoeCount : Int32} {mod_claims : Int32} {ts : Int32} {court_suitCount : Int32} {mod_doneMany : Int32} {mod_undoneMany : Int32} {mod_isBoth : Int32} {mod_wished : Int32} {mod_bestMany : Int32} {mod_bestRow : Int32} {mod_ringDigits : Int32} {mod_traces : Int32} {tm : Nat → Int32} {r_X12_both : Int32 → Int32 → Int32 → Int32 → Int32 → Int32 → Int32 → Int32 → Int32 → Int32 → Int32 → Int32 → Int32 → Int32 → Int32 → Int32 → Int32 → (Nat → Int32) → (Nat → Int32) → (Nat → Int32) → (Option (Int32 × Int32 × Int32 × Int32 × (Nat → Int32) × (Nat → Int32)))} {r_X12_compared : Int32 → Int32 → Int32 → Int32 → Int32 → Int32 → Int32 → Int32 → Int32 → Int32 → Int32 → Int32 → Int32 → Int32 → Int32 → Int32 → Int32 → (Nat → Int32) → (Nat → Int32) → (Nat → Int32) → (Option (Int32 × Int32 × Int32 × Int32 × (Nat → Int32) × (Nat → Int32)))} {r_X12_either : Int32 → Int32 → Int32 → Int32 → Int32 → Int32 → Int32 → Int32 → Int32 → Int32 → Int32 → Int32 → Int32 → Int32 → Int32 → Int32 → Int32 → (Nat → Int32) → (Nat → Int32) → (Nat → Int32) → (Option (Int32 × Int32 × Int32 × Int32 × (Nat → Int32) × (Nat → Int32)))} {r_X12_operand : Int32 → Int32 → Int32 → Int32 → Int32 → Int32 → Int32 → Int32 → Int32 → Int32 → Int32 → Int32 → Int32 → Int32 → Int32 → Int32 → Int32 → (Nat → Int32) → (Nat → Int32) → (Nat → Int32) → (Option (Int32 × Int32 × Int32 × Int32 × (Nat → Int32) × (Nat → Int32)))} {r_X12_product : Int32 → Int32 → Int32 → Int32 → Int32 → Int32 → Int32 → Int32 → Int32 → Int32 → Int32 → Int32 → Int32 → Int32 → Int32 → Int32 → Int32 → (Nat → Int32) → (Nat → Int32) → (Nat → Int32) → (Option (Int32 × Int32 × Int32 × Int32 × (Nat → Int32) × (Nat → Int32)))} {r_X12_sum : Int32 → Int32 → Int32 → Int32 → Int32 → Int32 → Int32 → Int32 → Int32 → Int32 → Int32 → Int32 → Int32 → Int32 → Int32 → Int32 → Int32 → (Nat → Int32) → (Nat → Int32) → (Nat → Int32) → (Option (Int32 × Int32 × Int32 × Int32 × (Nat → Int32) × (Nat → Int32)))} {m : Nat} {he g o l : Int32} {ac wi : Nat → Int32} {S : Int32 × Int32 × Int32 × Int32 × (Nat → Int32) × (Nat → Int32)} (h : f_X12_sum r_X12_both r_X12_compared r_X12_either r_X12_operand r_X12_product r_X12_sum m mod_code court_shoeCount mod_claims ts he g court_suitCount mod_doneMany mod_undoneMany o l mod_isBoth mod_wished mod_bestMany mod_bestRow mod_ringDigits mod_traces tm ac wi = some S) : ∃ u1 u2 u3 u4 u5 u6, (fun he g o l ac wi => r_X12_product mod_code court_shoeCount mod_claims ts he g court_suitCount mod_doneMany mod_undoneMany o l mod_isBoth mod_wished mod_bestMany mod_bestRow mod_ringDigits mod_traces tm ac wi) he g o l ac wi = some (u1, u2, u3, u4, u5, u6) ∧ (fun m he g o l ac wi => G_X12_sum r_X12_both r_X12_compared r_X12_either r_X12_operand r_X12_product r_X12_sum mod_code court_shoeCount mod_claims ts court_suitCount mod_doneMany mod_undoneMany mod_isBoth mod_wished mod_bestMany mod_bestRow mod_ringDigits mod_traces tm m he g o l ac wi) m u1 u2 u3 u4 u5 u6 = some S := by
  unfold f_X12_sum B_X12_sum_0 at h
  replace h := zk_o6 h
  obtain ⟨u1, u2, u3, u4, u5, u6, k1, h⟩ := h
  exact ⟨u1, u2, u3, u4, u5, u6, k1, h⟩
set_option maxHeartbeats 4000000 in
set_option maxRecDepth 20000 in
theorem rs_product {mod_code : Int32} {court_shoeCount : Int32} {mod_claims : Int32} {ts : Int32} {court_suitCount : Int32} {mod_doneMany : Int32} {mod_undoneMany : Int32} {mod_isBoth : Int32} {mod_wished : Int32} {mod_bestMany : Int32} {mod_bestRow : Int32} {mod_ringDigits : Int32} {mod_traces : Int32} {tm : Nat → Int32} {tb : Nat → Int32} {r_X12_both : Int32 → Int32 → Int32 → Int32 → Int32 → Int32 → Int32 → Int32 → Int32 → Int32 → Int32 → Int32 → Int32 → Int32 → Int32 → Int32 → Int32 → (Nat → Int32) → (Nat → Int32) → (Nat → Int32) → (Option (Int32 × Int32 × Int32 × Int32 × (Nat → Int32) × (Nat → Int32)))} {r_X12_compared : Int32 → Int32 → Int32 → Int32 → Int32 → Int32 → Int32 → Int32 → Int32 → Int32 → Int32 → Int32 → Int32 → Int32 → Int32 → Int32 → Int32 → (Nat → Int32) → (Nat → Int32) → (Nat → Int32) → (Option (Int32 × Int32 × Int32 × Int32 × (Nat → Int32) × (Nat → Int32)))} {r_X12_either : Int32 → Int32 → Int32 → Int32 → Int32 → Int32 → Int32 → Int32 → Int32 → Int32 → Int32 → Int32 → Int32 → Int32 → Int32 → Int32 → Int32 → (Nat → Int32) → (Nat → Int32) → (Nat → Int32) → (Option (Int32 × Int32 × Int32 × Int32 × (Nat → Int32) × (Nat → Int32)))} {r_X12_operand : Int32 → Int32 → Int32 → Int32 → Int32 → Int32 → Int32 → Int32 → Int32 → Int32 → Int32 → Int32 → Int32 → Int32 → Int32 → Int32 → Int32 → (Nat → Int32) → (Nat → Int32) → (Nat → Int32) → (Option (Int32 × Int32 × Int32 × Int32 × (Nat → Int32) × (Nat → Int32)))} {r_X12_product : Int32 → Int32 → Int32 → Int32 → Int32 → Int32 → Int32 → Int32 → Int32 → Int32 → Int32 → Int32 → Int32 → Int32 → Int32 → Int32 → Int32 → (Nat → Int32) → (Nat → Int32) → (Nat → Int32) → (Option (Int32 × Int32 × Int32 × Int32 × (Nat → Int32) × (Nat → Int32)))} {r_X12_sum : Int32 → Int32 → Int32 → Int32 → Int32 → Int32 → Int32 → Int32 → Int32 → Int32 → Int32 → Int32 → Int32 → Int32 → Int32 → Int32 → Int32 → (Nat → Int32) → (Nat → Int32) → (Nat → Int32) → (Option (Int32 × Int32 × Int32 × Int32 × (Nat → Int32) × (Nat → Int32)))} (hT : TS ts) (hR : TR ts tb tm) : RSTEP ts tb 4 (fun m he g o l ac wi => G_X12_product r_X12_both r_X12_compared r_X12_either r_X12_operand r_X12_product r_X12_sum mod_code court_shoeCount mod_claims ts court_suitCount mod_doneMany mod_undoneMany mod_isBoth mod_wished mod_bestMany mod_bestRow mod_ringDigits mod_traces tm m he g o l ac wi) (fun he g o l ac wi => r_X12_operand mod_code court_shoeCount mod_claims ts he g court_suitCount mod_doneMany mod_undoneMany o l mod_isBoth mod_wished mod_bestMany mod_bestRow mod_ringDigits mod_traces tm ac wi) := by
  refine ⟨fun he g o l ac wi S h => ?_, fun m he g o l ac wi S hp h => ?_⟩
  · cases h
  · replace h : B_X12_product_4 r_X12_both r_X12_compared r_X12_either r_X12_operand r_X12_product r_X12_sum (G_X12_product r_X12_both r_X12_compared r_X12_either r_X12_operand r_X12_product r_X12_sum mod_code court_shoeCount mod_claims ts court_suitCount mod_doneMany mod_undoneMany mod_isBoth mod_wished mod_bestMany mod_bestRow mod_ringDigits mod_traces tm m) mod_code court_shoeCount mod_claims ts court_suitCount mod_doneMany mod_undoneMany mod_isBoth mod_wished mod_bestMany mod_bestRow mod_ringDigits mod_traces tm he g o l ac wi = some S := h
    unfold B_X12_product_4 at h
    by_cases c1 : 0 ≤ g
    · replace h := (Option.some.inj (zk_t c1 h)).symm
      rw [i32_le, z32_0] at c1
      exact Or.inl ⟨h, Or.inl c1⟩
    replace h := zk_f c1 h
    rw [i32_le, z32_0] at c1
    have hp := hp (by omega)
    replace h := zk_o2 h
    obtain ⟨r0, w0, a0, h⟩ := h
    have hb0 := mb_look hT hR hp a0
    by_cases b0 : r0 = (42 : Int32)
    · replace h := zk_t b0 h
      have ez : bZ ts tb he = 42 := (BR_e hb0 ⟨by decide, by decide, by decide⟩).mp b0
      have eb : bz ts tb he = 42 := Int32.toInt_inj.mp (ez.trans (by decide))
      unfold B_X12_product_38 at h
      replace h := zk_o2 h
      obtain ⟨r9, w9, a9, h⟩ := h
      have hb9 := mb_look hT hR hp a9
      have e9 : r9 = (42 : Int32) := (BR_e hb9 ⟨by decide, by decide, by decide⟩).mpr ez
      subst e9
      replace h := zk_lt h
      obtain ⟨v, ev, h⟩ := h
      subst ev
      replace h := zk_o6 h
      obtain ⟨u1, u2, u3, u4, u5, u6, k1, h⟩ := h
      replace h := zk_o3 h
      obtain ⟨l2, a2, w2, k2, h⟩ := h
      refine Or.inr ⟨by omega, Or.inr (Or.inr (Or.inr (Or.inr ⟨rfl, Or.inl (ez)⟩))), u1, u2, u3, u4, u5, u6, l2, a2, w2, k1, fun hl => ?_, h⟩
      have q := m5_lay ⟨by decide, by decide⟩ hl k2
      rw [eb]
      exact q.2
    replace h := zk_f b0 h
    have n0 : bZ ts tb he ≠ 42 := fun z => b0 ((BR_e hb0 ⟨by decide, by decide, by decide⟩).mpr z)
    replace h := zk_o2 h
    obtain ⟨r1, w1, a1, h⟩ := h
    have hb1 := mb_look hT hR hp a1
    by_cases b1 : r1 = (47 : Int32)
    · replace h := zk_t b1 h
      have ez : bZ ts tb he = 47 := (BR_e hb1 ⟨by decide, by decide, by decide⟩).mp b1
      have eb : bz ts tb he = 47 := Int32.toInt_inj.mp (ez.trans (by decide))
      unfold B_X12_product_38 at h
      replace h := zk_o2 h
      obtain ⟨r9, w9, a9, h⟩ := h
      have hb9 := mb_look hT hR hp a9
      have e9 : r9 = (47 : Int32) := (BR_e hb9 ⟨by decide, by decide, by decide⟩).mpr ez
      subst e9
      replace h := zk_lt h
      obtain ⟨v, ev, h⟩ := h
      subst ev
      replace h := zk_o6 h
      obtain ⟨u1, u2, u3, u4, u5, u6, k1, h⟩ := h
      replace h := zk_o3 h
      obtain ⟨l2, a2, w2, k2, h⟩ := h
      refine Or.inr ⟨by omega, Or.inr (Or.inr (Or.inr (Or.inr ⟨rfl, Or.inr (Or.inl (ez))⟩))), u1, u2, u3, u4, u5, u6, l2, a2, w2, k1, fun hl => ?_, h⟩
      have q := m5_lay ⟨by decide, by decide⟩ hl k2
      rw [eb]
      exact q.2
    replace h := zk_f b1 h
    have n1 : bZ ts tb he ≠ 47 := fun z => b1 ((BR_e hb1 ⟨by decide, by decide, by decide⟩).mpr z)
    replace h := zk_o2 h
    obtain ⟨r2, w2, a2, h⟩ := h
    have hb2 := mb_look hT hR hp a2
    by_cases b2 : r2 = (37 : Int32)
    · replace h := zk_t b2 h
      have ez : bZ ts tb he = 37 := (BR_e hb2 ⟨by decide, by decide, by decide⟩).mp b2
      have eb : bz ts tb he = 37 := Int32.toInt_inj.mp (ez.trans (by decide))
      unfold B_X12_product_38 at h
      replace h := zk_o2 h
      obtain ⟨r9, w9, a9, h⟩ := h
      have hb9 := mb_look hT hR hp a9
      have e9 : r9 = (37 : Int32) := (BR_e hb9 ⟨by decide, by decide, by decide⟩).mpr ez
      subst e9
      replace h := zk_lt h
      obtain ⟨v, ev, h⟩ := h
      subst ev
      replace h := zk_o6 h
      obtain ⟨u1, u2, u3, u4, u5, u6, k1, h⟩ := h
      replace h := zk_o3 h
      obtain ⟨l2, a2, w2, k2, h⟩ := h
      refine Or.inr ⟨by omega, Or.inr (Or.inr (Or.inr (Or.inr ⟨rfl, Or.inr (Or.inr (ez))⟩))), u1, u2, u3, u4, u5, u6, l2, a2, w2, k1, fun hl => ?_, h⟩
      have q := m5_lay ⟨by decide, by decide⟩ hl k2
      rw [eb]
      exact q.2
    replace h := zk_f b2 h
    have n2 : bZ ts tb he ≠ 37 := fun z => b2 ((BR_e hb2 ⟨by decide, by decide, by decide⟩).mpr z)
    refine Or.inl ⟨(Option.some.inj h).symm, Or.inr (fun z => ?_)⟩
    rcases z with ⟨z1, z⟩ | ⟨z1, z⟩ | ⟨z1, z⟩ | ⟨z1, z⟩ | ⟨z1, z⟩
    · exact absurd z1 (by decide)
    · exact absurd z1 (by decide)
    · exact absurd z1 (by decide)
    · exact absurd z1 (by decide)
    · omega
set_option maxHeartbeats 4000000 in
set_option maxRecDepth 20000 in
theorem rf_product {mod_code : Int32} {court_shoeCount : Int32} {mod_claims : Int32} {ts : Int32} {court_suitCount : Int32} {mod_doneMany : Int32} {mod_undoneMany : Int32} {mod_isBoth : Int32} {mod_wished : Int32} {mod_bestMany : Int32} {mod_bestRow : Int32} {mod_ringDigits : Int32} {mod_traces : Int32} {tm : Nat → Int32} {r_X12_both : Int32 → Int32 → Int32 → Int32 → Int32 → Int32 → Int32 → Int32 → Int32 → Int32 → Int32 → Int32 → Int32 → Int32 → Int32 → Int32 → Int32 → (Nat → Int32) → (Nat → Int32) → (Nat → Int32) → (Option (Int32 × Int32 × Int32 × Int32 × (Nat → Int32) × (Nat → Int32)))} {r_X12_compared : Int32 → Int32 → Int32 → Int32 → Int32 → Int32 → Int32 → Int32 → Int32 → Int32 → Int32 → Int32 → Int32 → Int32 → Int32 → Int32 → Int32 → (Nat → Int32) → (Nat → Int32) → (Nat → Int32) → (Option (Int32 × Int32 × Int32 × Int32 × (Nat → Int32) × (Nat → Int32)))} {r_X12_either : Int32 → Int32 → Int32 → Int32 → Int32 → Int32 → Int32 → Int32 → Int32 → Int32 → Int32 → Int32 → Int32 → Int32 → Int32 → Int32 → Int32 → (Nat → Int32) → (Nat → Int32) → (Nat → Int32) → (Option (Int32 × Int32 × Int32 × Int32 × (Nat → Int32) × (Nat → Int32)))} {r_X12_operand : Int32 → Int32 → Int32 → Int32 → Int32 → Int32 → Int32 → Int32 → Int32 → Int32 → Int32 → Int32 → Int32 → Int32 → Int32 → Int32 → Int32 → (Nat → Int32) → (Nat → Int32) → (Nat → Int32) → (Option (Int32 × Int32 × Int32 × Int32 × (Nat → Int32) × (Nat → Int32)))} {r_X12_product : Int32 → Int32 → Int32 → Int32 → Int32 → Int32 → Int32 → Int32 → Int32 → Int32 → Int32 → Int32 → Int32 → Int32 → Int32 → Int32 → Int32 → (Nat → Int32) → (Nat → Int32) → (Nat → Int32) → (Option (Int32 × Int32 × Int32 × Int32 × (Nat → Int32) × (Nat → Int32)))} {r_X12_sum : Int32 → Int32 → Int32 → Int32 → Int32 → Int32 → Int32 → Int32 → Int32 → Int32 → Int32 → Int32 → Int32 → Int32 → Int32 → Int32 → Int32 → (Nat → Int32) → (Nat → Int32) → (Nat → Int32) → (Option (Int32 × Int32 × Int32 × Int32 × (Nat → Int32) × (Nat → Int32)))} {m : Nat} {he g o l : Int32} {ac wi : Nat → Int32} {S : Int32 × Int32 × Int32 × Int32 × (Nat → Int32) × (Nat → Int32)} (h : f_X12_product r_X12_both r_X12_compared r_X12_either r_X12_operand r_X12_product r_X12_sum m mod_code court_shoeCount mod_claims ts he g court_suitCount mod_doneMany mod_undoneMany o l mod_isBoth mod_wished mod_bestMany mod_bestRow mod_ringDigits mod_traces tm ac wi = some S) : ∃ u1 u2 u3 u4 u5 u6, (fun he g o l ac wi => r_X12_operand mod_code court_shoeCount mod_claims ts he g court_suitCount mod_doneMany mod_undoneMany o l mod_isBoth mod_wished mod_bestMany mod_bestRow mod_ringDigits mod_traces tm ac wi) he g o l ac wi = some (u1, u2, u3, u4, u5, u6) ∧ (fun m he g o l ac wi => G_X12_product r_X12_both r_X12_compared r_X12_either r_X12_operand r_X12_product r_X12_sum mod_code court_shoeCount mod_claims ts court_suitCount mod_doneMany mod_undoneMany mod_isBoth mod_wished mod_bestMany mod_bestRow mod_ringDigits mod_traces tm m he g o l ac wi) m u1 u2 u3 u4 u5 u6 = some S := by
  unfold f_X12_product B_X12_product_0 at h
  replace h := zk_o6 h
  obtain ⟨u1, u2, u3, u4, u5, u6, k1, h⟩ := h
  exact ⟨u1, u2, u3, u4, u5, u6, k1, h⟩
set_option maxHeartbeats 4000000 in
set_option maxRecDepth 20000 in
theorem lv_go {ts : Int32} {tb : Nat → Int32} {rL : Int32 → Int32 → Int32 → (Nat → Int32) → Int32 → Int32 → Int32 → (Nat → Int32) → (Option (Int32 × Int32 × Int32 × (Nat → Int32)))} {rO : Int32 → Int32 → (Nat → Int32) → Int32 → Int32 → Int32 → (Nat → Int32) → (Option (Int32 × Int32 × Int32 × (Nat → Int32)))} {kh : Nat} {lv o : Int32} {nn mm : Nat} {GM : Nat → Int32 → Int32 → Int32 → Int32 → (Nat → Int32) → (Nat → Int32) → Option (Int32 × Int32 × Int32 × Int32 × (Nat → Int32) × (Nat → Int32))} {sub F : Int32 → Int32 → Int32 → Int32 → (Nat → Int32) → (Nat → Int32) → Option (Int32 × Int32 × Int32 × Int32 × (Nat → Int32) × (Nat → Int32))} (hT : TS ts) (hl : 0 ≤ lv.toInt ∧ lv.toInt ≤ 4) (h2l : ¬ lv = 2) (hG : RSTEP ts tb lv GM sub) (hS : SUBS ts tb kh o (fun sz a f cd => rL (lv + 1) o ts tb sz a f cd) sub) (hF : ∀ he g o2 l ac wi S, F he g o2 l ac wi = some S → ∃ u1 u2 u3 u4 u5 u6, sub he g o2 l ac wi = some (u1, u2, u3, u4, u5, u6) ∧ GM mm u1 u2 u3 u4 u5 u6 = some S) : SUBS ts tb (kh + 1) o (fun sz a f cd => f_X5_readLevel rL rO nn lv o ts tb sz a f cd) F := by
  intro sz a f cd he g o2 l ac wi R S hp h h2
  replace h : f_X5_readLevel rL rO nn lv o ts tb sz a f cd = some R := h
  unfold f_X5_readLevel B_X5_readLevel_0 at h
  have e4 : (4 : Int32).toInt = 4 := by decide
  replace h := zk_t (show lv ≤ (4 : Int32) by rw [i32_le, e4]; exact hl.2) h
  replace h := zk_o4 h
  obtain ⟨v1, v2, v3, v4, j1, h⟩ := h
  obtain ⟨u1, u2, u3, u4, u5, u6, k1, h2⟩ := hF _ _ _ _ _ _ _ h2
  have s0 := hp.2.2.2.2.2.2.2.1
  have l0 := hp.2.2.2.2.2.2.2.2.2.1
  rcases hS _ _ _ _ _ _ _ _ _ _ _ _ hp j1 k1 with ⟨hp2, L, t, q⟩ | hb
  · have hp2 : LPR ts o v1 v2 v3 u1 u2 u3 u4 := hp2
    exact lp_go hT hl h2l hG hS s0 l0 _ _ 0 v1 v2 v3 u1 u2 u3 u4 v4 u5 u6 R S L hp2 (TSG_m t) q (by decide) hp2.2.2.2.1.1 h h2
  · have hb : LBAD ts tb v2 v3 u2 := hb
    exact Or.inr (lp_bad hT hl hG hb h h2)
set_option maxHeartbeats 4000000 in
set_option maxRecDepth 20000 in
theorem rf_compared {mod_code : Int32} {court_shoeCount : Int32} {mod_claims : Int32} {ts : Int32} {court_suitCount : Int32} {mod_doneMany : Int32} {mod_undoneMany : Int32} {mod_isBoth : Int32} {mod_wished : Int32} {mod_bestMany : Int32} {mod_bestRow : Int32} {mod_ringDigits : Int32} {mod_traces : Int32} {tm : Nat → Int32} {tb : Nat → Int32} {r_X12_both : Int32 → Int32 → Int32 → Int32 → Int32 → Int32 → Int32 → Int32 → Int32 → Int32 → Int32 → Int32 → Int32 → Int32 → Int32 → Int32 → Int32 → (Nat → Int32) → (Nat → Int32) → (Nat → Int32) → (Option (Int32 × Int32 × Int32 × Int32 × (Nat → Int32) × (Nat → Int32)))} {r_X12_compared : Int32 → Int32 → Int32 → Int32 → Int32 → Int32 → Int32 → Int32 → Int32 → Int32 → Int32 → Int32 → Int32 → Int32 → Int32 → Int32 → Int32 → (Nat → Int32) → (Nat → Int32) → (Nat → Int32) → (Option (Int32 × Int32 × Int32 × Int32 × (Nat → Int32) × (Nat → Int32)))} {r_X12_either : Int32 → Int32 → Int32 → Int32 → Int32 → Int32 → Int32 → Int32 → Int32 → Int32 → Int32 → Int32 → Int32 → Int32 → Int32 → Int32 → Int32 → (Nat → Int32) → (Nat → Int32) → (Nat → Int32) → (Option (Int32 × Int32 × Int32 × Int32 × (Nat → Int32) × (Nat → Int32)))} {r_X12_operand : Int32 → Int32 → Int32 → Int32 → Int32 → Int32 → Int32 → Int32 → Int32 → Int32 → Int32 → Int32 → Int32 → Int32 → Int32 → Int32 → Int32 → (Nat → Int32) → (Nat → Int32) → (Nat → Int32) → (Option (Int32 × Int32 × Int32 × Int32 × (Nat → Int32) × (Nat → Int32)))} {r_X12_product : Int32 → Int32 → Int32 → Int32 → Int32 → Int32 → Int32 → Int32 → Int32 → Int32 → Int32 → Int32 → Int32 → Int32 → Int32 → Int32 → Int32 → (Nat → Int32) → (Nat → Int32) → (Nat → Int32) → (Option (Int32 × Int32 × Int32 × Int32 × (Nat → Int32) × (Nat → Int32)))} {r_X12_sum : Int32 → Int32 → Int32 → Int32 → Int32 → Int32 → Int32 → Int32 → Int32 → Int32 → Int32 → Int32 → Int32 → Int32 → Int32 → Int32 → Int32 → (Nat → Int32) → (Nat → Int32) → (Nat → Int32) → (Option (Int32 × Int32 × Int32 × Int32 × (Nat → Int32) × (Nat → Int32)))} {he g o l : Int32} {ac wi : Nat → Int32} {S : Int32 × Int32 × Int32 × Int32 × (Nat → Int32) × (Nat → Int32)} (hT : TS ts) (hR : TR ts tb tm) (h : f_X12_compared r_X12_both r_X12_compared r_X12_either r_X12_operand r_X12_product r_X12_sum mod_code court_shoeCount mod_claims ts he g court_suitCount mod_doneMany mod_undoneMany o l mod_isBoth mod_wished mod_bestMany mod_bestRow mod_ringDigits mod_traces tm ac wi = some S) : ∃ u1 u2 u3 u4 u5 u6, (fun he g o l ac wi => r_X12_sum mod_code court_shoeCount mod_claims ts he g court_suitCount mod_doneMany mod_undoneMany o l mod_isBoth mod_wished mod_bestMany mod_bestRow mod_ringDigits mod_traces tm ac wi) he g o l ac wi = some (u1, u2, u3, u4, u5, u6) ∧ ((u2.toInt < 0 → PB ts u1) → (S = (u1, u2, u3, u4, u5, u6) ∧ (0 ≤ u2.toInt ∨ ¬ sgn 2 (bZ ts tb u1))) ∨ (u2.toInt < 0 ∧ sgn 2 (bZ ts tb u1) ∧ ∃ x1 x2 x3 x4 x5 x6 l2 a2 w2, (fun he g o l ac wi => r_X12_sum mod_code court_shoeCount mod_claims ts he g court_suitCount mod_doneMany mod_undoneMany o l mod_isBoth mod_wished mod_bestMany mod_bestRow mod_ringDigits mod_traces tm ac wi) (u1 + 1) u2 u3 u4 u5 u6 = some (x1, x2, x3, x4, x5, x6) ∧ ((0 ≤ x4.toInt ∧ x4.toInt ≤ 1000) → l2 = x4 + 1 ∧ a2 = upd x5 (4160 + x4.toInt.toNat) (bz ts tb u1) ∧ w2 = upd x6 (4160 + x4.toInt.toNat) 0) ∧ S = (x1, x2, x3, l2, a2, w2))) := by
  unfold f_X12_compared B_X12_compared_0 at h
  replace h := zk_o6 h
  obtain ⟨u1, u2, u3, u4, u5, u6, k1, h⟩ := h
  refine ⟨u1, u2, u3, u4, u5, u6, k1, fun hp => ?_⟩
  replace h := zk_o2 h
  obtain ⟨r0, w0, a0, h⟩ := h
  by_cases c1 : 0 ≤ u2
  · replace h := (Option.some.inj (zk_t c1 h)).symm
    rw [i32_le, z32_0] at c1
    exact Or.inl ⟨h, Or.inl c1⟩
  replace h := zk_f c1 h
  rw [i32_le, z32_0] at c1
  have hb0 := mb_look hT hR (hp (by omega)) a0
  by_cases b0 : r0 = (60 : Int32)
  · replace h := zk_t b0 h
    have ez : bZ ts tb u1 = 60 := (BR_e hb0 ⟨by decide, by decide, by decide⟩).mp b0
    have eb : bz ts tb u1 = 60 := Int32.toInt_inj.mp (ez.trans (by decide))
    subst b0
    unfold B_X12_compared_35 at h
    replace h := zk_lt h
    obtain ⟨v, ev, h⟩ := h
    subst ev
    replace h := zk_o6 h
    obtain ⟨x1, x2, x3, x4, x5, x6, k2, h⟩ := h
    replace h := zk_o3 h
    obtain ⟨l2, a2, w2, k3, h⟩ := h
    refine Or.inr ⟨by omega, Or.inr (Or.inr (Or.inl ⟨rfl, Or.inl (ez)⟩)), x1, x2, x3, x4, x5, x6, l2, a2, w2, k2, fun hl => ?_, (Option.some.inj h).symm⟩
    have q := m5_lay ⟨by decide, by decide⟩ hl k3
    rw [eb]
    exact q.2
  replace h := zk_f b0 h
  have n0 : bZ ts tb u1 ≠ 60 := fun z => b0 ((BR_e hb0 ⟨by decide, by decide, by decide⟩).mpr z)
  by_cases b1 : r0 = (61 : Int32)
  · replace h := zk_t b1 h
    have ez : bZ ts tb u1 = 61 := (BR_e hb0 ⟨by decide, by decide, by decide⟩).mp b1
    have eb : bz ts tb u1 = 61 := Int32.toInt_inj.mp (ez.trans (by decide))
    subst b1
    unfold B_X12_compared_35 at h
    replace h := zk_lt h
    obtain ⟨v, ev, h⟩ := h
    subst ev
    replace h := zk_o6 h
    obtain ⟨x1, x2, x3, x4, x5, x6, k2, h⟩ := h
    replace h := zk_o3 h
    obtain ⟨l2, a2, w2, k3, h⟩ := h
    refine Or.inr ⟨by omega, Or.inr (Or.inr (Or.inl ⟨rfl, Or.inr (Or.inl (ez))⟩)), x1, x2, x3, x4, x5, x6, l2, a2, w2, k2, fun hl => ?_, (Option.some.inj h).symm⟩
    have q := m5_lay ⟨by decide, by decide⟩ hl k3
    rw [eb]
    exact q.2
  replace h := zk_f b1 h
  have n1 : bZ ts tb u1 ≠ 61 := fun z => b1 ((BR_e hb0 ⟨by decide, by decide, by decide⟩).mpr z)
  by_cases b2 : r0 = (62 : Int32)
  · replace h := zk_t b2 h
    have ez : bZ ts tb u1 = 62 := (BR_e hb0 ⟨by decide, by decide, by decide⟩).mp b2
    have eb : bz ts tb u1 = 62 := Int32.toInt_inj.mp (ez.trans (by decide))
    subst b2
    unfold B_X12_compared_35 at h
    replace h := zk_lt h
    obtain ⟨v, ev, h⟩ := h
    subst ev
    replace h := zk_o6 h
    obtain ⟨x1, x2, x3, x4, x5, x6, k2, h⟩ := h
    replace h := zk_o3 h
    obtain ⟨l2, a2, w2, k3, h⟩ := h
    refine Or.inr ⟨by omega, Or.inr (Or.inr (Or.inl ⟨rfl, Or.inr (Or.inr (ez))⟩)), x1, x2, x3, x4, x5, x6, l2, a2, w2, k2, fun hl => ?_, (Option.some.inj h).symm⟩
    have q := m5_lay ⟨by decide, by decide⟩ hl k3
    rw [eb]
    exact q.2
  replace h := zk_f b2 h
  have n2 : bZ ts tb u1 ≠ 62 := fun z => b2 ((BR_e hb0 ⟨by decide, by decide, by decide⟩).mpr z)
  refine Or.inl ⟨(Option.some.inj h).symm, Or.inr (fun z => ?_)⟩
  rcases z with ⟨z1, z⟩ | ⟨z1, z⟩ | ⟨z1, z⟩ | ⟨z1, z⟩ | ⟨z1, z⟩
  · exact absurd z1 (by decide)
  · exact absurd z1 (by decide)
  · omega
  · exact absurd z1 (by decide)
  · exact absurd z1 (by decide)
set_option maxHeartbeats 4000000 in
set_option maxRecDepth 20000 in
theorem lv_cmp {ts : Int32} {tb : Nat → Int32} {rL : Int32 → Int32 → Int32 → (Nat → Int32) → Int32 → Int32 → Int32 → (Nat → Int32) → (Option (Int32 × Int32 × Int32 × (Nat → Int32)))} {rO : Int32 → Int32 → (Nat → Int32) → Int32 → Int32 → Int32 → (Nat → Int32) → (Option (Int32 × Int32 × Int32 × (Nat → Int32)))} {kh : Nat} {o : Int32} {nn : Nat} {sub F : Int32 → Int32 → Int32 → Int32 → (Nat → Int32) → (Nat → Int32) → Option (Int32 × Int32 × Int32 × Int32 × (Nat → Int32) × (Nat → Int32))} (hT : TS ts) (hS : SUBS ts tb kh o (fun sz a f cd => rL (2 + 1) o ts tb sz a f cd) sub) (hF : ∀ he g o l ac wi S, F he g o l ac wi = some S → ∃ u1 u2 u3 u4 u5 u6, (sub) he g o l ac wi = some (u1, u2, u3, u4, u5, u6) ∧ ((u2.toInt < 0 → PB ts u1) → (S = (u1, u2, u3, u4, u5, u6) ∧ (0 ≤ u2.toInt ∨ ¬ sgn 2 (bZ ts tb u1))) ∨ (u2.toInt < 0 ∧ sgn 2 (bZ ts tb u1) ∧ ∃ x1 x2 x3 x4 x5 x6 l2 a2 w2, (sub) (u1 + 1) u2 u3 u4 u5 u6 = some (x1, x2, x3, x4, x5, x6) ∧ ((0 ≤ x4.toInt ∧ x4.toInt ≤ 1000) → l2 = x4 + 1 ∧ a2 = upd x5 (4160 + x4.toInt.toNat) (bz ts tb u1) ∧ w2 = upd x6 (4160 + x4.toInt.toNat) 0) ∧ S = (x1, x2, x3, l2, a2, w2)))) : SUBS ts tb (kh + 1) o (fun sz a f cd => f_X5_readLevel rL rO nn 2 o ts tb sz a f cd) F := by
  intro sz a f cd he g o2 l ac wi R S hp h h2
  replace h : f_X5_readLevel rL rO nn 2 o ts tb sz a f cd = some R := h
  unfold f_X5_readLevel B_X5_readLevel_0 at h
  replace h := zk_t (show (2 : Int32) ≤ (4 : Int32) by decide) h
  replace h := zk_o4 h
  obtain ⟨v1, v2, v3, v4, j1, h⟩ := h
  obtain ⟨u1, u2, u3, u4, u5, u6, k1, h2⟩ := hF _ _ _ _ _ _ _ h2
  have s0 := hp.2.2.2.2.2.2.2.1
  have l0 := hp.2.2.2.2.2.2.2.2.2.1
  have hT2 := hT.2
  have hl : 0 ≤ (2 : Int32).toInt ∧ (2 : Int32).toInt ≤ 4 := by decide
  cases nn with
  | zero => cases h
  | succ nn =>
  rcases hS _ _ _ _ _ _ _ _ _ _ _ _ hp j1 k1 with ⟨hp2, L, t, q⟩ | hb
  · have hp2 : LPR ts o v1 v2 v3 u1 u2 u3 u4 := hp2
    have q : SEGS sz.toInt a.toInt l.toInt cd ac wi v1.toInt v2.toInt u4.toInt v4 u5 u6 L := q
    have ehe : u1 = v2 := hp2.2.2.1
    subst ehe
    have hf0 : v3.toInt < 0 := hp2.1
    have hg0 : u2.toInt < 0 := hp2.2.1
    by_cases hs : sgn 2 (bZ ts tb u1)
    · obtain ⟨hn, en, hlt⟩ := LPR_n (tb := tb) hT hp2 hs
      rcases h2 (fun _ => hp2.2.2.2.1) with ⟨_, z⟩ | ⟨_, _, x1, x2, x3, x4, x5, x6, l2, a2, w2, k2, k3, k4⟩
      · exact False.elim (z.elim (fun y => by omega) (fun y => y hs))
      rcases c5_step hT hl h with ⟨_, z⟩ | ⟨_, _, _, y1, y2, y3, y4, g1, g2, j2, j3, j4, _⟩
      · exact False.elim (z.elim (fun y => absurd y (by decide)) (fun y => y.elim (fun w => by omega) (fun w => w hs)))
      have j4 := j4 rfl
      rw [j4, k4]
      rcases hS _ _ _ _ _ _ _ _ _ _ _ _ hn j2 k2 with ⟨hp3, L2, t2, q2⟩ | hb
      · have hp3 : LPR ts o y1 y2 y3 x1 x2 x3 x4 := hp3
        have q2 : SEGS v1.toInt (u1 + 1).toInt u4.toInt v4 u5 u6 y1.toInt y2.toInt x4.toInt y4 x5 x6 L2 := q2
        obtain ⟨b1, b2, b3, b4, b5, b6, b7, b8, b9, b10, b11⟩ := hp3
        have b4' := b4.2
        have m1 := hp2.2.2.2.2.2.2.2.2.1
        have m2 := hp2.2.2.2.2.2.2.2.2.2.2
        have q3 := q2.2.2.1
        have qs := q2.1
        have ql := q2.2.1
        obtain ⟨d1, _, d2⟩ := (c5_emit j3).1 b1 b8 (by omega)
        obtain ⟨f1, f2, f3⟩ := k3 ⟨b10, by omega⟩
        have tk := sgn_tk (show sgn 2 (bz ts tb u1).toInt from hs)
        have sh := SEGS_sh q2 en
        have dd := SEGS_tr s0 l0 (Int.le_refl _) q sh.1
        have la : a.toInt + ((L ++ L2).length : Int) + 1 ≤ y2.toInt := by
          have := q.2.2.1
          have := sh.2
          rw [List.length_append]
          omega
        have el := i32_s (a := x4) (by omega)
        have d1' : g1.toInt = y1.toInt + 1 := d1
        have l1 : l2.toInt = x4.toInt + 1 := by rw [f1]; exact el
        have de := SEGS_em (x := (bz ts tb u1, (0 : Int32))) (v := enc (bz ts tb u1, 0)) (b := bz ts tb u1) (w := 0) (s2 := g1.toInt) (l2 := l2.toInt) s0 l0 dd la rfl rfl rfl tk.1 rfl rfl d1' l1
        have d2' : g2 = upd y4 y1.toInt.toNat (enc (bz ts tb u1, 0)) := d2
        refine Or.inl ⟨⟨b1, b2, b3, b4, b5, b6, b7, ?_, ?_, ?_, ?_⟩, L ++ (L2 ++ [(bz ts tb u1, (0 : Int32))]), TSG_bin (TSG_m t) t2 ⟨tk.2.1, tk.2.2.1, tk.2.2.2.1, tk.2.2.2.2⟩ (Nat.le_refl _) (Nat.le_refl _), ?_⟩
        · show 0 ≤ g1.toInt
          omega
        · show g1.toInt ≤ y2.toInt
          omega
        · show 0 ≤ l2.toInt
          omega
        · show l2.toInt ≤ y2.toInt
          omega
        · show SEGS sz.toInt a.toInt l.toInt cd ac wi g1.toInt y2.toInt l2.toInt g2 a2 w2 _
          rw [d2', f2, f3, ← List.append_assoc]
          exact de
      · exact Or.inr hb
    · rcases h2 (fun _ => hp2.2.2.2.1) with ⟨e2, _⟩ | ⟨_, z, _⟩
      · rcases c5_step hT hl h with ⟨e1, _⟩ | ⟨_, _, z, _⟩
        · rw [e1, e2]
          exact Or.inl ⟨hp2, L, TSG_m t, q⟩
        · exact absurd z hs
      · exact absurd z hs
  · have hb : LBAD ts tb v2 v3 u2 := hb
    have g0 := LBAD_g hb
    rcases h2 (fun z => by omega) with ⟨e2, _⟩ | ⟨z, _⟩
    · rcases c5_step hT hl h with ⟨e1, _⟩ | ⟨_, z, hs, _⟩
      · rw [e1, e2]
        exact Or.inr hb
      · exact (LBAD_sg hb z hs).elim
    · omega
theorem nm_tab : ∀ b : Fin 256, f_J0_indexOf_0f7a4 4 (((Int32.ofNat b.val).toUInt32 % 65536).toInt32) = f_X12_nameOf (Int32.ofNat b.val) := by decide +kernel
def nmok (b : Nat) : Bool := match f_X12_nameOf (Int32.ofNat b) with
  | some (r, _) => decide (-1 ≤ r.toInt ∧ r.toInt ≤ 10 ∧ (0 ≤ r.toInt → 58 ≤ b) ∧ (r.toInt < 0 → r.toInt = -1))
  | none => true
theorem nm_tab2 : ∀ b : Fin 256, nmok b.val = true := by decide +kernel
theorem i32_n {x : Int32} (h0 : 0 ≤ x.toInt) : x = Int32.ofNat x.toInt.toNat := by
  apply Int32.toInt_inj.mp
  have := x.toInt_lt
  rw [Int32.toInt_ofNat_of_lt (by omega)]
  omega
theorem nm_eq {x r q : Int32} {u w : Unit} (h0 : 0 ≤ x.toInt) (h1 : x.toInt ≤ 255) (h : f_J0_indexOf_0f7a4 4 ((x.toUInt32 % 65536).toInt32) = some (r, u)) (h2 : f_X12_nameOf x = some (q, w)) : r = q := by
  have k := nm_tab ⟨x.toInt.toNat, by omega⟩
  dsimp only at k
  rw [← i32_n h0, h, h2] at k
  exact congrArg Prod.fst (Option.some.inj k)
theorem nm_in {x q : Int32} {w : Unit} (h0 : 0 ≤ x.toInt) (h1 : x.toInt ≤ 255) (h2 : f_X12_nameOf x = some (q, w)) : -1 ≤ q.toInt ∧ q.toInt ≤ 10 ∧ (0 ≤ q.toInt → 58 ≤ x.toInt) ∧ (q.toInt < 0 → q.toInt = -1) := by
  have k := nm_tab2 ⟨x.toInt.toNat, by omega⟩
  dsimp only at k
  unfold nmok at k
  rw [← i32_n h0, h2] at k
  have k := of_decide_eq_true k
  exact ⟨k.1, k.2.1, fun z => by have := k.2.2.1 z; omega, k.2.2.2⟩
theorem nmr_ge {ts : Int32} {tb : Nat → Int32} (hT : TS ts) : ∀ (k : Nat) (v a : Int32), PB ts a → a.toInt ≤ (nmr ts tb k v a).2.toInt
  | 0, v, a, h => Int.le_refl _
  | k + 1, v, a, h => by
    show a.toInt ≤ (if 48 ≤ bZ ts tb a ∧ bZ ts tb a ≤ 57 then nmr ts tb k (v * 10 + bz ts tb a - 48) (a + 1) else (v, a)).2.toInt
    by_cases c : 48 ≤ bZ ts tb a ∧ bZ ts tb a ≤ 57
    · rw [if_pos c]
      have p := PB_s (tb := tb) hT h (by omega)
      have := nmr_ge (tb := tb) hT k (v * 10 + bz ts tb a - 48) (a + 1) p
      have h2 := hT.2
      have h3 := h.1
      have h4 := h.2
      have e := i32_s (a := a) (by omega)
      omega
    · rw [if_neg c]
      exact Int.le_refl _

theorem nm_neg {x q : Int32} {w : Unit} (h0 : x.toInt < 0) (h : f_X12_nameOf x = some (q, w)) : q = -1 := by
  unfold f_X12_nameOf B_X12_nameOf_0 at h
  have k : ∀ c : Int32, 0 ≤ c.toInt → ¬ x = c := fun c hc e => by
    rw [e] at h0
    omega
  have h := zk_f (k (97 : Int32) (by decide)) h
  have h := zk_f (k (98 : Int32) (by decide)) h
  have h := zk_f (k (99 : Int32) (by decide)) h
  have h := zk_f (k (100 : Int32) (by decide)) h
  have h := zk_f (k (101 : Int32) (by decide)) h
  have h := zk_f (k (102 : Int32) (by decide)) h
  have h := zk_f (k (103 : Int32) (by decide)) h
  have h := zk_f (k (104 : Int32) (by decide)) h
  have h := zk_f (k (105 : Int32) (by decide)) h
  have h := zk_f (k (106 : Int32) (by decide)) h
  have h := zk_f (k (107 : Int32) (by decide)) h
  have h := zk_f (k (108 : Int32) (by decide)) h
  have h := zk_f (k (109 : Int32) (by decide)) h
  have h := zk_f (k (110 : Int32) (by decide)) h
  have h := zk_f (k (111 : Int32) (by decide)) h
  have h := zk_f (k (112 : Int32) (by decide)) h
  have h := zk_f (k (113 : Int32) (by decide)) h
  have h := zk_f (k (114 : Int32) (by decide)) h
  have h := zk_f (k (115 : Int32) (by decide)) h
  have h := zk_f (k (116 : Int32) (by decide)) h
  have h := zk_f (k (117 : Int32) (by decide)) h
  have h := zk_f (k (118 : Int32) (by decide)) h
  have h := zk_f (k (119 : Int32) (by decide)) h
  exact (congrArg Prod.fst (Option.some.inj h)).symm

set_option maxHeartbeats 4000000 in
set_option maxRecDepth 20000 in
theorem m5_operand {mod_code : Int32} {court_shoeCount : Int32} {mod_claims : Int32} {ts : Int32} {court_suitCount : Int32} {mod_doneMany : Int32} {mod_undoneMany : Int32} {mod_isBoth : Int32} {mod_wished : Int32} {mod_bestMany : Int32} {mod_bestRow : Int32} {mod_ringDigits : Int32} {mod_traces : Int32} {tm : Nat → Int32} {tb : Nat → Int32} {r_X12_both : Int32 → Int32 → Int32 → Int32 → Int32 → Int32 → Int32 → Int32 → Int32 → Int32 → Int32 → Int32 → Int32 → Int32 → Int32 → Int32 → Int32 → (Nat → Int32) → (Nat → Int32) → (Nat → Int32) → (Option (Int32 × Int32 × Int32 × Int32 × (Nat → Int32) × (Nat → Int32)))} {r_X12_compared : Int32 → Int32 → Int32 → Int32 → Int32 → Int32 → Int32 → Int32 → Int32 → Int32 → Int32 → Int32 → Int32 → Int32 → Int32 → Int32 → Int32 → (Nat → Int32) → (Nat → Int32) → (Nat → Int32) → (Option (Int32 × Int32 × Int32 × Int32 × (Nat → Int32) × (Nat → Int32)))} {r_X12_either : Int32 → Int32 → Int32 → Int32 → Int32 → Int32 → Int32 → Int32 → Int32 → Int32 → Int32 → Int32 → Int32 → Int32 → Int32 → Int32 → Int32 → (Nat → Int32) → (Nat → Int32) → (Nat → Int32) → (Option (Int32 × Int32 × Int32 × Int32 × (Nat → Int32) × (Nat → Int32)))} {r_X12_operand : Int32 → Int32 → Int32 → Int32 → Int32 → Int32 → Int32 → Int32 → Int32 → Int32 → Int32 → Int32 → Int32 → Int32 → Int32 → Int32 → Int32 → (Nat → Int32) → (Nat → Int32) → (Nat → Int32) → (Option (Int32 × Int32 × Int32 × Int32 × (Nat → Int32) × (Nat → Int32)))} {r_X12_product : Int32 → Int32 → Int32 → Int32 → Int32 → Int32 → Int32 → Int32 → Int32 → Int32 → Int32 → Int32 → Int32 → Int32 → Int32 → Int32 → Int32 → (Nat → Int32) → (Nat → Int32) → (Nat → Int32) → (Option (Int32 × Int32 × Int32 × Int32 × (Nat → Int32) × (Nat → Int32)))} {r_X12_sum : Int32 → Int32 → Int32 → Int32 → Int32 → Int32 → Int32 → Int32 → Int32 → Int32 → Int32 → Int32 → Int32 → Int32 → Int32 → Int32 → Int32 → (Nat → Int32) → (Nat → Int32) → (Nat → Int32) → (Option (Int32 × Int32 × Int32 × Int32 × (Nat → Int32) × (Nat → Int32)))} {he g o l : Int32} {ac wi : Nat → Int32} {S : Int32 × Int32 × Int32 × Int32 × (Nat → Int32) × (Nat → Int32)} (hT : TS ts) (hR : TR ts tb tm) (hp : PB ts he) (hg : g.toInt < 0) (ho : 0 ≤ o.toInt ∧ o.toInt ≤ 6) (hl : 0 ≤ l.toInt ∧ l.toInt ≤ 1000) (h : f_X12_operand r_X12_both r_X12_compared r_X12_either r_X12_operand r_X12_product r_X12_sum mod_code court_shoeCount mod_claims ts he g court_suitCount mod_doneMany mod_undoneMany o l mod_isBoth mod_wished mod_bestMany mod_bestRow mod_ringDigits mod_traces tm ac wi = some S) : (bZ ts tb he = 33 → (6 ≤ o.toInt ∧ S = (he, he, o, l, ac, wi)) ∨ (o.toInt < 6 ∧ ∃ u1 u2 u3 u4 u5 u6 l2 a2 w2, (fun he g o l ac wi => r_X12_operand mod_code court_shoeCount mod_claims ts he g court_suitCount mod_doneMany mod_undoneMany o l mod_isBoth mod_wished mod_bestMany mod_bestRow mod_ringDigits mod_traces tm ac wi) (he + 1) g (o + 1) l ac wi = some (u1, u2, u3, u4, u5, u6) ∧ ((0 ≤ u4.toInt ∧ u4.toInt ≤ 1000) → l2 = u4 + 1 ∧ a2 = upd u5 (4160 + u4.toInt.toNat) 3 ∧ w2 = upd u6 (4160 + u4.toInt.toNat) 0) ∧ S = (u1, u2, u3 - 1, l2, a2, w2))) ∧ (bZ ts tb he = 45 → (6 ≤ o.toInt ∧ S = (he, he, o, l, ac, wi)) ∨ (o.toInt < 6 ∧ ∃ u1 u2 u3 u4 u5 u6 l2 a2 w2, (fun he g o l ac wi => r_X12_operand mod_code court_shoeCount mod_claims ts he g court_suitCount mod_doneMany mod_undoneMany o l mod_isBoth mod_wished mod_bestMany mod_bestRow mod_ringDigits mod_traces tm ac wi) (he + 1) g (o + 1) l ac wi = some (u1, u2, u3, u4, u5, u6) ∧ ((0 ≤ u4.toInt ∧ u4.toInt ≤ 1000) → l2 = u4 + 1 ∧ a2 = upd u5 (4160 + u4.toInt.toNat) 4 ∧ w2 = upd u6 (4160 + u4.toInt.toNat) 0) ∧ S = (u1, u2, u3 - 1, l2, a2, w2))) ∧ (bZ ts tb he = 40 → (6 ≤ o.toInt ∧ S = (he, he, o, l, ac, wi)) ∨ (o.toInt < 6 ∧ ∃ u1 u2 u3 u4 u5 u6, (fun he g o l ac wi => r_X12_either mod_code court_shoeCount mod_claims ts he g court_suitCount mod_doneMany mod_undoneMany o l mod_isBoth mod_wished mod_bestMany mod_bestRow mod_ringDigits mod_traces tm ac wi) (he + 1) g (o + 1) l ac wi = some (u1, u2, u3, u4, u5, u6) ∧ (0 ≤ u2.toInt → S = (u1, u2, u3, u4, u5, u6)) ∧ (u2.toInt < 0 → PB ts u1 → (bZ ts tb u1 = 41 ∧ S = (u1 + 1, u2, u3 - 1, u4, u5, u6)) ∨ (bZ ts tb u1 ≠ 41 ∧ S = (u1, u1, u3, u4, u5, u6))))) ∧ ((48 ≤ bZ ts tb he ∧ bZ ts tb he ≤ 57) → S.1 = (nmr ts tb 4 0 he).2 ∧ ((48 ≤ bZ ts tb (nmr ts tb 4 0 he).2 ∧ bZ ts tb (nmr ts tb 4 0 he).2 ≤ 57) → S.2.1 = (nmr ts tb 4 0 he).2) ∧ (¬ (48 ≤ bZ ts tb (nmr ts tb 4 0 he).2 ∧ bZ ts tb (nmr ts tb 4 0 he).2 ≤ 57) → S.2.1 = g) ∧ S.2.2.1 = o ∧ S.2.2.2.1 = l + 1 ∧ S.2.2.2.2.1 = upd ac (4160 + l.toInt.toNat) 1 ∧ S.2.2.2.2.2 = upd wi (4160 + l.toInt.toNat) (nmr ts tb 4 0 he).1) ∧ (¬ bZ ts tb he = 33 → ¬ bZ ts tb he = 45 → ¬ bZ ts tb he = 40 → ¬ (48 ≤ bZ ts tb he ∧ bZ ts tb he ≤ 57) → ∃ r q w, BR (bz ts tb he) r ∧ f_X12_nameOf r = some (q, w) ∧ (q.toInt < 0 → S.2.1 = he) ∧ (0 ≤ q.toInt → S = (he + 1, g, o, l + 1, upd ac (4160 + l.toInt.toNat) 2, upd wi (4160 + l.toInt.toNat) q))) := by
  unfold f_X12_operand B_X12_operand_0 at h
  replace h := zk_o2 h
  obtain ⟨r, w, a1, h⟩ := h
  have hb := mb_look hT hR hp a1
  replace h := zk_o2 h
  obtain ⟨q, w2, a2, h⟩ := h
  have ebz : bZ ts tb he = (bz ts tb he).toInt := rfl
  have hq0 : bZ ts tb he < 58 → q.toInt < 0 := fun z => by
    rcases hb with ⟨b0, b1, e⟩ | ⟨b0, b1, _⟩
    · rw [e] at a2
      have := (nm_in b0 (by omega) a2).2.2.1
      omega
    · rw [nm_neg b1 a2]
      decide
  have hr : ∀ (c : Int32) (n : Int), c.toInt = n ∧ 0 ≤ n ∧ n ≤ 127 → (r = c ↔ bZ ts tb he = n) := fun c n hc => BR_e hb hc
  have e33 := hr 33 33 ⟨by decide, by decide, by decide⟩
  have e45 := hr 45 45 ⟨by decide, by decide, by decide⟩
  have e40 := hr 40 40 ⟨by decide, by decide, by decide⟩
  have una : ∀ (c : Int32) (T : Int32), (h9 : B_X12_operand_46 r_X12_both r_X12_compared r_X12_either r_X12_operand r_X12_product r_X12_sum mod_code court_shoeCount mod_claims ts court_suitCount mod_doneMany mod_undoneMany mod_isBoth mod_wished mod_bestMany mod_bestRow mod_ringDigits mod_traces tm c he g o l ac wi = some S) → (c = 33 → T = 3) → (¬ c = 33 → T = 4) → (6 ≤ o.toInt ∧ S = (he, he, o, l, ac, wi)) ∨ (o.toInt < 6 ∧ ∃ u1 u2 u3 u4 u5 u6 l2 a2 w2, (fun he g o l ac wi => r_X12_operand mod_code court_shoeCount mod_claims ts he g court_suitCount mod_doneMany mod_undoneMany o l mod_isBoth mod_wished mod_bestMany mod_bestRow mod_ringDigits mod_traces tm ac wi) (he + 1) g (o + 1) l ac wi = some (u1, u2, u3, u4, u5, u6) ∧ ((0 ≤ u4.toInt ∧ u4.toInt ≤ 1000) → l2 = u4 + 1 ∧ a2 = upd u5 (4160 + u4.toInt.toNat) T ∧ w2 = upd u6 (4160 + u4.toInt.toNat) 0) ∧ S = (u1, u2, u3 - 1, l2, a2, w2)) := fun c T h9 t1 t2 => by
    unfold B_X12_operand_46 at h9
    obtain ⟨x1, x2, x3, x4, k1, h9⟩ := zk_o4 h9
    rcases m5_open hg ho k1 with ⟨c1, e⟩ | ⟨c1, e⟩
    · obtain ⟨rfl, rfl, rfl, rfl⟩ : 1 = x1 ∧ he + 1 = x2 ∧ g = x3 ∧ o + 1 = x4 := by
        simp only [Prod.mk.injEq] at e
        exact ⟨e.1.symm, e.2.1.symm, e.2.2.1.symm, e.2.2.2.symm⟩
      have h9 := zk_f (by decide) h9
      obtain ⟨u1, u2, u3, u4, u5, u6, k2, h9⟩ := zk_o6 h9
      obtain ⟨v, ev, h9⟩ := zk_lt h9
      subst ev
      by_cases c33 : c = 33
      · have h9 := zk_t c33 h9
        unfold B_X12_operand_80 at h9
        obtain ⟨l2, a3, w3, k3, h9⟩ := zk_o3 h9
        refine Or.inr ⟨c1, u1, u2, u3, u4, u5, u6, l2, a3, w3, k2, fun hl => ?_, (Option.some.inj h9).symm⟩
        rw [t1 c33]
        exact (m5_lay ⟨by decide, by decide⟩ hl k3).2
      · have h9 := zk_f c33 h9
        unfold B_X12_operand_80 at h9
        obtain ⟨l2, a3, w3, k3, h9⟩ := zk_o3 h9
        refine Or.inr ⟨c1, u1, u2, u3, u4, u5, u6, l2, a3, w3, k2, fun hl => ?_, (Option.some.inj h9).symm⟩
        rw [t2 c33]
        exact (m5_lay ⟨by decide, by decide⟩ hl k3).2
    · obtain ⟨rfl, rfl, rfl, rfl⟩ : 0 = x1 ∧ he = x2 ∧ he = x3 ∧ o = x4 := by
        simp only [Prod.mk.injEq] at e
        exact ⟨e.1.symm, e.2.1.symm, e.2.2.1.symm, e.2.2.2.symm⟩
      have h9 := zk_t rfl h9
      exact Or.inl ⟨c1, (Option.some.inj h9).symm⟩
  refine ⟨fun z => ?_, fun z => ?_, fun z => ?_, fun z => ?_, fun z1 z2 z3 z4 => ?_⟩
  · replace h := zk_t (show q < 0 by rw [i32_lt, z32_0]; exact hq0 (by omega)) h
    replace h := zk_t (e33.mpr z) h
    exact una _ 3 h (fun _ => rfl) (fun n => absurd (e33.mpr z) n)
  · replace h := zk_t (show q < 0 by rw [i32_lt, z32_0]; exact hq0 (by omega)) h
    have n33 : ¬ r = 33 := fun y => by have := e33.mp y; omega
    replace h := zk_f n33 h
    replace h := zk_t (e45.mpr z) h
    exact una _ 4 h (fun n => absurd n n33) (fun _ => rfl)
  · replace h := zk_t (show q < 0 by rw [i32_lt, z32_0]; exact hq0 (by omega)) h
    replace h := zk_f (fun y => by have := e33.mp y; omega) h
    replace h := zk_f (fun y => by have := e45.mp y; omega) h
    replace h := zk_t (e40.mpr z) h
    replace h := zk_o4 h
    obtain ⟨x1, x2, x3, x4, k1, h⟩ := h
    rcases m5_open hg ho k1 with ⟨c1, e⟩ | ⟨c1, e⟩
    · obtain ⟨rfl, rfl, rfl, rfl⟩ : 1 = x1 ∧ he + 1 = x2 ∧ g = x3 ∧ o + 1 = x4 := by
        simp only [Prod.mk.injEq] at e
        exact ⟨e.1.symm, e.2.1.symm, e.2.2.1.symm, e.2.2.2.symm⟩
      replace h := zk_f (by decide) h
      replace h := zk_o6 h
      obtain ⟨u1, u2, u3, u4, u5, u6, k2, h⟩ := h
      refine Or.inr ⟨c1, u1, u2, u3, u4, u5, u6, k2, fun y => ?_, fun y yp => ?_⟩
      · replace h := zk_f (show ¬ u2 < 0 by rw [i32_lt, z32_0]; omega) h
        exact (Option.some.inj h).symm
      · replace h := zk_t (show u2 < 0 by rw [i32_lt, z32_0]; omega) h
        replace h := zk_o2 h
        obtain ⟨r5, w5, a5, h⟩ := h
        have hb5 := mb_look hT hR yp a5
        by_cases c41 : r5 = 41
        · replace h := zk_t c41 h
          replace h := zk_lt h
          obtain ⟨v1, e1, h⟩ := h
          replace h := zk_lt h
          obtain ⟨v2, e2, h⟩ := h
          subst e1
          subst e2
          exact Or.inl ⟨(BR_e hb5 ⟨by decide, by decide, by decide⟩).mp c41, (Option.some.inj h).symm⟩
        · replace h := zk_f c41 h
          replace h := zk_o1 h
          obtain ⟨v, k3, h⟩ := h
          rcases mb_wrong k3 with ⟨_, e⟩ | ⟨e, _⟩
          · subst e
            exact Or.inr ⟨fun y2 => c41 ((BR_e hb5 ⟨by decide, by decide, by decide⟩).mpr y2), (Option.some.inj h).symm⟩
          · omega
    · obtain ⟨rfl, rfl, rfl, rfl⟩ : 0 = x1 ∧ he = x2 ∧ he = x3 ∧ o = x4 := by
        simp only [Prod.mk.injEq] at e
        exact ⟨e.1.symm, e.2.1.symm, e.2.2.1.symm, e.2.2.2.symm⟩
      replace h := zk_t rfl h
      exact Or.inl ⟨c1, (Option.some.inj h).symm⟩
  · replace h := zk_t (show q < 0 by rw [i32_lt, z32_0]; exact hq0 (by omega)) h
    replace h := zk_f (fun y => by have := e33.mp y; omega) h
    replace h := zk_f (fun y => by have := e45.mp y; omega) h
    replace h := zk_f (fun y => by have := e40.mp y; omega) h
    replace h := zk_o5 h
    obtain ⟨u1, u2, u3, u4, u5, k1, h⟩ := h
    unfold f_X12_figure B_X12_figure_0 at k1
    obtain ⟨q1, q2, q3, _, q4, q5, q6⟩ := m5_figL hT hR hg hl _ 4 0 0 he _ (by decide) (by decide) hp k1
    replace h := Option.some.inj h
    rw [← h]
    exact ⟨q1, fun y => q2 (Or.inr y), fun y => q3 (fun x => x.elim (fun v => v.2 z) y), rfl, q4, q5, q6⟩
  · refine ⟨r, q, w2, hb, a2, fun y => ?_, fun y => ?_⟩
    · replace h := zk_t (show q < 0 by rw [i32_lt, z32_0]; exact y) h
      replace h := zk_f (fun y => z1 (e33.mp y)) h
      replace h := zk_f (fun y => z2 (e45.mp y)) h
      replace h := zk_f (fun y => z3 (e40.mp y)) h
      replace h := zk_o5 h
      obtain ⟨u1, u2, u3, u4, u5, k1, h⟩ := h
      unfold f_X12_figure B_X12_figure_0 at k1
      obtain ⟨q1, q2, _⟩ := m5_figL hT hR hg hl _ 4 0 0 he _ (by decide) (by decide) hp k1
      replace h := Option.some.inj h
      rw [← h]
      have hn : nmr ts tb 4 0 he = (0, he) := by
        show (if 48 ≤ bZ ts tb he ∧ bZ ts tb he ≤ 57 then nmr ts tb 3 (0 * 10 + bz ts tb he - 48) (he + 1) else ((0 : Int32), he)) = _
        rw [if_neg z4]
      have q2 := q2 (Or.inl ⟨rfl, z4⟩)
      rw [hn] at q2
      exact q2
    · replace h := zk_f (show ¬ q < 0 by rw [i32_lt, z32_0]; omega) h
      replace h := zk_o2 h
      obtain ⟨r7, w7, a7, h⟩ := h
      have er : q = r7 := by
        rw [a2] at a7
        exact congrArg Prod.fst (Option.some.inj a7)
      subst er
      replace h := zk_o3 h
      obtain ⟨l2, a3, w3, k3, h⟩ := h
      replace h := zk_lt h
      obtain ⟨v, ev, h⟩ := h
      subst ev
      replace h := Option.some.inj h
      rw [← h]
      obtain ⟨_, q1, q2, q3⟩ := m5_lay ⟨by decide, by decide⟩ hl k3
      have q1 : l2 = l + 1 := q1
      have q2 : a3 = _ := q2
      have q3 : w3 = _ := q3
      rw [q1, q2, q3]
