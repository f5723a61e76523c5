
def zk_k {C A : Type} (x : Option (C × A)) (P : C → Prop) : Prop := ∃ R, x = some R ∧ P R.1
theorem zk_kI {C A : Type} {a : C} {u : A} {P : C → Prop} (h : P a) : zk_k (some (a, u)) P := ⟨_, rfl, h⟩
theorem zk_go {C A B : Type} {x : Option (C × A)} {y : Option (C × B)} (h : zk_k x (fun v => zk_k y (fun w => w = v))) : ∃ R1 R2, x = some R1 ∧ y = some R2 ∧ R1.1 = R2.1 := by
  obtain ⟨R1, h1, R2, h2, e⟩ := h
  exact ⟨R1, R2, h1, h2, e.symm⟩
section ZKP
variable {C A T : Type} {P : C → Prop} {c : Prop} {x y : Option (C × A)} {z w : Option T} {k : T → Option (C × A)}
theorem zk_ite {d : Decidable c} (h1 : c → zk_k x P) (h2 : ¬ c → zk_k y P) : zk_k (@ite _ c d x y) P := by
  by_cases h : c
  · rw [if_pos h]; exact h1 h
  · rw [if_neg h]; exact h2 h
theorem zk_iteT {d : Decidable c} (h : c) (h1 : zk_k x P) : zk_k (@ite _ c d x y) P := by rw [if_pos h]; exact h1
theorem zk_iteF {d : Decidable c} (h : ¬ c) (h1 : zk_k y P) : zk_k (@ite _ c d x y) P := by rw [if_neg h]; exact h1
theorem zk_iteN {d : Decidable (¬ c)} (h : c) (h1 : zk_k y P) : zk_k (@ite _ (¬ c) d x y) P := by rw [if_neg (fun n => n h)]; exact h1
theorem zk_bite {d : Decidable c} (h1 : c → zk_k (z.bind k) P) (h2 : ¬ c → zk_k (w.bind k) P) : zk_k ((@ite _ c d z w).bind k) P := by
  by_cases h : c
  · rw [if_pos h]; exact h1 h
  · rw [if_neg h]; exact h2 h
theorem zk_biteT {d : Decidable c} (h : c) (h1 : zk_k (z.bind k) P) : zk_k ((@ite _ c d z w).bind k) P := by rw [if_pos h]; exact h1
theorem zk_biteF {d : Decidable c} (h : ¬ c) (h1 : zk_k (w.bind k) P) : zk_k ((@ite _ c d z w).bind k) P := by rw [if_neg h]; exact h1
theorem zk_biteN {d : Decidable (¬ c)} (h : c) (h1 : zk_k (w.bind k) P) : zk_k ((@ite _ (¬ c) d z w).bind k) P := by rw [if_neg (fun n => n h)]; exact h1
theorem zk_bs {a : T} (h : zk_k (k a) P) : zk_k ((some a).bind k) P := h
theorem zk_bsE {a : T} (e : z = some a) (h : zk_k (k a) P) : zk_k (z.bind k) P := by
  rw [e]; exact h
theorem zk_bas {T2 : Type} {q : Option T2} {k1 : T2 → Option T} (h : zk_k (q.bind (fun r => (k1 r).bind k)) P) : zk_k ((q.bind k1).bind k) P := by
  cases q with
  | none => exact h
  | some r => exact h
end ZKP
theorem zs_01 : (0 : Int32) - 1 = -1 := by decide
theorem zs_cl (x : Int32) : x.toNatClampNeg = x.toInt.toNat := rfl
theorem zt_m2000000000 : (-2000000000 : Int32).toInt = -2000000000 := by decide
theorem zt_m100 : (-100 : Int32).toInt = -100 := by decide
theorem zt_m15 : (-15 : Int32).toInt = -15 := by decide
theorem zt_m14 : (-14 : Int32).toInt = -14 := by decide
theorem zt_m13 : (-13 : Int32).toInt = -13 := by decide
theorem zt_m12 : (-12 : Int32).toInt = -12 := by decide
theorem zt_m11 : (-11 : Int32).toInt = -11 := by decide
theorem zt_m10 : (-10 : Int32).toInt = -10 := by decide
theorem zt_m9 : (-9 : Int32).toInt = -9 := by decide
theorem zt_m8 : (-8 : Int32).toInt = -8 := by decide
theorem zt_m7 : (-7 : Int32).toInt = -7 := by decide
theorem zt_m6 : (-6 : Int32).toInt = -6 := by decide
theorem zt_m5 : (-5 : Int32).toInt = -5 := by decide
theorem zt_m4 : (-4 : Int32).toInt = -4 := by decide
theorem zt_m3 : (-3 : Int32).toInt = -3 := by decide
theorem zt_m2 : (-2 : Int32).toInt = -2 := by decide
theorem zt_m1 : (-1 : Int32).toInt = -1 := by decide
theorem zt_0 : (0 : Int32).toInt = 0 := by decide
theorem zt_1 : (1 : Int32).toInt = 1 := by decide
theorem zt_2 : (2 : Int32).toInt = 2 := by decide
theorem zt_3 : (3 : Int32).toInt = 3 := by decide
theorem zt_4 : (4 : Int32).toInt = 4 := by decide
theorem zt_5 : (5 : Int32).toInt = 5 := by decide
theorem zt_6 : (6 : Int32).toInt = 6 := by decide
theorem zt_7 : (7 : Int32).toInt = 7 := by decide
theorem zt_8 : (8 : Int32).toInt = 8 := by decide
theorem zt_9 : (9 : Int32).toInt = 9 := by decide
theorem zt_10 : (10 : Int32).toInt = 10 := by decide
theorem zt_11 : (11 : Int32).toInt = 11 := by decide
theorem zt_12 : (12 : Int32).toInt = 12 := by decide
theorem zt_13 : (13 : Int32).toInt = 13 := by decide
theorem zt_14 : (14 : Int32).toInt = 14 := by decide
theorem zt_15 : (15 : Int32).toInt = 15 := by decide
theorem zt_16 : (16 : Int32).toInt = 16 := by decide
theorem zt_17 : (17 : Int32).toInt = 17 := by decide
theorem zt_18 : (18 : Int32).toInt = 18 := by decide
theorem zt_19 : (19 : Int32).toInt = 19 := by decide
theorem zt_20 : (20 : Int32).toInt = 20 := by decide
theorem zt_21 : (21 : Int32).toInt = 21 := by decide
theorem zt_22 : (22 : Int32).toInt = 22 := by decide
theorem zt_23 : (23 : Int32).toInt = 23 := by decide
theorem zt_24 : (24 : Int32).toInt = 24 := by decide
theorem zt_25 : (25 : Int32).toInt = 25 := by decide
theorem zt_26 : (26 : Int32).toInt = 26 := by decide
theorem zt_27 : (27 : Int32).toInt = 27 := by decide
theorem zt_28 : (28 : Int32).toInt = 28 := by decide
theorem zt_29 : (29 : Int32).toInt = 29 := by decide
theorem zt_30 : (30 : Int32).toInt = 30 := by decide
theorem zt_31 : (31 : Int32).toInt = 31 := by decide
theorem zt_32 : (32 : Int32).toInt = 32 := by decide
theorem zt_33 : (33 : Int32).toInt = 33 := by decide
theorem zt_34 : (34 : Int32).toInt = 34 := by decide
theorem zt_35 : (35 : Int32).toInt = 35 := by decide
theorem zt_36 : (36 : Int32).toInt = 36 := by decide
theorem zt_37 : (37 : Int32).toInt = 37 := by decide
theorem zt_38 : (38 : Int32).toInt = 38 := by decide
theorem zt_39 : (39 : Int32).toInt = 39 := by decide
theorem zt_40 : (40 : Int32).toInt = 40 := by decide
theorem zt_41 : (41 : Int32).toInt = 41 := by decide
theorem zt_42 : (42 : Int32).toInt = 42 := by decide
theorem zt_43 : (43 : Int32).toInt = 43 := by decide
theorem zt_44 : (44 : Int32).toInt = 44 := by decide
theorem zt_45 : (45 : Int32).toInt = 45 := by decide
theorem zt_46 : (46 : Int32).toInt = 46 := by decide
theorem zt_47 : (47 : Int32).toInt = 47 := by decide
theorem zt_48 : (48 : Int32).toInt = 48 := by decide
theorem zt_49 : (49 : Int32).toInt = 49 := by decide
theorem zt_50 : (50 : Int32).toInt = 50 := by decide
theorem zt_51 : (51 : Int32).toInt = 51 := by decide
theorem zt_52 : (52 : Int32).toInt = 52 := by decide
theorem zt_53 : (53 : Int32).toInt = 53 := by decide
theorem zt_54 : (54 : Int32).toInt = 54 := by decide
theorem zt_55 : (55 : Int32).toInt = 55 := by decide
theorem zt_56 : (56 : Int32).toInt = 56 := by decide
theorem zt_57 : (57 : Int32).toInt = 57 := by decide
theorem zt_58 : (58 : Int32).toInt = 58 := by decide
theorem zt_59 : (59 : Int32).toInt = 59 := by decide
theorem zt_60 : (60 : Int32).toInt = 60 := by decide
theorem zt_61 : (61 : Int32).toInt = 61 := by decide
theorem zt_62 : (62 : Int32).toInt = 62 := by decide
theorem zt_63 : (63 : Int32).toInt = 63 := by decide
theorem zt_64 : (64 : Int32).toInt = 64 := by decide
theorem zt_65 : (65 : Int32).toInt = 65 := by decide
theorem zt_66 : (66 : Int32).toInt = 66 := by decide
theorem zt_67 : (67 : Int32).toInt = 67 := by decide
theorem zt_68 : (68 : Int32).toInt = 68 := by decide
theorem zt_69 : (69 : Int32).toInt = 69 := by decide
theorem zt_81 : (81 : Int32).toInt = 81 := by decide
theorem zt_82 : (82 : Int32).toInt = 82 := by decide
theorem zt_99 : (99 : Int32).toInt = 99 := by decide
theorem zt_100 : (100 : Int32).toInt = 100 := by decide
theorem zt_120 : (120 : Int32).toInt = 120 := by decide
theorem zt_1000 : (1000 : Int32).toInt = 1000 := by decide
theorem zt_9999 : (9999 : Int32).toInt = 9999 := by decide
theorem zt_10000 : (10000 : Int32).toInt = 10000 := by decide
theorem zs_ite0 {P : Prop} [Decidable P] : ((if P then (1 : Int32) else 0) = 0) = ¬ P := by
  by_cases h : P
  · simp [h]
  · simp [h]
theorem zi_in (x lo hi : Int32) : f_X12_in x lo hi = some ((if lo ≤ x ∧ x ≤ hi then (1 : Int32) else 0), ()) := by
  have h1 : (x < lo) ↔ ¬ lo ≤ x := by simp only [Int32.lt_iff_toInt_lt, Int32.le_iff_toInt_le]; omega
  have h2 : (hi < x) ↔ ¬ x ≤ hi := by simp only [Int32.lt_iff_toInt_lt, Int32.le_iff_toInt_le]; omega
  by_cases c1 : lo ≤ x
  · by_cases c2 : x ≤ hi
    · simp [f_X12_in, B_X12_in_0, h1, h2, c1, c2]
    · simp [f_X12_in, B_X12_in_0, h1, h2, c1, c2]
  · simp [f_X12_in, B_X12_in_0, h1, h2, c1]
theorem zi_b (P : Prop) [Decidable P] : (if ¬ ((if P then (1 : Int32) else 0) = 0 ∨ (if P then (1 : Int32) else 0) = 1) then (none : Option (Int32 × Unit)) else some ((if P then (1 : Int32) else 0), ())) = some ((if P then (1 : Int32) else 0), ()) := by
  by_cases h : P
  · simp [h]
  · simp [h]
theorem zi_isPerson (x : Int32) : f_X12_isPerson x = some ((if 0 ≤ x ∧ x ≤ 19 then (1 : Int32) else 0), ()) := by
  simp only [f_X12_isPerson, B_X12_isPerson_0, zi_in, zk_b2, Option.bind_some]
  exact zi_b _
theorem zi_isDay (x : Int32) : f_X12_isDay x = some ((if 0 ≤ x ∧ x ≤ 9999 then (1 : Int32) else 0), ()) := by
  simp only [f_X12_isDay, B_X12_isDay_0, zi_in, zk_b2, Option.bind_some]
  exact zi_b _
theorem zi_isShelf (x : Int32) : f_X12_isShelf x = some ((if 0 ≤ x ∧ x ≤ 5 then (1 : Int32) else 0), ()) := by
  simp only [f_X12_isShelf, B_X12_isShelf_0, zi_in, zk_b2, Option.bind_some]
  exact zi_b _
theorem zk_c14 (x : Int32) : x = 1 ∨ x = 2 ∨ x = 3 ∨ x = 4 ∨ (x < 1 ∨ 4 < x) := by
  simp only [zs_01, zs_cl, Int32.lt_iff_toInt_lt, Int32.le_iff_toInt_le, ← Int32.toInt_inj, zt_m2000000000, zt_m100, zt_m15, zt_m14, zt_m13, zt_m12, zt_m11, zt_m10, zt_m9, zt_m8, zt_m7, zt_m6, zt_m5, zt_m4, zt_m3, zt_m2, zt_m1, zt_0, zt_1, zt_2, zt_3, zt_4, zt_5, zt_6, zt_7, zt_8, zt_9, zt_10, zt_11, zt_12, zt_13, zt_14, zt_15, zt_16, zt_17, zt_18, zt_19, zt_20, zt_21, zt_22, zt_23, zt_24, zt_25, zt_26, zt_27, zt_28, zt_29, zt_30, zt_31, zt_32, zt_33, zt_34, zt_35, zt_36, zt_37, zt_38, zt_39, zt_40, zt_41, zt_42, zt_43, zt_44, zt_45, zt_46, zt_47, zt_48, zt_49, zt_50, zt_51, zt_52, zt_53, zt_54, zt_55, zt_56, zt_57, zt_58, zt_59, zt_60, zt_61, zt_62, zt_63, zt_64, zt_65, zt_66, zt_67, zt_68, zt_69, zt_81, zt_82, zt_99, zt_100, zt_120, zt_1000, zt_9999, zt_10000]
  omega
theorem zk_c6 (x : Int32) : x = 0 ∨ x = 1 ∨ x = 2 ∨ x = 3 ∨ x = 4 ∨ x = 5 ∨ (x < 0 ∨ 6 ≤ x) := by
  simp only [zs_01, zs_cl, Int32.lt_iff_toInt_lt, Int32.le_iff_toInt_le, ← Int32.toInt_inj, zt_m2000000000, zt_m100, zt_m15, zt_m14, zt_m13, zt_m12, zt_m11, zt_m10, zt_m9, zt_m8, zt_m7, zt_m6, zt_m5, zt_m4, zt_m3, zt_m2, zt_m1, zt_0, zt_1, zt_2, zt_3, zt_4, zt_5, zt_6, zt_7, zt_8, zt_9, zt_10, zt_11, zt_12, zt_13, zt_14, zt_15, zt_16, zt_17, zt_18, zt_19, zt_20, zt_21, zt_22, zt_23, zt_24, zt_25, zt_26, zt_27, zt_28, zt_29, zt_30, zt_31, zt_32, zt_33, zt_34, zt_35, zt_36, zt_37, zt_38, zt_39, zt_40, zt_41, zt_42, zt_43, zt_44, zt_45, zt_46, zt_47, zt_48, zt_49, zt_50, zt_51, zt_52, zt_53, zt_54, zt_55, zt_56, zt_57, zt_58, zt_59, zt_60, zt_61, zt_62, zt_63, zt_64, zt_65, zt_66, zt_67, zt_68, zt_69, zt_81, zt_82, zt_99, zt_100, zt_120, zt_1000, zt_9999, zt_10000]
  omega
theorem zk_c2 (x : Int32) : x = 0 ∨ x = 1 ∨ (¬ x = 0 ∧ ¬ x = 1) := by
  simp only [zs_01, zs_cl, Int32.lt_iff_toInt_lt, Int32.le_iff_toInt_le, ← Int32.toInt_inj, zt_m2000000000, zt_m100, zt_m15, zt_m14, zt_m13, zt_m12, zt_m11, zt_m10, zt_m9, zt_m8, zt_m7, zt_m6, zt_m5, zt_m4, zt_m3, zt_m2, zt_m1, zt_0, zt_1, zt_2, zt_3, zt_4, zt_5, zt_6, zt_7, zt_8, zt_9, zt_10, zt_11, zt_12, zt_13, zt_14, zt_15, zt_16, zt_17, zt_18, zt_19, zt_20, zt_21, zt_22, zt_23, zt_24, zt_25, zt_26, zt_27, zt_28, zt_29, zt_30, zt_31, zt_32, zt_33, zt_34, zt_35, zt_36, zt_37, zt_38, zt_39, zt_40, zt_41, zt_42, zt_43, zt_44, zt_45, zt_46, zt_47, zt_48, zt_49, zt_50, zt_51, zt_52, zt_53, zt_54, zt_55, zt_56, zt_57, zt_58, zt_59, zt_60, zt_61, zt_62, zt_63, zt_64, zt_65, zt_66, zt_67, zt_68, zt_69, zt_81, zt_82, zt_99, zt_100, zt_120, zt_1000, zt_9999, zt_10000]
  omega
theorem zs_m10 (x : Int32) : ¬ x < 0 → ¬ (x - x / 10 * 10 < 0) := by
  intro h
  have h1 : (x / 10).toInt = x.toInt / 10 := by
    rw [Int32.lt_iff_toInt_lt, zt_0] at h
    have h2 := Int32.toInt_lt x
    rw [Int32.toInt_div, zt_10, Int.tdiv_eq_ediv_of_nonneg (by omega)]
    rw [Int.bmod_eq_of_le (by omega) (by omega)]
  rw [Int32.lt_iff_toInt_lt, zt_0] at h ⊢
  have h2 := Int32.toInt_lt x
  rw [Int32.toInt_sub, Int32.toInt_mul, h1, zt_10]
  rw [Int.bmod_eq_of_le (n := x.toInt / 10 * 10) (by omega) (by omega)]
  rw [Int.bmod_eq_of_le (by omega) (by omega)]
  omega

set_option maxHeartbeats 4000000 in
set_option maxRecDepth 100000 in
theorem pe_shoe {g pf : Nat → Option Nat} {ae : Nat → Nat} {wb : Nat} (GF : ∀ t, t < 8 → g (24 + t) = some (ae 0)) (PF : ∀ j, j < 6 → pf j = some (ae (2 + 2 * j))) (a0 : Int32) (a1 : Int32) (a2 : Int32) (a3 : Int32) : ∃ R1 R2, f_X11_shoe  a0 a1 a2 a3 0 0 0 (fun _ => 0) (fun _ => 0) (fun _ => 0) (fun _ => 0) = some R1 ∧ f_X12_shoe  a0 a1 a2 a3 0 0 0 0 0 0 0 0 0 0 0 0 0 0 0 0 0 ((fun _ => 0)) ((fun _ => 0)) ((fun _ => 0)) ((fun _ => 0)) = some R2 ∧ R1.1 = R2.1 := by
  refine zk_go ?_
  clear GF PF
  simp only [f_X11_shoe, B_X11_shoe_0, f_X2_isShoe, B_X2_isShoe_0, f_X11_isDay, B_X11_isDay_0, f_X2_addShoe, B_X2_addShoe_0, zk_b2, zk_b3, zk_b4, zk_b5, zk_b6, zk_let]
  repeat' (first
    | (with_reducible refine zk_kI ?_; first | rfl | decide | (simp only [f_X12_shoe, B_X12_shoe_0, f_X12_isPerson, B_X12_isPerson_0, f_X12_in, B_X12_in_0, f_X12_isDay, B_X12_isDay_0, zk_b2, zk_b3, zk_b4, zk_b5, zk_b6, zk_let]; done) | (simp only [f_X12_shoe, B_X12_shoe_0, f_X12_isPerson, B_X12_isPerson_0, f_X12_in, B_X12_in_0, f_X12_isDay, B_X12_isDay_0, zk_b2, zk_b3, zk_b4, zk_b5, zk_b6, zk_let]; with_reducible refine (?_ : zk_k _ _)))
    | with_reducible refine zk_iteT (by assumption) ?_
    | with_reducible refine zk_iteF (by assumption) ?_
    | with_reducible refine zk_iteN (by assumption) ?_
    | with_reducible refine zk_iteT (by decide) ?_
    | with_reducible refine zk_iteF (by decide) ?_
    | with_reducible refine zk_biteT (by assumption) ?_
    | with_reducible refine zk_biteF (by assumption) ?_
    | with_reducible refine zk_biteN (by assumption) ?_
    | with_reducible refine zk_biteT (by decide) ?_
    | with_reducible refine zk_biteF (by decide) ?_
    | (with_reducible refine zk_bs ?_; try dsimp only)
    | with_reducible refine zk_bas ?_
    | with_reducible refine zk_ite (fun _ => ?_) (fun _ => ?_)
    | with_reducible refine zk_bite (fun _ => ?_) (fun _ => ?_)
    | (simp only [Option.bind_some, Option.bind_none, ↓reduceIte, reduceIte, eq_self, Bool.false_eq_true, or_true, true_or, or_false, false_or, or_self, and_true, true_and, and_false, false_and, not_true_eq_false, not_false_eq_true])
    | (exfalso; simp only [zs_01, zs_cl, Int32.lt_iff_toInt_lt, Int32.le_iff_toInt_le, ← Int32.toInt_inj, zt_m2000000000, zt_m100, zt_m15, zt_m14, zt_m13, zt_m12, zt_m11, zt_m10, zt_m9, zt_m8, zt_m7, zt_m6, zt_m5, zt_m4, zt_m3, zt_m2, zt_m1, zt_0, zt_1, zt_2, zt_3, zt_4, zt_5, zt_6, zt_7, zt_8, zt_9, zt_10, zt_11, zt_12, zt_13, zt_14, zt_15, zt_16, zt_17, zt_18, zt_19, zt_20, zt_21, zt_22, zt_23, zt_24, zt_25, zt_26, zt_27, zt_28, zt_29, zt_30, zt_31, zt_32, zt_33, zt_34, zt_35, zt_36, zt_37, zt_38, zt_39, zt_40, zt_41, zt_42, zt_43, zt_44, zt_45, zt_46, zt_47, zt_48, zt_49, zt_50, zt_51, zt_52, zt_53, zt_54, zt_55, zt_56, zt_57, zt_58, zt_59, zt_60, zt_61, zt_62, zt_63, zt_64, zt_65, zt_66, zt_67, zt_68, zt_69, zt_81, zt_82, zt_99, zt_100, zt_120, zt_1000, zt_9999, zt_10000] at *; omega)
    | (refine zk_bsE rfl ?_; try dsimp only)
    | (refine zk_kI ?_; first | rfl | decide | (simp only [f_X12_shoe, B_X12_shoe_0, f_X12_isPerson, B_X12_isPerson_0, f_X12_in, B_X12_in_0, f_X12_isDay, B_X12_isDay_0, zk_b2, zk_b3, zk_b4, zk_b5, zk_b6, zk_let]; with_reducible refine (?_ : zk_k _ _))))
set_option maxHeartbeats 4000000 in
set_option maxRecDepth 100000 in
theorem zc_sh {A : Nat} {pf : Nat → Option Nat} (a1 a2 : Int32) (h : ¬ a2 < 1) : G_X11_shoes A pf (-1) 0 0 4000 a1 a2 0 0 = some (0, ()) := by
  show B_X11_shoes_69 A (G_X11_shoes A pf (-1) 0 0 3999) pf (-1) 0 0 a1 a2 0 0 = some (0, ())
  unfold B_X11_shoes_69
  rw [if_neg (by simp only [zs_01, zs_cl, Int32.lt_iff_toInt_lt, Int32.le_iff_toInt_le, ← Int32.toInt_inj, zt_m2000000000, zt_m100, zt_m15, zt_m14, zt_m13, zt_m12, zt_m11, zt_m10, zt_m9, zt_m8, zt_m7, zt_m6, zt_m5, zt_m4, zt_m3, zt_m2, zt_m1, zt_0, zt_1, zt_2, zt_3, zt_4, zt_5, zt_6, zt_7, zt_8, zt_9, zt_10, zt_11, zt_12, zt_13, zt_14, zt_15, zt_16, zt_17, zt_18, zt_19, zt_20, zt_21, zt_22, zt_23, zt_24, zt_25, zt_26, zt_27, zt_28, zt_29, zt_30, zt_31, zt_32, zt_33, zt_34, zt_35, zt_36, zt_37, zt_38, zt_39, zt_40, zt_41, zt_42, zt_43, zt_44, zt_45, zt_46, zt_47, zt_48, zt_49, zt_50, zt_51, zt_52, zt_53, zt_54, zt_55, zt_56, zt_57, zt_58, zt_59, zt_60, zt_61, zt_62, zt_63, zt_64, zt_65, zt_66, zt_67, zt_68, zt_69, zt_81, zt_82, zt_99, zt_100, zt_120, zt_1000, zt_9999, zt_10000] at *; omega)]
  by_cases h1 : a1 < 0
  · rw [if_pos h1]
  · rw [if_neg h1, if_pos]
    have h2 : lg_cmp (a1.toInt64 + (4 : Int64) * (0 : Int32).toInt64 + (4 : Int64)) (0 : Int32).toInt64 = 1 := by
      have e : ∀ y : Int64, 0 < y → lg_cmp y 0 = 1 := by
        intro y hy
        have n1 : ¬ y < 0 := fun h => Int64.lt_irrefl (Int64.lt_trans hy h)
        have n2 : ¬ y = 0 := fun h => Int64.lt_irrefl (h ▸ hy)
        simp [lg_cmp, n1, n2, hy]
      have e2 : (0 : Int32).toInt64 = 0 := rfl
      rw [e2]
      apply e
      rw [Int32.lt_iff_toInt_lt, zt_0] at h1
      have h3 := Int32.toInt_lt a1
      rw [Int64.lt_iff_toInt_lt, Int64.toInt_add, Int64.toInt_add, Int32.toInt_toInt64]
      have e4 : ((4 : Int64) * 0).toInt = 0 := by decide
      have e5 : (4 : Int64).toInt = 4 := by decide
      have e6 : (0 : Int64).toInt = 0 := by decide
      rw [e4, e5, e6]
      rw [Int.bmod_eq_of_le (n := a1.toInt + 0) (by omega) (by omega)]
      rw [Int.bmod_eq_of_le (by omega) (by omega)]
      omega
    rw [h2]
    decide
set_option maxHeartbeats 4000000 in
set_option maxRecDepth 100000 in
theorem pe_shoes {g pf : Nat → Option Nat} {ae : Nat → Nat} {wb : Nat} (GF : ∀ t, t < 8 → g (24 + t) = some (ae 0)) (PF : ∀ j, j < 6 → pf j = some (ae (2 + 2 * j))) (j0 : Nat) (hj0 : j0 < 6) (a0 : Int32) (a1 : Int32) (a2 : Int32) (hp0 : (¬ a0 < 0 ∧ ¬ 6 ≤ a0) → a0.toNatClampNeg = j0) : ∃ R1 R2, f_X11_shoes (ae (2 + 2 * j0)) 4000 a0 a1 a2 pf (-1) 0 0 = some R1 ∧ f_X12_shoes  4000 a0 a1 a2 0 0 0 0 0 0 0 0 0 0 0 0 0 0 0 0 0 ((fun _ => 0)) ((fun _ => 0)) ((fun _ => 0)) ((fun _ => 0)) ((upd (upd (upd (upd (upd (upd (fun _ => 0) ((0 : Int32)).toNatClampNeg (-1 : Int32)) ((1 : Int32)).toNatClampNeg (-1 : Int32)) ((2 : Int32)).toNatClampNeg (-1 : Int32)) ((3 : Int32)).toNatClampNeg (-1 : Int32)) ((4 : Int32)).toNatClampNeg (-1 : Int32)) ((5 : Int32)).toNatClampNeg (-1 : Int32))) ((fun _ => 0)) ((fun _ => 0)) = some R2 ∧ R1.1 = R2.1 := by
  have hh : ∀ x : Int32, (¬ x < 0 ∧ ¬ 6 ≤ x) → (upd (upd (upd (upd (upd (upd (fun _ => 0) ((0 : Int32)).toNatClampNeg (-1 : Int32)) ((1 : Int32)).toNatClampNeg (-1 : Int32)) ((2 : Int32)).toNatClampNeg (-1 : Int32)) ((3 : Int32)).toNatClampNeg (-1 : Int32)) ((4 : Int32)).toNatClampNeg (-1 : Int32)) ((5 : Int32)).toNatClampNeg (-1 : Int32)) x.toNatClampNeg = -1 := by
    intro x hx
    rcases zk_c6 x with rfl | rfl | rfl | rfl | rfl | rfl | h
    · rfl
    · rfl
    · rfl
    · rfl
    · rfl
    · rfl
    · exact absurd hx (fun z => h.elim z.1 z.2)
  generalize (upd (upd (upd (upd (upd (upd (fun _ => 0) ((0 : Int32)).toNatClampNeg (-1 : Int32)) ((1 : Int32)).toNatClampNeg (-1 : Int32)) ((2 : Int32)).toNatClampNeg (-1 : Int32)) ((3 : Int32)).toNatClampNeg (-1 : Int32)) ((4 : Int32)).toNatClampNeg (-1 : Int32)) ((5 : Int32)).toNatClampNeg (-1 : Int32)) = HO at hh ⊢
  have hpf0 : (¬ a0 < 0 ∧ ¬ 6 ≤ a0) → pf a0.toNatClampNeg = some (ae (2 + 2 * j0)) := fun h => by rw [hp0 h]; exact PF j0 hj0
  generalize ae (2 + 2 * j0) = A0 at *
  clear GF PF
  by_cases hA0 : ¬ a0 < 0 ∧ ¬ 6 ≤ a0
  · have e0 := hpf0 hA0
    have f0 := hh a0 hA0
    clear hh hpf0
    refine zk_go ?_
    simp only [f_X11_shoes, B_X11_shoes_0, f_X11_placeAt, B_X11_placeAt_0, B_X11_shoes_46, B_X11_shoes_64, B_X11_shoes_69, zk_b2, zk_b3, zk_b4, zk_b5, zk_b6, zk_let]
    repeat' (first
      | (with_reducible refine zk_kI ?_; first | rfl | decide | (simp only [f_X12_shoes, B_X12_shoes_0, f_X12_isShelf, B_X12_isShelf_0, f_X12_in, B_X12_in_0, B_X12_shoes_43, B_X12_shoes_58, f_X12_isPerson, B_X12_isPerson_0, f_X12_isDay, B_X12_isDay_0, zk_b2, zk_b3, zk_b4, zk_b5, zk_b6, zk_let]; done) | (simp only [f_X12_shoes, B_X12_shoes_0, f_X12_isShelf, B_X12_isShelf_0, f_X12_in, B_X12_in_0, B_X12_shoes_43, B_X12_shoes_58, f_X12_isPerson, B_X12_isPerson_0, f_X12_isDay, B_X12_isDay_0, zk_b2, zk_b3, zk_b4, zk_b5, zk_b6, zk_let]; with_reducible refine (?_ : zk_k _ _)))
      | with_reducible refine zk_iteT (by assumption) ?_
      | with_reducible refine zk_iteF (by assumption) ?_
      | with_reducible refine zk_iteN (by assumption) ?_
      | with_reducible refine zk_iteT (by decide) ?_
      | with_reducible refine zk_iteF (by decide) ?_
      | with_reducible refine zk_biteT (by assumption) ?_
      | with_reducible refine zk_biteF (by assumption) ?_
      | with_reducible refine zk_biteN (by assumption) ?_
      | with_reducible refine zk_biteT (by decide) ?_
      | with_reducible refine zk_biteF (by decide) ?_
      | (with_reducible refine zk_bs ?_; try dsimp only)
      | with_reducible refine zk_bas ?_
      | with_reducible refine zk_ite (fun _ => ?_) (fun _ => ?_)
      | with_reducible refine zk_bite (fun _ => ?_) (fun _ => ?_)
      | (rw [zc_sh _ _ (by assumption)]) | (simp only [Option.bind_some, Option.bind_none, ↓reduceIte, reduceIte, eq_self, Bool.false_eq_true, or_true, true_or, or_false, false_or, or_self, and_true, true_and, and_false, false_and, not_true_eq_false, not_false_eq_true, e0, f0])
      | (exfalso; simp only [zs_01, zs_cl, Int32.lt_iff_toInt_lt, Int32.le_iff_toInt_le, ← Int32.toInt_inj, zt_m2000000000, zt_m100, zt_m15, zt_m14, zt_m13, zt_m12, zt_m11, zt_m10, zt_m9, zt_m8, zt_m7, zt_m6, zt_m5, zt_m4, zt_m3, zt_m2, zt_m1, zt_0, zt_1, zt_2, zt_3, zt_4, zt_5, zt_6, zt_7, zt_8, zt_9, zt_10, zt_11, zt_12, zt_13, zt_14, zt_15, zt_16, zt_17, zt_18, zt_19, zt_20, zt_21, zt_22, zt_23, zt_24, zt_25, zt_26, zt_27, zt_28, zt_29, zt_30, zt_31, zt_32, zt_33, zt_34, zt_35, zt_36, zt_37, zt_38, zt_39, zt_40, zt_41, zt_42, zt_43, zt_44, zt_45, zt_46, zt_47, zt_48, zt_49, zt_50, zt_51, zt_52, zt_53, zt_54, zt_55, zt_56, zt_57, zt_58, zt_59, zt_60, zt_61, zt_62, zt_63, zt_64, zt_65, zt_66, zt_67, zt_68, zt_69, zt_81, zt_82, zt_99, zt_100, zt_120, zt_1000, zt_9999, zt_10000] at *; omega)
      | (refine zk_bsE rfl ?_; try dsimp only)
      | (refine zk_kI ?_; first | rfl | decide | (simp only [f_X12_shoes, B_X12_shoes_0, f_X12_isShelf, B_X12_isShelf_0, f_X12_in, B_X12_in_0, B_X12_shoes_43, B_X12_shoes_58, f_X12_isPerson, B_X12_isPerson_0, f_X12_isDay, B_X12_isDay_0, zk_b2, zk_b3, zk_b4, zk_b5, zk_b6, zk_let]; with_reducible refine (?_ : zk_k _ _))))
  · clear hh hpf0
    refine zk_go ?_
    simp only [f_X11_shoes, B_X11_shoes_0, f_X11_placeAt, B_X11_placeAt_0, B_X11_shoes_46, B_X11_shoes_64, B_X11_shoes_69, zk_b2, zk_b3, zk_b4, zk_b5, zk_b6, zk_let]
    repeat' (first
      | (with_reducible refine zk_kI ?_; first | rfl | decide | (simp only [f_X12_shoes, B_X12_shoes_0, f_X12_isShelf, B_X12_isShelf_0, f_X12_in, B_X12_in_0, B_X12_shoes_43, B_X12_shoes_58, f_X12_isPerson, B_X12_isPerson_0, f_X12_isDay, B_X12_isDay_0, zk_b2, zk_b3, zk_b4, zk_b5, zk_b6, zk_let]; done) | (simp only [f_X12_shoes, B_X12_shoes_0, f_X12_isShelf, B_X12_isShelf_0, f_X12_in, B_X12_in_0, B_X12_shoes_43, B_X12_shoes_58, f_X12_isPerson, B_X12_isPerson_0, f_X12_isDay, B_X12_isDay_0, zk_b2, zk_b3, zk_b4, zk_b5, zk_b6, zk_let]; with_reducible refine (?_ : zk_k _ _)))
      | with_reducible refine zk_iteT (by assumption) ?_
      | with_reducible refine zk_iteF (by assumption) ?_
      | with_reducible refine zk_iteN (by assumption) ?_
      | with_reducible refine zk_iteT (by decide) ?_
      | with_reducible refine zk_iteF (by decide) ?_
      | with_reducible refine zk_biteT (by assumption) ?_
      | with_reducible refine zk_biteF (by assumption) ?_
      | with_reducible refine zk_biteN (by assumption) ?_
      | with_reducible refine zk_biteT (by decide) ?_
      | with_reducible refine zk_biteF (by decide) ?_
      | (with_reducible refine zk_bs ?_; try dsimp only)
      | with_reducible refine zk_bas ?_
      | with_reducible refine zk_ite (fun _ => ?_) (fun _ => ?_)
      | with_reducible refine zk_bite (fun _ => ?_) (fun _ => ?_)
      | (rw [zc_sh _ _ (by assumption)]) | (simp only [Option.bind_some, Option.bind_none, ↓reduceIte, reduceIte, eq_self, Bool.false_eq_true, or_true, true_or, or_false, false_or, or_self, and_true, true_and, and_false, false_and, not_true_eq_false, not_false_eq_true])
      | (exfalso; simp only [zs_01, zs_cl, Int32.lt_iff_toInt_lt, Int32.le_iff_toInt_le, ← Int32.toInt_inj, zt_m2000000000, zt_m100, zt_m15, zt_m14, zt_m13, zt_m12, zt_m11, zt_m10, zt_m9, zt_m8, zt_m7, zt_m6, zt_m5, zt_m4, zt_m3, zt_m2, zt_m1, zt_0, zt_1, zt_2, zt_3, zt_4, zt_5, zt_6, zt_7, zt_8, zt_9, zt_10, zt_11, zt_12, zt_13, zt_14, zt_15, zt_16, zt_17, zt_18, zt_19, zt_20, zt_21, zt_22, zt_23, zt_24, zt_25, zt_26, zt_27, zt_28, zt_29, zt_30, zt_31, zt_32, zt_33, zt_34, zt_35, zt_36, zt_37, zt_38, zt_39, zt_40, zt_41, zt_42, zt_43, zt_44, zt_45, zt_46, zt_47, zt_48, zt_49, zt_50, zt_51, zt_52, zt_53, zt_54, zt_55, zt_56, zt_57, zt_58, zt_59, zt_60, zt_61, zt_62, zt_63, zt_64, zt_65, zt_66, zt_67, zt_68, zt_69, zt_81, zt_82, zt_99, zt_100, zt_120, zt_1000, zt_9999, zt_10000] at *; omega)
      | (refine zk_bsE rfl ?_; try dsimp only)
      | (refine zk_kI ?_; first | rfl | decide | (simp only [f_X12_shoes, B_X12_shoes_0, f_X12_isShelf, B_X12_isShelf_0, f_X12_in, B_X12_in_0, B_X12_shoes_43, B_X12_shoes_58, f_X12_isPerson, B_X12_isPerson_0, f_X12_isDay, B_X12_isDay_0, zk_b2, zk_b3, zk_b4, zk_b5, zk_b6, zk_let]; with_reducible refine (?_ : zk_k _ _))))
set_option maxHeartbeats 4000000 in
set_option maxRecDepth 100000 in
theorem pe_ofShoe {g pf : Nat → Option Nat} {ae : Nat → Nat} {wb : Nat} (GF : ∀ t, t < 8 → g (24 + t) = some (ae 0)) (PF : ∀ j, j < 6 → pf j = some (ae (2 + 2 * j))) (a0 : Int32) (a1 : Int32) : ∃ R1 R2, f_X11_ofShoe  a0 a1 0 0 0 (fun _ => 0) (fun _ => 0) (fun _ => 0) (fun _ => 0) = some R1 ∧ f_X12_ofShoe  a0 a1 0 0 0 0 0 0 0 0 0 0 0 0 0 0 0 0 0 ((fun _ => 0)) ((fun _ => 0)) ((fun _ => 0)) ((fun _ => 0)) = some R2 ∧ R1.1 = R2.1 := by
  refine zk_go ?_
  clear GF PF
  simp only [f_X11_ofShoe, B_X11_ofShoe_0, f_X11_isShoeNumber, B_X11_isShoeNumber_0, zk_b2, zk_b3, zk_b4, zk_b5, zk_b6, zk_let]
  repeat' (first
    | (with_reducible refine zk_kI ?_; first | rfl | decide | (simp only [f_X12_ofShoe, B_X12_ofShoe_0, f_X12_isShoe, B_X12_isShoe_0, f_X12_in, B_X12_in_0, zk_b2, zk_b3, zk_b4, zk_b5, zk_b6, zk_let]; done) | (simp only [f_X12_ofShoe, B_X12_ofShoe_0, f_X12_isShoe, B_X12_isShoe_0, f_X12_in, B_X12_in_0, zk_b2, zk_b3, zk_b4, zk_b5, zk_b6, zk_let]; with_reducible refine (?_ : zk_k _ _)))
    | with_reducible refine zk_iteT (by assumption) ?_
    | with_reducible refine zk_iteF (by assumption) ?_
    | with_reducible refine zk_iteN (by assumption) ?_
    | with_reducible refine zk_iteT (by decide) ?_
    | with_reducible refine zk_iteF (by decide) ?_
    | with_reducible refine zk_biteT (by assumption) ?_
    | with_reducible refine zk_biteF (by assumption) ?_
    | with_reducible refine zk_biteN (by assumption) ?_
    | with_reducible refine zk_biteT (by decide) ?_
    | with_reducible refine zk_biteF (by decide) ?_
    | (with_reducible refine zk_bs ?_; try dsimp only)
    | with_reducible refine zk_bas ?_
    | with_reducible refine zk_ite (fun _ => ?_) (fun _ => ?_)
    | with_reducible refine zk_bite (fun _ => ?_) (fun _ => ?_)
    | (simp only [Option.bind_some, Option.bind_none, ↓reduceIte, reduceIte, eq_self, Bool.false_eq_true, or_true, true_or, or_false, false_or, or_self, and_true, true_and, and_false, false_and, not_true_eq_false, not_false_eq_true])
    | (exfalso; simp only [zs_01, zs_cl, Int32.lt_iff_toInt_lt, Int32.le_iff_toInt_le, ← Int32.toInt_inj, zt_m2000000000, zt_m100, zt_m15, zt_m14, zt_m13, zt_m12, zt_m11, zt_m10, zt_m9, zt_m8, zt_m7, zt_m6, zt_m5, zt_m4, zt_m3, zt_m2, zt_m1, zt_0, zt_1, zt_2, zt_3, zt_4, zt_5, zt_6, zt_7, zt_8, zt_9, zt_10, zt_11, zt_12, zt_13, zt_14, zt_15, zt_16, zt_17, zt_18, zt_19, zt_20, zt_21, zt_22, zt_23, zt_24, zt_25, zt_26, zt_27, zt_28, zt_29, zt_30, zt_31, zt_32, zt_33, zt_34, zt_35, zt_36, zt_37, zt_38, zt_39, zt_40, zt_41, zt_42, zt_43, zt_44, zt_45, zt_46, zt_47, zt_48, zt_49, zt_50, zt_51, zt_52, zt_53, zt_54, zt_55, zt_56, zt_57, zt_58, zt_59, zt_60, zt_61, zt_62, zt_63, zt_64, zt_65, zt_66, zt_67, zt_68, zt_69, zt_81, zt_82, zt_99, zt_100, zt_120, zt_1000, zt_9999, zt_10000] at *; omega)
    | (refine zk_bsE rfl ?_; try dsimp only)
    | (refine zk_kI ?_; first | rfl | decide | (simp only [f_X12_ofShoe, B_X12_ofShoe_0, f_X12_isShoe, B_X12_isShoe_0, f_X12_in, B_X12_in_0, zk_b2, zk_b3, zk_b4, zk_b5, zk_b6, zk_let]; with_reducible refine (?_ : zk_k _ _))))
set_option maxHeartbeats 4000000 in
set_option maxRecDepth 100000 in
theorem pe_moveShoe {g pf : Nat → Option Nat} {ae : Nat → Nat} {wb : Nat} (GF : ∀ t, t < 8 → g (24 + t) = some (ae 0)) (PF : ∀ j, j < 6 → pf j = some (ae (2 + 2 * j))) (a0 : Int32) (a1 : Int32) : ∃ R1 R2, f_X11_moveShoe  a0 a1 0 0 0 (fun _ => 0) = some R1 ∧ f_X12_moveShoe  a0 a1 0 0 0 0 0 0 0 0 0 0 0 0 0 0 0 0 0 ((fun _ => 0)) ((fun _ => 0)) ((fun _ => 0)) ((fun _ => 0)) ((fun _ => 0)) ((fun _ => 0)) ((fun _ => 0)) = some R2 ∧ R1.1 = R2.1 := by
  refine zk_go ?_
  clear GF PF
  simp only [f_X11_moveShoe, B_X11_moveShoe_0, f_X11_isShoeNumber, B_X11_isShoeNumber_0, f_X11_isDay, B_X11_isDay_0, zk_b2, zk_b3, zk_b4, zk_b5, zk_b6, zk_let]
  repeat' (first
    | (with_reducible refine zk_kI ?_; first | rfl | decide | (simp only [f_X12_moveShoe, B_X12_moveShoe_0, f_X12_isShoe, B_X12_isShoe_0, f_X12_in, B_X12_in_0, f_X12_isDay, B_X12_isDay_0, zk_b2, zk_b3, zk_b4, zk_b5, zk_b6, zk_let]; done) | (simp only [f_X12_moveShoe, B_X12_moveShoe_0, f_X12_isShoe, B_X12_isShoe_0, f_X12_in, B_X12_in_0, f_X12_isDay, B_X12_isDay_0, zk_b2, zk_b3, zk_b4, zk_b5, zk_b6, zk_let]; with_reducible refine (?_ : zk_k _ _)))
    | with_reducible refine zk_iteT (by assumption) ?_
    | with_reducible refine zk_iteF (by assumption) ?_
    | with_reducible refine zk_iteN (by assumption) ?_
    | with_reducible refine zk_iteT (by decide) ?_
    | with_reducible refine zk_iteF (by decide) ?_
    | with_reducible refine zk_biteT (by assumption) ?_
    | with_reducible refine zk_biteF (by assumption) ?_
    | with_reducible refine zk_biteN (by assumption) ?_
    | with_reducible refine zk_biteT (by decide) ?_
    | with_reducible refine zk_biteF (by decide) ?_
    | (with_reducible refine zk_bs ?_; try dsimp only)
    | with_reducible refine zk_bas ?_
    | with_reducible refine zk_ite (fun _ => ?_) (fun _ => ?_)
    | with_reducible refine zk_bite (fun _ => ?_) (fun _ => ?_)
    | (simp only [Option.bind_some, Option.bind_none, ↓reduceIte, reduceIte, eq_self, Bool.false_eq_true, or_true, true_or, or_false, false_or, or_self, and_true, true_and, and_false, false_and, not_true_eq_false, not_false_eq_true])
    | (exfalso; simp only [zs_01, zs_cl, Int32.lt_iff_toInt_lt, Int32.le_iff_toInt_le, ← Int32.toInt_inj, zt_m2000000000, zt_m100, zt_m15, zt_m14, zt_m13, zt_m12, zt_m11, zt_m10, zt_m9, zt_m8, zt_m7, zt_m6, zt_m5, zt_m4, zt_m3, zt_m2, zt_m1, zt_0, zt_1, zt_2, zt_3, zt_4, zt_5, zt_6, zt_7, zt_8, zt_9, zt_10, zt_11, zt_12, zt_13, zt_14, zt_15, zt_16, zt_17, zt_18, zt_19, zt_20, zt_21, zt_22, zt_23, zt_24, zt_25, zt_26, zt_27, zt_28, zt_29, zt_30, zt_31, zt_32, zt_33, zt_34, zt_35, zt_36, zt_37, zt_38, zt_39, zt_40, zt_41, zt_42, zt_43, zt_44, zt_45, zt_46, zt_47, zt_48, zt_49, zt_50, zt_51, zt_52, zt_53, zt_54, zt_55, zt_56, zt_57, zt_58, zt_59, zt_60, zt_61, zt_62, zt_63, zt_64, zt_65, zt_66, zt_67, zt_68, zt_69, zt_81, zt_82, zt_99, zt_100, zt_120, zt_1000, zt_9999, zt_10000] at *; omega)
    | (refine zk_bsE rfl ?_; try dsimp only)
    | (refine zk_kI ?_; first | rfl | decide | (simp only [f_X12_moveShoe, B_X12_moveShoe_0, f_X12_isShoe, B_X12_isShoe_0, f_X12_in, B_X12_in_0, f_X12_isDay, B_X12_isDay_0, zk_b2, zk_b3, zk_b4, zk_b5, zk_b6, zk_let]; with_reducible refine (?_ : zk_k _ _))))
set_option maxHeartbeats 4000000 in
set_option maxRecDepth 100000 in
theorem pe_bound {g pf : Nat → Option Nat} {ae : Nat → Nat} {wb : Nat} (GF : ∀ t, t < 8 → g (24 + t) = some (ae 0)) (PF : ∀ j, j < 6 → pf j = some (ae (2 + 2 * j))) (a0 : Int32) (a1 : Int32) (a2 : Int32) (a3 : Int32) : ∃ R1 R2, f_X11_bound  a0 a1 a2 a3 0 0 0 (fun _ => 0) (fun _ => 0) (fun _ => 0) 0 0 0 (fun _ => 0) (fun _ => 0) = some R1 ∧ f_X12_bound  4000 a0 a1 a2 a3 0 0 0 0 0 0 0 0 0 0 0 0 0 0 0 0 0 ((fun _ => 0)) ((fun _ => 0)) ((fun _ => 0)) ((fun _ => 0)) ((fun _ => 0)) ((fun _ => 0)) ((fun _ => 0)) ((fun _ => 0)) ((fun _ => 0)) ((fun _ => 0)) ((fun _ => 0)) ((fun _ => 0)) ((fun _ => 0)) ((fun _ => 0)) = some R2 ∧ R1.1 = R2.1 := by sorry
set_option maxHeartbeats 4000000 in
set_option maxRecDepth 100000 in
theorem pe_claim {g pf : Nat → Option Nat} {ae : Nat → Nat} {wb : Nat} (GF : ∀ t, t < 8 → g (24 + t) = some (ae 0)) (PF : ∀ j, j < 6 → pf j = some (ae (2 + 2 * j))) (a0 : Int32) (a1 : Int32) (a2 : Int32) : ∃ R1 R2, f_X11_claim  a0 a1 a2 0 0 0 (fun _ => 0) (fun _ => 0) (fun _ => 0) (fun _ => 0) = some R1 ∧ f_X12_claim  a0 a1 a2 0 0 0 0 0 0 0 0 0 0 0 0 0 0 0 0 0 ((fun _ => 0)) ((fun _ => 0)) ((fun _ => 0)) ((fun _ => 0)) = some R2 ∧ R1.1 = R2.1 := by
  refine zk_go ?_
  clear GF PF
  simp only [f_X11_claim, B_X11_claim_0, f_X11_isPair, B_X11_isPair_0, f_X2_addClaim, B_X2_addClaim_0, zk_b2, zk_b3, zk_b4, zk_b5, zk_b6, zk_let]
  repeat' (first
    | (with_reducible refine zk_kI ?_; first | rfl | decide | (simp only [f_X12_claim, B_X12_claim_0, f_X12_isPair, B_X12_isPair_0, f_X12_in, B_X12_in_0, zk_b2, zk_b3, zk_b4, zk_b5, zk_b6, zk_let]; done) | (simp only [f_X12_claim, B_X12_claim_0, f_X12_isPair, B_X12_isPair_0, f_X12_in, B_X12_in_0, zk_b2, zk_b3, zk_b4, zk_b5, zk_b6, zk_let]; with_reducible refine (?_ : zk_k _ _)))
    | with_reducible refine zk_iteT (by assumption) ?_
    | with_reducible refine zk_iteF (by assumption) ?_
    | with_reducible refine zk_iteN (by assumption) ?_
    | with_reducible refine zk_iteT (by decide) ?_
    | with_reducible refine zk_iteF (by decide) ?_
    | with_reducible refine zk_biteT (by assumption) ?_
    | with_reducible refine zk_biteF (by assumption) ?_
    | with_reducible refine zk_biteN (by assumption) ?_
    | with_reducible refine zk_biteT (by decide) ?_
    | with_reducible refine zk_biteF (by decide) ?_
    | (with_reducible refine zk_bs ?_; try dsimp only)
    | with_reducible refine zk_bas ?_
    | with_reducible refine zk_ite (fun _ => ?_) (fun _ => ?_)
    | with_reducible refine zk_bite (fun _ => ?_) (fun _ => ?_)
    | (simp only [Option.bind_some, Option.bind_none, ↓reduceIte, reduceIte, eq_self, Bool.false_eq_true, or_true, true_or, or_false, false_or, or_self, and_true, true_and, and_false, false_and, not_true_eq_false, not_false_eq_true])
    | (exfalso; simp only [zs_01, zs_cl, Int32.lt_iff_toInt_lt, Int32.le_iff_toInt_le, ← Int32.toInt_inj, zt_m2000000000, zt_m100, zt_m15, zt_m14, zt_m13, zt_m12, zt_m11, zt_m10, zt_m9, zt_m8, zt_m7, zt_m6, zt_m5, zt_m4, zt_m3, zt_m2, zt_m1, zt_0, zt_1, zt_2, zt_3, zt_4, zt_5, zt_6, zt_7, zt_8, zt_9, zt_10, zt_11, zt_12, zt_13, zt_14, zt_15, zt_16, zt_17, zt_18, zt_19, zt_20, zt_21, zt_22, zt_23, zt_24, zt_25, zt_26, zt_27, zt_28, zt_29, zt_30, zt_31, zt_32, zt_33, zt_34, zt_35, zt_36, zt_37, zt_38, zt_39, zt_40, zt_41, zt_42, zt_43, zt_44, zt_45, zt_46, zt_47, zt_48, zt_49, zt_50, zt_51, zt_52, zt_53, zt_54, zt_55, zt_56, zt_57, zt_58, zt_59, zt_60, zt_61, zt_62, zt_63, zt_64, zt_65, zt_66, zt_67, zt_68, zt_69, zt_81, zt_82, zt_99, zt_100, zt_120, zt_1000, zt_9999, zt_10000] at *; omega)
    | (refine zk_bsE rfl ?_; try dsimp only)
    | (refine zk_kI ?_; first | rfl | decide | (simp only [f_X12_claim, B_X12_claim_0, f_X12_isPair, B_X12_isPair_0, f_X12_in, B_X12_in_0, zk_b2, zk_b3, zk_b4, zk_b5, zk_b6, zk_let]; with_reducible refine (?_ : zk_k _ _))))
set_option maxHeartbeats 4000000 in
set_option maxRecDepth 100000 in
theorem pe_ofClaim {g pf : Nat → Option Nat} {ae : Nat → Nat} {wb : Nat} (GF : ∀ t, t < 8 → g (24 + t) = some (ae 0)) (PF : ∀ j, j < 6 → pf j = some (ae (2 + 2 * j))) (a0 : Int32) (a1 : Int32) : ∃ R1 R2, f_X11_ofClaim  a0 a1 0 0 0 (fun _ => 0) (fun _ => 0) (fun _ => 0) (fun _ => 0) = some R1 ∧ f_X12_ofClaim  a0 a1 0 0 0 0 0 0 0 0 0 0 0 0 0 0 0 0 0 ((fun _ => 0)) ((fun _ => 0)) ((fun _ => 0)) ((fun _ => 0)) = some R2 ∧ R1.1 = R2.1 := by
  refine zk_go ?_
  clear GF PF
  simp only [f_X11_ofClaim, B_X11_ofClaim_0, f_X11_isClaim, B_X11_isClaim_0, zk_b2, zk_b3, zk_b4, zk_b5, zk_b6, zk_let]
  repeat' (first
    | (with_reducible refine zk_kI ?_; first | rfl | decide | (simp only [f_X12_ofClaim, B_X12_ofClaim_0, f_X12_isClaim, B_X12_isClaim_0, f_X12_in, B_X12_in_0, zk_b2, zk_b3, zk_b4, zk_b5, zk_b6, zk_let]; done) | (simp only [f_X12_ofClaim, B_X12_ofClaim_0, f_X12_isClaim, B_X12_isClaim_0, f_X12_in, B_X12_in_0, zk_b2, zk_b3, zk_b4, zk_b5, zk_b6, zk_let]; with_reducible refine (?_ : zk_k _ _)))
    | with_reducible refine zk_iteT (by assumption) ?_
    | with_reducible refine zk_iteF (by assumption) ?_
    | with_reducible refine zk_iteN (by assumption) ?_
    | with_reducible refine zk_iteT (by decide) ?_
    | with_reducible refine zk_iteF (by decide) ?_
    | with_reducible refine zk_biteT (by assumption) ?_
    | with_reducible refine zk_biteF (by assumption) ?_
    | with_reducible refine zk_biteN (by assumption) ?_
    | with_reducible refine zk_biteT (by decide) ?_
    | with_reducible refine zk_biteF (by decide) ?_
    | (with_reducible refine zk_bs ?_; try dsimp only)
    | with_reducible refine zk_bas ?_
    | with_reducible refine zk_ite (fun _ => ?_) (fun _ => ?_)
    | with_reducible refine zk_bite (fun _ => ?_) (fun _ => ?_)
    | (simp only [Option.bind_some, Option.bind_none, ↓reduceIte, reduceIte, eq_self, Bool.false_eq_true, or_true, true_or, or_false, false_or, or_self, and_true, true_and, and_false, false_and, not_true_eq_false, not_false_eq_true])
    | (exfalso; simp only [zs_01, zs_cl, Int32.lt_iff_toInt_lt, Int32.le_iff_toInt_le, ← Int32.toInt_inj, zt_m2000000000, zt_m100, zt_m15, zt_m14, zt_m13, zt_m12, zt_m11, zt_m10, zt_m9, zt_m8, zt_m7, zt_m6, zt_m5, zt_m4, zt_m3, zt_m2, zt_m1, zt_0, zt_1, zt_2, zt_3, zt_4, zt_5, zt_6, zt_7, zt_8, zt_9, zt_10, zt_11, zt_12, zt_13, zt_14, zt_15, zt_16, zt_17, zt_18, zt_19, zt_20, zt_21, zt_22, zt_23, zt_24, zt_25, zt_26, zt_27, zt_28, zt_29, zt_30, zt_31, zt_32, zt_33, zt_34, zt_35, zt_36, zt_37, zt_38, zt_39, zt_40, zt_41, zt_42, zt_43, zt_44, zt_45, zt_46, zt_47, zt_48, zt_49, zt_50, zt_51, zt_52, zt_53, zt_54, zt_55, zt_56, zt_57, zt_58, zt_59, zt_60, zt_61, zt_62, zt_63, zt_64, zt_65, zt_66, zt_67, zt_68, zt_69, zt_81, zt_82, zt_99, zt_100, zt_120, zt_1000, zt_9999, zt_10000] at *; omega)
    | (refine zk_bsE rfl ?_; try dsimp only)
    | (refine zk_kI ?_; first | rfl | decide | (simp only [f_X12_ofClaim, B_X12_ofClaim_0, f_X12_isClaim, B_X12_isClaim_0, f_X12_in, B_X12_in_0, zk_b2, zk_b3, zk_b4, zk_b5, zk_b6, zk_let]; with_reducible refine (?_ : zk_k _ _))))
set_option maxHeartbeats 4000000 in
set_option maxRecDepth 100000 in
theorem pe_feed {g pf : Nat → Option Nat} {ae : Nat → Nat} {wb : Nat} (GF : ∀ t, t < 8 → g (24 + t) = some (ae 0)) (PF : ∀ j, j < 6 → pf j = some (ae (2 + 2 * j))) (a0 : Int32) (a1 : Int32) : ∃ R1 R2, f_X11_feed  4000 a0 a1 0 zw_3.2 = some R1 ∧ f_X12_feed  4000 a0 a1 0 0 0 0 0 0 0 0 0 0 0 0 0 0 0 0 0 ((fun _ => 0)) = some R2 ∧ R1.1 = R2.1 := by
  rcases zk_c14 a0 with rfl | rfl | rfl | rfl | h14
  · exact ⟨_, _, rfl, rfl, rfl⟩
  · exact ⟨_, _, rfl, rfl, rfl⟩
  · exact ⟨_, _, rfl, rfl, rfl⟩
  · exact ⟨_, _, rfl, rfl, rfl⟩
  refine zk_go ?_
  clear GF PF
  simp only [f_X11_feed, B_X11_feed_0, B_X11_feed_31, zk_b2, zk_b3, zk_b4, zk_b5, zk_b6, zk_let]
  repeat' (first
    | (with_reducible refine zk_kI ?_; first | rfl | decide | (simp only [f_X12_feed, B_X12_feed_0, f_X12_in, B_X12_in_0, B_X12_feed_27, zk_b2, zk_b3, zk_b4, zk_b5, zk_b6, zk_let]; done) | (simp only [f_X12_feed, B_X12_feed_0, f_X12_in, B_X12_in_0, B_X12_feed_27, zk_b2, zk_b3, zk_b4, zk_b5, zk_b6, zk_let]; with_reducible refine (?_ : zk_k _ _)))
    | with_reducible refine zk_iteT (by assumption) ?_
    | with_reducible refine zk_iteF (by assumption) ?_
    | with_reducible refine zk_iteN (by assumption) ?_
    | with_reducible refine zk_iteT (by decide) ?_
    | with_reducible refine zk_iteF (by decide) ?_
    | with_reducible refine zk_biteT (by assumption) ?_
    | with_reducible refine zk_biteF (by assumption) ?_
    | with_reducible refine zk_biteN (by assumption) ?_
    | with_reducible refine zk_biteT (by decide) ?_
    | with_reducible refine zk_biteF (by decide) ?_
    | (with_reducible refine zk_bs ?_; try dsimp only)
    | with_reducible refine zk_bas ?_
    | with_reducible refine zk_ite (fun _ => ?_) (fun _ => ?_)
    | with_reducible refine zk_bite (fun _ => ?_) (fun _ => ?_)
    | (simp only [Option.bind_some, Option.bind_none, ↓reduceIte, reduceIte, eq_self, Bool.false_eq_true, or_true, true_or, or_false, false_or, or_self, and_true, true_and, and_false, false_and, not_true_eq_false, not_false_eq_true])
    | (exfalso; simp only [zs_01, zs_cl, Int32.lt_iff_toInt_lt, Int32.le_iff_toInt_le, ← Int32.toInt_inj, zt_m2000000000, zt_m100, zt_m15, zt_m14, zt_m13, zt_m12, zt_m11, zt_m10, zt_m9, zt_m8, zt_m7, zt_m6, zt_m5, zt_m4, zt_m3, zt_m2, zt_m1, zt_0, zt_1, zt_2, zt_3, zt_4, zt_5, zt_6, zt_7, zt_8, zt_9, zt_10, zt_11, zt_12, zt_13, zt_14, zt_15, zt_16, zt_17, zt_18, zt_19, zt_20, zt_21, zt_22, zt_23, zt_24, zt_25, zt_26, zt_27, zt_28, zt_29, zt_30, zt_31, zt_32, zt_33, zt_34, zt_35, zt_36, zt_37, zt_38, zt_39, zt_40, zt_41, zt_42, zt_43, zt_44, zt_45, zt_46, zt_47, zt_48, zt_49, zt_50, zt_51, zt_52, zt_53, zt_54, zt_55, zt_56, zt_57, zt_58, zt_59, zt_60, zt_61, zt_62, zt_63, zt_64, zt_65, zt_66, zt_67, zt_68, zt_69, zt_81, zt_82, zt_99, zt_100, zt_120, zt_1000, zt_9999, zt_10000] at *; omega)
    | (refine zk_bsE rfl ?_; try dsimp only)
    | (refine zk_kI ?_; first | rfl | decide | (simp only [f_X12_feed, B_X12_feed_0, f_X12_in, B_X12_in_0, B_X12_feed_27, zk_b2, zk_b3, zk_b4, zk_b5, zk_b6, zk_let]; with_reducible refine (?_ : zk_k _ _))))
set_option maxHeartbeats 4000000 in
set_option maxRecDepth 100000 in
theorem pe_suit {g pf : Nat → Option Nat} {ae : Nat → Nat} {wb : Nat} (GF : ∀ t, t < 8 → g (24 + t) = some (ae 0)) (PF : ∀ j, j < 6 → pf j = some (ae (2 + 2 * j)))  : ∃ R1 R2, f_X11_suitB    = some R1 ∧ f_X12_suit  4000  0 0 0 0 0 0 0 0 0 0 0 0 0 0 0 0 0 ((fun _ => 0)) ((fun _ => 0)) ((fun _ => 0)) ((fun _ => 0)) ((fun _ => 0)) ((fun _ => 0)) ((fun _ => 0)) ((fun _ => 0)) ((fun _ => 0)) ((fun _ => 0)) ((fun _ => 0)) ((fun _ => 0)) = some R2 ∧ R1.1 = R2.1 := by
  exact ⟨_, _, rfl, rfl, rfl⟩
set_option maxHeartbeats 4000000 in
set_option maxRecDepth 100000 in
theorem pe_ofSuit {g pf : Nat → Option Nat} {ae : Nat → Nat} {wb : Nat} (GF : ∀ t, t < 8 → g (24 + t) = some (ae 0)) (PF : ∀ j, j < 6 → pf j = some (ae (2 + 2 * j))) (a0 : Int32) (a1 : Int32) : ∃ R1 R2, f_X11_ofSuit  a0 a1 0 0 0 = some R1 ∧ f_X12_ofSuit  4000 a0 a1 0 0 0 0 0 0 0 0 0 0 0 0 0 0 0 0 0 ((fun _ => 0)) ((fun _ => 0)) ((fun _ => 0)) ((fun _ => 0)) ((fun _ => 0)) ((fun _ => 0)) ((fun _ => 0)) ((fun _ => 0)) ((fun _ => 0)) ((fun _ => 0)) = some R2 ∧ R1.1 = R2.1 := by
  refine zk_go ?_
  clear GF PF
  simp only [f_X11_ofSuit, B_X11_ofSuit_0, f_X2_suitAt, B_X2_suitAt_0, zk_b2, zk_b3, zk_b4, zk_b5, zk_b6, zk_let]
  repeat' (first
    | (with_reducible refine zk_kI ?_; first | rfl | decide | (simp only [f_X12_ofSuit, B_X12_ofSuit_0, f_X12_isSuit, B_X12_isSuit_0, f_X12_in, B_X12_in_0, B_X12_ofSuit_77, B_X12_ofSuit_105, zk_b2, zk_b3, zk_b4, zk_b5, zk_b6, zk_let]; done) | (simp only [f_X12_ofSuit, B_X12_ofSuit_0, f_X12_isSuit, B_X12_isSuit_0, f_X12_in, B_X12_in_0, B_X12_ofSuit_77, B_X12_ofSuit_105, zk_b2, zk_b3, zk_b4, zk_b5, zk_b6, zk_let]; with_reducible refine (?_ : zk_k _ _)))
    | with_reducible refine zk_iteT (by assumption) ?_
    | with_reducible refine zk_iteF (by assumption) ?_
    | with_reducible refine zk_iteN (by assumption) ?_
    | with_reducible refine zk_iteT (by decide) ?_
    | with_reducible refine zk_iteF (by decide) ?_
    | with_reducible refine zk_biteT (by assumption) ?_
    | with_reducible refine zk_biteF (by assumption) ?_
    | with_reducible refine zk_biteN (by assumption) ?_
    | with_reducible refine zk_biteT (by decide) ?_
    | with_reducible refine zk_biteF (by decide) ?_
    | (with_reducible refine zk_bs ?_; try dsimp only)
    | with_reducible refine zk_bas ?_
    | with_reducible refine zk_ite (fun _ => ?_) (fun _ => ?_)
    | with_reducible refine zk_bite (fun _ => ?_) (fun _ => ?_)
    | (simp only [Option.bind_some, Option.bind_none, ↓reduceIte, reduceIte, eq_self, Bool.false_eq_true, or_true, true_or, or_false, false_or, or_self, and_true, true_and, and_false, false_and, not_true_eq_false, not_false_eq_true])
    | (exfalso; simp only [zs_01, zs_cl, Int32.lt_iff_toInt_lt, Int32.le_iff_toInt_le, ← Int32.toInt_inj, zt_m2000000000, zt_m100, zt_m15, zt_m14, zt_m13, zt_m12, zt_m11, zt_m10, zt_m9, zt_m8, zt_m7, zt_m6, zt_m5, zt_m4, zt_m3, zt_m2, zt_m1, zt_0, zt_1, zt_2, zt_3, zt_4, zt_5, zt_6, zt_7, zt_8, zt_9, zt_10, zt_11, zt_12, zt_13, zt_14, zt_15, zt_16, zt_17, zt_18, zt_19, zt_20, zt_21, zt_22, zt_23, zt_24, zt_25, zt_26, zt_27, zt_28, zt_29, zt_30, zt_31, zt_32, zt_33, zt_34, zt_35, zt_36, zt_37, zt_38, zt_39, zt_40, zt_41, zt_42, zt_43, zt_44, zt_45, zt_46, zt_47, zt_48, zt_49, zt_50, zt_51, zt_52, zt_53, zt_54, zt_55, zt_56, zt_57, zt_58, zt_59, zt_60, zt_61, zt_62, zt_63, zt_64, zt_65, zt_66, zt_67, zt_68, zt_69, zt_81, zt_82, zt_99, zt_100, zt_120, zt_1000, zt_9999, zt_10000] at *; omega)
    | (refine zk_bsE rfl ?_; try dsimp only)
    | (refine zk_kI ?_; first | rfl | decide | (simp only [f_X12_ofSuit, B_X12_ofSuit_0, f_X12_isSuit, B_X12_isSuit_0, f_X12_in, B_X12_in_0, B_X12_ofSuit_77, B_X12_ofSuit_105, zk_b2, zk_b3, zk_b4, zk_b5, zk_b6, zk_let]; with_reducible refine (?_ : zk_k _ _))))
set_option maxHeartbeats 4000000 in
set_option maxRecDepth 100000 in
theorem pe_won {g pf : Nat → Option Nat} {ae : Nat → Nat} {wb : Nat} (GF : ∀ t, t < 8 → g (24 + t) = some (ae 0)) (PF : ∀ j, j < 6 → pf j = some (ae (2 + 2 * j))) (a0 : Int32) (a1 : Int32) : ∃ R1 R2, f_X11_won  a0 a1 0 0 0 = some R1 ∧ f_X12_won  a0 a1 0 0 0 0 0 0 0 0 0 0 0 0 0 0 0 0 0 ((fun _ => 0)) ((fun _ => 0)) ((fun _ => 0)) ((fun _ => 0)) ((fun _ => 0)) ((fun _ => 0)) ((fun _ => 0)) = some R2 ∧ R1.1 = R2.1 := by
  refine zk_go ?_
  clear GF PF
  simp only [f_X11_won, B_X11_won_0, f_X2_suitAt, B_X2_suitAt_0, zk_b2, zk_b3, zk_b4, zk_b5, zk_b6, zk_let]
  repeat' (first
    | (with_reducible refine zk_kI ?_; first | rfl | decide | (simp only [f_X12_won, B_X12_won_0, f_X12_isSuit, B_X12_isSuit_0, f_X12_in, B_X12_in_0, zk_b2, zk_b3, zk_b4, zk_b5, zk_b6, zk_let]; done) | (simp only [f_X12_won, B_X12_won_0, f_X12_isSuit, B_X12_isSuit_0, f_X12_in, B_X12_in_0, zk_b2, zk_b3, zk_b4, zk_b5, zk_b6, zk_let]; with_reducible refine (?_ : zk_k _ _)))
    | with_reducible refine zk_iteT (by assumption) ?_
    | with_reducible refine zk_iteF (by assumption) ?_
    | with_reducible refine zk_iteN (by assumption) ?_
    | with_reducible refine zk_iteT (by decide) ?_
    | with_reducible refine zk_iteF (by decide) ?_
    | with_reducible refine zk_biteT (by assumption) ?_
    | with_reducible refine zk_biteF (by assumption) ?_
    | with_reducible refine zk_biteN (by assumption) ?_
    | with_reducible refine zk_biteT (by decide) ?_
    | with_reducible refine zk_biteF (by decide) ?_
    | (with_reducible refine zk_bs ?_; try dsimp only)
    | with_reducible refine zk_bas ?_
    | with_reducible refine zk_ite (fun _ => ?_) (fun _ => ?_)
    | with_reducible refine zk_bite (fun _ => ?_) (fun _ => ?_)
    | (simp only [Option.bind_some, Option.bind_none, ↓reduceIte, reduceIte, eq_self, Bool.false_eq_true, or_true, true_or, or_false, false_or, or_self, and_true, true_and, and_false, false_and, not_true_eq_false, not_false_eq_true])
    | (exfalso; simp only [zs_01, zs_cl, Int32.lt_iff_toInt_lt, Int32.le_iff_toInt_le, ← Int32.toInt_inj, zt_m2000000000, zt_m100, zt_m15, zt_m14, zt_m13, zt_m12, zt_m11, zt_m10, zt_m9, zt_m8, zt_m7, zt_m6, zt_m5, zt_m4, zt_m3, zt_m2, zt_m1, zt_0, zt_1, zt_2, zt_3, zt_4, zt_5, zt_6, zt_7, zt_8, zt_9, zt_10, zt_11, zt_12, zt_13, zt_14, zt_15, zt_16, zt_17, zt_18, zt_19, zt_20, zt_21, zt_22, zt_23, zt_24, zt_25, zt_26, zt_27, zt_28, zt_29, zt_30, zt_31, zt_32, zt_33, zt_34, zt_35, zt_36, zt_37, zt_38, zt_39, zt_40, zt_41, zt_42, zt_43, zt_44, zt_45, zt_46, zt_47, zt_48, zt_49, zt_50, zt_51, zt_52, zt_53, zt_54, zt_55, zt_56, zt_57, zt_58, zt_59, zt_60, zt_61, zt_62, zt_63, zt_64, zt_65, zt_66, zt_67, zt_68, zt_69, zt_81, zt_82, zt_99, zt_100, zt_120, zt_1000, zt_9999, zt_10000] at *; omega)
    | (refine zk_bsE rfl ?_; try dsimp only)
    | (refine zk_kI ?_; first | rfl | decide | (simp only [f_X12_won, B_X12_won_0, f_X12_isSuit, B_X12_isSuit_0, f_X12_in, B_X12_in_0, zk_b2, zk_b3, zk_b4, zk_b5, zk_b6, zk_let]; with_reducible refine (?_ : zk_k _ _))))
set_option maxHeartbeats 4000000 in
set_option maxRecDepth 100000 in
theorem pe_undone {g pf : Nat → Option Nat} {ae : Nat → Nat} {wb : Nat} (GF : ∀ t, t < 8 → g (24 + t) = some (ae 0)) (PF : ∀ j, j < 6 → pf j = some (ae (2 + 2 * j))) (a0 : Int32) (a1 : Int32) : ∃ R1 R2, f_X11_undone  a0 a1 0 0 0 = some R1 ∧ f_X12_undone  a0 a1 0 0 0 0 0 0 0 0 0 0 0 0 0 0 0 0 0 ((fun _ => 0)) ((fun _ => 0)) ((fun _ => 0)) ((fun _ => 0)) ((fun _ => 0)) ((fun _ => 0)) ((fun _ => 0)) ((fun _ => 0)) = some R2 ∧ R1.1 = R2.1 := by
  refine zk_go ?_
  clear GF PF
  simp only [f_X11_undone, B_X11_undone_0, f_X2_suitAt, B_X2_suitAt_0, zk_b2, zk_b3, zk_b4, zk_b5, zk_b6, zk_let]
  repeat' (first
    | (with_reducible refine zk_kI ?_; first | rfl | decide | (simp only [f_X12_undone, B_X12_undone_0, f_X12_isSuit, B_X12_isSuit_0, f_X12_in, B_X12_in_0, zk_b2, zk_b3, zk_b4, zk_b5, zk_b6, zk_let]; done) | (simp only [f_X12_undone, B_X12_undone_0, f_X12_isSuit, B_X12_isSuit_0, f_X12_in, B_X12_in_0, zk_b2, zk_b3, zk_b4, zk_b5, zk_b6, zk_let]; with_reducible refine (?_ : zk_k _ _)))
    | with_reducible refine zk_iteT (by assumption) ?_
    | with_reducible refine zk_iteF (by assumption) ?_
    | with_reducible refine zk_iteN (by assumption) ?_
    | with_reducible refine zk_iteT (by decide) ?_
    | with_reducible refine zk_iteF (by decide) ?_
    | with_reducible refine zk_biteT (by assumption) ?_
    | with_reducible refine zk_biteF (by assumption) ?_
    | with_reducible refine zk_biteN (by assumption) ?_
    | with_reducible refine zk_biteT (by decide) ?_
    | with_reducible refine zk_biteF (by decide) ?_
    | (with_reducible refine zk_bs ?_; try dsimp only)
    | with_reducible refine zk_bas ?_
    | with_reducible refine zk_ite (fun _ => ?_) (fun _ => ?_)
    | with_reducible refine zk_bite (fun _ => ?_) (fun _ => ?_)
    | (simp only [Option.bind_some, Option.bind_none, ↓reduceIte, reduceIte, eq_self, Bool.false_eq_true, or_true, true_or, or_false, false_or, or_self, and_true, true_and, and_false, false_and, not_true_eq_false, not_false_eq_true])
    | (exfalso; simp only [zs_01, zs_cl, Int32.lt_iff_toInt_lt, Int32.le_iff_toInt_le, ← Int32.toInt_inj, zt_m2000000000, zt_m100, zt_m15, zt_m14, zt_m13, zt_m12, zt_m11, zt_m10, zt_m9, zt_m8, zt_m7, zt_m6, zt_m5, zt_m4, zt_m3, zt_m2, zt_m1, zt_0, zt_1, zt_2, zt_3, zt_4, zt_5, zt_6, zt_7, zt_8, zt_9, zt_10, zt_11, zt_12, zt_13, zt_14, zt_15, zt_16, zt_17, zt_18, zt_19, zt_20, zt_21, zt_22, zt_23, zt_24, zt_25, zt_26, zt_27, zt_28, zt_29, zt_30, zt_31, zt_32, zt_33, zt_34, zt_35, zt_36, zt_37, zt_38, zt_39, zt_40, zt_41, zt_42, zt_43, zt_44, zt_45, zt_46, zt_47, zt_48, zt_49, zt_50, zt_51, zt_52, zt_53, zt_54, zt_55, zt_56, zt_57, zt_58, zt_59, zt_60, zt_61, zt_62, zt_63, zt_64, zt_65, zt_66, zt_67, zt_68, zt_69, zt_81, zt_82, zt_99, zt_100, zt_120, zt_1000, zt_9999, zt_10000] at *; omega)
    | (refine zk_bsE rfl ?_; try dsimp only)
    | (refine zk_kI ?_; first | rfl | decide | (simp only [f_X12_undone, B_X12_undone_0, f_X12_isSuit, B_X12_isSuit_0, f_X12_in, B_X12_in_0, zk_b2, zk_b3, zk_b4, zk_b5, zk_b6, zk_let]; with_reducible refine (?_ : zk_k _ _))))
set_option maxHeartbeats 4000000 in
set_option maxRecDepth 100000 in
theorem pe_law {g pf : Nat → Option Nat} {ae : Nat → Nat} {wb : Nat} (GF : ∀ t, t < 8 → g (24 + t) = some (ae 0)) (PF : ∀ j, j < 6 → pf j = some (ae (2 + 2 * j))) (a0 : Int32) : ∃ R1 R2, f_X11_law  a0 0 0 0 0 zw_3.2 zr_3.2.1 zr_3.2.2.1 zr_3.2.2.2.1 zr_3.2.2.2.2 = some R1 ∧ f_X12_law  4000 a0 0 0 0 0 0 0 0 0 0 0 0 0 0 0 0 0 0 ((fun _ => 0)) ((fun _ => 0)) ((fun _ => 0)) ((fun _ => 0)) ((fun _ => 0)) ((fun _ => 0)) = some R2 ∧ R1.1 = R2.1 := by sorry
set_option maxHeartbeats 4000000 in
set_option maxRecDepth 100000 in
theorem pe_counts {g pf : Nat → Option Nat} {ae : Nat → Nat} {wb : Nat} (GF : ∀ t, t < 8 → g (24 + t) = some (ae 0)) (PF : ∀ j, j < 6 → pf j = some (ae (2 + 2 * j))) (a0 : Int32) (a1 : Int32) (a2 : Int32) : ∃ R1 R2, f_X11_counts  a0 a1 a2 0 0 0 0 0 0 (fun _ => 0) (fun _ => 0) = some R1 ∧ f_X12_counts  a0 a1 a2 0 0 0 0 0 0 0 0 0 0 0 0 0 0 0 0 0 ((fun _ => 0)) ((fun _ => 0)) ((fun _ => 0)) ((fun _ => 0)) ((fun _ => 0)) ((fun _ => 0)) ((fun _ => 0)) ((fun _ => 0)) ((fun _ => 0)) ((fun _ => 0)) ((fun _ => 0)) ((fun _ => 0)) = some R2 ∧ R1.1 = R2.1 := by
  refine zk_go ?_
  clear GF PF
  simp only [f_X11_counts, B_X11_counts_0, f_X2_suitAt, B_X2_suitAt_0, zk_b2, zk_b3, zk_b4, zk_b5, zk_b6, zk_let]
  repeat' (first
    | (with_reducible refine zk_kI ?_; first | rfl | decide | (simp only [f_X12_counts, B_X12_counts_0, f_X12_isSuit, B_X12_isSuit_0, f_X12_in, B_X12_in_0, f_X12_isDay, B_X12_isDay_0, f_X12_isLand, B_X12_isLand_0, zk_b2, zk_b3, zk_b4, zk_b5, zk_b6, zk_let]; done) | (simp only [f_X12_counts, B_X12_counts_0, f_X12_isSuit, B_X12_isSuit_0, f_X12_in, B_X12_in_0, f_X12_isDay, B_X12_isDay_0, f_X12_isLand, B_X12_isLand_0, zk_b2, zk_b3, zk_b4, zk_b5, zk_b6, zk_let]; with_reducible refine (?_ : zk_k _ _)))
    | with_reducible refine zk_iteT (by assumption) ?_
    | with_reducible refine zk_iteF (by assumption) ?_
    | with_reducible refine zk_iteN (by assumption) ?_
    | with_reducible refine zk_iteT (by decide) ?_
    | with_reducible refine zk_iteF (by decide) ?_
    | with_reducible refine zk_biteT (by assumption) ?_
    | with_reducible refine zk_biteF (by assumption) ?_
    | with_reducible refine zk_biteN (by assumption) ?_
    | with_reducible refine zk_biteT (by decide) ?_
    | with_reducible refine zk_biteF (by decide) ?_
    | (with_reducible refine zk_bs ?_; try dsimp only)
    | with_reducible refine zk_bas ?_
    | with_reducible refine zk_ite (fun _ => ?_) (fun _ => ?_)
    | with_reducible refine zk_bite (fun _ => ?_) (fun _ => ?_)
    | (simp only [Option.bind_some, Option.bind_none, ↓reduceIte, reduceIte, eq_self, Bool.false_eq_true, or_true, true_or, or_false, false_or, or_self, and_true, true_and, and_false, false_and, not_true_eq_false, not_false_eq_true])
    | (exfalso; simp only [zs_01, zs_cl, Int32.lt_iff_toInt_lt, Int32.le_iff_toInt_le, ← Int32.toInt_inj, zt_m2000000000, zt_m100, zt_m15, zt_m14, zt_m13, zt_m12, zt_m11, zt_m10, zt_m9, zt_m8, zt_m7, zt_m6, zt_m5, zt_m4, zt_m3, zt_m2, zt_m1, zt_0, zt_1, zt_2, zt_3, zt_4, zt_5, zt_6, zt_7, zt_8, zt_9, zt_10, zt_11, zt_12, zt_13, zt_14, zt_15, zt_16, zt_17, zt_18, zt_19, zt_20, zt_21, zt_22, zt_23, zt_24, zt_25, zt_26, zt_27, zt_28, zt_29, zt_30, zt_31, zt_32, zt_33, zt_34, zt_35, zt_36, zt_37, zt_38, zt_39, zt_40, zt_41, zt_42, zt_43, zt_44, zt_45, zt_46, zt_47, zt_48, zt_49, zt_50, zt_51, zt_52, zt_53, zt_54, zt_55, zt_56, zt_57, zt_58, zt_59, zt_60, zt_61, zt_62, zt_63, zt_64, zt_65, zt_66, zt_67, zt_68, zt_69, zt_81, zt_82, zt_99, zt_100, zt_120, zt_1000, zt_9999, zt_10000] at *; omega)
    | (refine zk_bsE rfl ?_; try dsimp only)
    | (refine zk_kI ?_; first | rfl | decide | (simp only [f_X12_counts, B_X12_counts_0, f_X12_isSuit, B_X12_isSuit_0, f_X12_in, B_X12_in_0, f_X12_isDay, B_X12_isDay_0, f_X12_isLand, B_X12_isLand_0, zk_b2, zk_b3, zk_b4, zk_b5, zk_b6, zk_let]; with_reducible refine (?_ : zk_k _ _))))
set_option maxHeartbeats 4000000 in
set_option maxRecDepth 100000 in
theorem pe_met {g pf : Nat → Option Nat} {ae : Nat → Nat} {wb : Nat} (GF : ∀ t, t < 8 → g (24 + t) = some (ae 0)) (PF : ∀ j, j < 6 → pf j = some (ae (2 + 2 * j))) (a0 : Int32) (a1 : Int32) (a2 : Int32) : ∃ R1 R2, f_X11_met  a0 a1 a2 0 0 0 (fun _ => 0) (fun _ => 0) 0 0 0 (fun _ => 0) (fun _ => 0) (fun _ => 0) (fun _ => 0) (fun _ => 0) = some R1 ∧ f_X12_met  a0 a1 a2 0 0 0 0 0 0 0 0 0 0 0 0 0 0 0 0 0 ((fun _ => 0)) ((fun _ => 0)) ((fun _ => 0)) ((fun _ => 0)) ((fun _ => 0)) ((fun _ => 0)) ((fun _ => 0)) ((fun _ => 0)) ((fun _ => 0)) ((fun _ => 0)) ((fun _ => 0)) ((fun _ => 0)) ((fun _ => 0)) ((fun _ => 0)) ((fun _ => 0)) ((fun _ => 0)) ((fun _ => 0)) ((fun _ => 0)) ((fun _ => 0)) ((fun _ => 0)) ((fun _ => 0)) ((fun _ => 0)) ((fun _ => 0)) ((fun _ => 0)) ((fun _ => 0)) ((fun _ => 0)) ((fun _ => 0)) = some R2 ∧ R1.1 = R2.1 := by
  refine zk_go ?_
  clear GF PF
  simp only [f_X11_met, B_X11_met_0, f_X11_isClaimOf, B_X11_isClaimOf_0, f_X11_isClaim, B_X11_isClaim_0, B_X11_isClaimOf_20, f_X11_isPair, B_X11_isPair_0, f_X11_isWhen, B_X11_isWhen_0, f_X11_isDay, B_X11_isDay_0, f_X11_isLand, B_X11_isLand_0, zk_b2, zk_b3, zk_b4, zk_b5, zk_b6, zk_let]
  repeat' (first
    | (with_reducible refine zk_kI ?_; first | rfl | decide | (simp only [f_X12_met, B_X12_met_0, f_X12_isAsk, B_X12_isAsk_0, f_X12_isClaim, B_X12_isClaim_0, f_X12_in, B_X12_in_0, B_X12_isAsk_20, f_X12_isWhen, B_X12_isWhen_0, f_X12_isDay, B_X12_isDay_0, f_X12_isLand, B_X12_isLand_0, f_X12_isPair, B_X12_isPair_0, f_X12_sideBy, B_X12_sideBy_0, f_X12_sideOn, B_X12_sideOn_0, zk_b2, zk_b3, zk_b4, zk_b5, zk_b6, zk_let]; done) | (simp only [f_X12_met, B_X12_met_0, f_X12_isAsk, B_X12_isAsk_0, f_X12_isClaim, B_X12_isClaim_0, f_X12_in, B_X12_in_0, B_X12_isAsk_20, f_X12_isWhen, B_X12_isWhen_0, f_X12_isDay, B_X12_isDay_0, f_X12_isLand, B_X12_isLand_0, f_X12_isPair, B_X12_isPair_0, f_X12_sideBy, B_X12_sideBy_0, f_X12_sideOn, B_X12_sideOn_0, zk_b2, zk_b3, zk_b4, zk_b5, zk_b6, zk_let]; with_reducible refine (?_ : zk_k _ _)))
    | with_reducible refine zk_iteT (by assumption) ?_
    | with_reducible refine zk_iteF (by assumption) ?_
    | with_reducible refine zk_iteN (by assumption) ?_
    | with_reducible refine zk_iteT (by decide) ?_
    | with_reducible refine zk_iteF (by decide) ?_
    | with_reducible refine zk_biteT (by assumption) ?_
    | with_reducible refine zk_biteF (by assumption) ?_
    | with_reducible refine zk_biteN (by assumption) ?_
    | with_reducible refine zk_biteT (by decide) ?_
    | with_reducible refine zk_biteF (by decide) ?_
    | (with_reducible refine zk_bs ?_; try dsimp only)
    | with_reducible refine zk_bas ?_
    | with_reducible refine zk_ite (fun _ => ?_) (fun _ => ?_)
    | with_reducible refine zk_bite (fun _ => ?_) (fun _ => ?_)
    | (simp only [Option.bind_some, Option.bind_none, ↓reduceIte, reduceIte, eq_self, Bool.false_eq_true, or_true, true_or, or_false, false_or, or_self, and_true, true_and, and_false, false_and, not_true_eq_false, not_false_eq_true])
    | (exfalso; simp only [zs_01, zs_cl, Int32.lt_iff_toInt_lt, Int32.le_iff_toInt_le, ← Int32.toInt_inj, zt_m2000000000, zt_m100, zt_m15, zt_m14, zt_m13, zt_m12, zt_m11, zt_m10, zt_m9, zt_m8, zt_m7, zt_m6, zt_m5, zt_m4, zt_m3, zt_m2, zt_m1, zt_0, zt_1, zt_2, zt_3, zt_4, zt_5, zt_6, zt_7, zt_8, zt_9, zt_10, zt_11, zt_12, zt_13, zt_14, zt_15, zt_16, zt_17, zt_18, zt_19, zt_20, zt_21, zt_22, zt_23, zt_24, zt_25, zt_26, zt_27, zt_28, zt_29, zt_30, zt_31, zt_32, zt_33, zt_34, zt_35, zt_36, zt_37, zt_38, zt_39, zt_40, zt_41, zt_42, zt_43, zt_44, zt_45, zt_46, zt_47, zt_48, zt_49, zt_50, zt_51, zt_52, zt_53, zt_54, zt_55, zt_56, zt_57, zt_58, zt_59, zt_60, zt_61, zt_62, zt_63, zt_64, zt_65, zt_66, zt_67, zt_68, zt_69, zt_81, zt_82, zt_99, zt_100, zt_120, zt_1000, zt_9999, zt_10000] at *; omega)
    | (refine zk_bsE rfl ?_; try dsimp only)
    | (refine zk_kI ?_; first | rfl | decide | (simp only [f_X12_met, B_X12_met_0, f_X12_isAsk, B_X12_isAsk_0, f_X12_isClaim, B_X12_isClaim_0, f_X12_in, B_X12_in_0, B_X12_isAsk_20, f_X12_isWhen, B_X12_isWhen_0, f_X12_isDay, B_X12_isDay_0, f_X12_isLand, B_X12_isLand_0, f_X12_isPair, B_X12_isPair_0, f_X12_sideBy, B_X12_sideBy_0, f_X12_sideOn, B_X12_sideOn_0, zk_b2, zk_b3, zk_b4, zk_b5, zk_b6, zk_let]; with_reducible refine (?_ : zk_k _ _))))
set_option maxHeartbeats 4000000 in
set_option maxRecDepth 100000 in
theorem pe_point {g pf : Nat → Option Nat} {ae : Nat → Nat} {wb : Nat} (GF : ∀ t, t < 8 → g (24 + t) = some (ae 0)) (PF : ∀ j, j < 6 → pf j = some (ae (2 + 2 * j))) (a0 : Int32) (a1 : Int32) (a2 : Int32) (a3 : Int32) : ∃ R1 R2, f_X11_point  a0 a1 a2 a3 0 0 0 (fun _ => 0) (fun _ => 0) 0 0 0 (fun _ => 0) (fun _ => 0) (fun _ => 0) (fun _ => 0) (fun _ => 0) = some R1 ∧ f_X12_point  a0 a1 a2 a3 0 0 0 0 0 0 0 0 0 0 0 0 0 0 0 0 0 ((fun _ => 0)) ((fun _ => 0)) ((fun _ => 0)) ((fun _ => 0)) ((fun _ => 0)) ((fun _ => 0)) ((fun _ => 0)) ((fun _ => 0)) ((fun _ => 0)) ((fun _ => 0)) ((fun _ => 0)) ((fun _ => 0)) ((fun _ => 0)) ((fun _ => 0)) ((fun _ => 0)) ((fun _ => 0)) ((fun _ => 0)) ((fun _ => 0)) ((fun _ => 0)) ((fun _ => 0)) ((fun _ => 0)) = some R2 ∧ R1.1 = R2.1 := by
  refine zk_go ?_
  clear GF PF
  simp only [f_X11_point, B_X11_point_0, f_X11_isPoint, B_X11_isPoint_0, f_X11_isPair, B_X11_isPair_0, f_X11_isWhen, B_X11_isWhen_0, f_X11_isDay, B_X11_isDay_0, f_X11_isLand, B_X11_isLand_0, f_X11_isChoice, B_X11_isChoice_0, B_X11_isChoice_9, zk_b2, zk_b3, zk_b4, zk_b5, zk_b6, zk_let]
  repeat' (first
    | (with_reducible refine zk_kI ?_; first | rfl | decide | (simp only [f_X12_point, B_X12_point_0, f_X12_isPoint, B_X12_isPoint_0, f_X12_in, B_X12_in_0, f_X12_isPair, B_X12_isPair_0, f_X12_isWhen, B_X12_isWhen_0, f_X12_isDay, B_X12_isDay_0, f_X12_isLand, B_X12_isLand_0, zk_b2, zk_b3, zk_b4, zk_b5, zk_b6, zk_let]; done) | (simp only [f_X12_point, B_X12_point_0, f_X12_isPoint, B_X12_isPoint_0, f_X12_in, B_X12_in_0, f_X12_isPair, B_X12_isPair_0, f_X12_isWhen, B_X12_isWhen_0, f_X12_isDay, B_X12_isDay_0, f_X12_isLand, B_X12_isLand_0, zk_b2, zk_b3, zk_b4, zk_b5, zk_b6, zk_let]; with_reducible refine (?_ : zk_k _ _)))
    | with_reducible refine zk_iteT (by assumption) ?_
    | with_reducible refine zk_iteF (by assumption) ?_
    | with_reducible refine zk_iteN (by assumption) ?_
    | with_reducible refine zk_iteT (by decide) ?_
    | with_reducible refine zk_iteF (by decide) ?_
    | with_reducible refine zk_biteT (by assumption) ?_
    | with_reducible refine zk_biteF (by assumption) ?_
    | with_reducible refine zk_biteN (by assumption) ?_
    | with_reducible refine zk_biteT (by decide) ?_
    | with_reducible refine zk_biteF (by decide) ?_
    | (with_reducible refine zk_bs ?_; try dsimp only)
    | with_reducible refine zk_bas ?_
    | with_reducible refine zk_ite (fun _ => ?_) (fun _ => ?_)
    | with_reducible refine zk_bite (fun _ => ?_) (fun _ => ?_)
    | (simp only [Option.bind_some, Option.bind_none, ↓reduceIte, reduceIte, eq_self, Bool.false_eq_true, or_true, true_or, or_false, false_or, or_self, and_true, true_and, and_false, false_and, not_true_eq_false, not_false_eq_true])
    | (exfalso; simp only [zs_01, zs_cl, Int32.lt_iff_toInt_lt, Int32.le_iff_toInt_le, ← Int32.toInt_inj, zt_m2000000000, zt_m100, zt_m15, zt_m14, zt_m13, zt_m12, zt_m11, zt_m10, zt_m9, zt_m8, zt_m7, zt_m6, zt_m5, zt_m4, zt_m3, zt_m2, zt_m1, zt_0, zt_1, zt_2, zt_3, zt_4, zt_5, zt_6, zt_7, zt_8, zt_9, zt_10, zt_11, zt_12, zt_13, zt_14, zt_15, zt_16, zt_17, zt_18, zt_19, zt_20, zt_21, zt_22, zt_23, zt_24, zt_25, zt_26, zt_27, zt_28, zt_29, zt_30, zt_31, zt_32, zt_33, zt_34, zt_35, zt_36, zt_37, zt_38, zt_39, zt_40, zt_41, zt_42, zt_43, zt_44, zt_45, zt_46, zt_47, zt_48, zt_49, zt_50, zt_51, zt_52, zt_53, zt_54, zt_55, zt_56, zt_57, zt_58, zt_59, zt_60, zt_61, zt_62, zt_63, zt_64, zt_65, zt_66, zt_67, zt_68, zt_69, zt_81, zt_82, zt_99, zt_100, zt_120, zt_1000, zt_9999, zt_10000] at *; omega)
    | (refine zk_bsE rfl ?_; try dsimp only)
    | (refine zk_kI ?_; first | rfl | decide | (simp only [f_X12_point, B_X12_point_0, f_X12_isPoint, B_X12_isPoint_0, f_X12_in, B_X12_in_0, f_X12_isPair, B_X12_isPair_0, f_X12_isWhen, B_X12_isWhen_0, f_X12_isDay, B_X12_isDay_0, f_X12_isLand, B_X12_isLand_0, zk_b2, zk_b3, zk_b4, zk_b5, zk_b6, zk_let]; with_reducible refine (?_ : zk_k _ _))))
set_option maxHeartbeats 4000000 in
set_option maxRecDepth 100000 in
theorem pe_left {g pf : Nat → Option Nat} {ae : Nat → Nat} {wb : Nat} (GF : ∀ t, t < 8 → g (24 + t) = some (ae 0)) (PF : ∀ j, j < 6 → pf j = some (ae (2 + 2 * j))) (a0 : Int32) (a1 : Int32) : ∃ R1 R2, f_X11_left  4000 a0 a1 0 0 0 (fun _ => 0) (fun _ => 0) 0 0 0 (fun _ => 0) (fun _ => 0) (fun _ => 0) (fun _ => 0) (fun _ => 0) = some R1 ∧ f_X12_left  4000 a0 a1 0 0 0 0 0 0 0 0 0 0 0 0 0 0 0 0 0 ((fun _ => 0)) ((fun _ => 0)) ((fun _ => 0)) ((fun _ => 0)) ((fun _ => 0)) ((fun _ => 0)) ((fun _ => 0)) ((fun _ => 0)) ((fun _ => 0)) ((fun _ => 0)) ((fun _ => 0)) ((fun _ => 0)) ((fun _ => 0)) ((fun _ => 0)) ((fun _ => 0)) ((fun _ => 0)) ((fun _ => 0)) ((fun _ => 0)) ((fun _ => 0)) ((fun _ => 0)) ((fun _ => 0)) ((fun _ => 0)) ((fun _ => 0)) ((fun _ => 0)) ((fun _ => 0)) ((fun _ => 0)) ((fun _ => 0)) = some R2 ∧ R1.1 = R2.1 := by sorry
set_option maxHeartbeats 4000000 in
set_option maxRecDepth 100000 in
theorem pe_lost {g pf : Nat → Option Nat} {ae : Nat → Nat} {wb : Nat} (GF : ∀ t, t < 8 → g (24 + t) = some (ae 0)) (PF : ∀ j, j < 6 → pf j = some (ae (2 + 2 * j))) (a0 : Int32) (a1 : Int32) : ∃ R1 R2, f_X11_lost  4000 a0 a1 0 0 0 (fun _ => 0) (fun _ => 0) 0 0 0 (fun _ => 0) (fun _ => 0) (fun _ => 0) (fun _ => 0) (fun _ => 0) = some R1 ∧ f_X12_lost  4000 a0 a1 0 0 0 0 0 0 0 0 0 0 0 0 0 0 0 0 0 ((fun _ => 0)) ((fun _ => 0)) ((fun _ => 0)) ((fun _ => 0)) ((fun _ => 0)) ((fun _ => 0)) ((fun _ => 0)) ((fun _ => 0)) ((fun _ => 0)) ((fun _ => 0)) ((fun _ => 0)) ((fun _ => 0)) ((fun _ => 0)) ((fun _ => 0)) ((fun _ => 0)) ((fun _ => 0)) ((fun _ => 0)) ((fun _ => 0)) ((fun _ => 0)) ((fun _ => 0)) ((fun _ => 0)) ((fun _ => 0)) ((fun _ => 0)) ((fun _ => 0)) ((fun _ => 0)) ((fun _ => 0)) ((fun _ => 0)) = some R2 ∧ R1.1 = R2.1 := by
  refine zk_go ?_
  clear GF PF
  simp only [f_X11_lost, B_X11_lost_0, f_X2_suitAt, B_X2_suitAt_0, B_X11_lost_41, zk_b2, zk_b3, zk_b4, zk_b5, zk_b6, zk_let]
  repeat' (first
    | (with_reducible refine zk_kI ?_; first | rfl | decide | (simp only [f_X12_lost, B_X12_lost_0, f_X12_isSuit, B_X12_isSuit_0, f_X12_in, B_X12_in_0, B_X12_lost_37, B_X12_lost_106, zk_b2, zk_b3, zk_b4, zk_b5, zk_b6, zk_let]; done) | (simp only [f_X12_lost, B_X12_lost_0, f_X12_isSuit, B_X12_isSuit_0, f_X12_in, B_X12_in_0, B_X12_lost_37, B_X12_lost_106, zk_b2, zk_b3, zk_b4, zk_b5, zk_b6, zk_let]; with_reducible refine (?_ : zk_k _ _)))
    | with_reducible refine zk_iteT (by assumption) ?_
    | with_reducible refine zk_iteF (by assumption) ?_
    | with_reducible refine zk_iteN (by assumption) ?_
    | with_reducible refine zk_iteT (by decide) ?_
    | with_reducible refine zk_iteF (by decide) ?_
    | with_reducible refine zk_biteT (by assumption) ?_
    | with_reducible refine zk_biteF (by assumption) ?_
    | with_reducible refine zk_biteN (by assumption) ?_
    | with_reducible refine zk_biteT (by decide) ?_
    | with_reducible refine zk_biteF (by decide) ?_
    | (with_reducible refine zk_bs ?_; try dsimp only)
    | with_reducible refine zk_bas ?_
    | with_reducible refine zk_ite (fun _ => ?_) (fun _ => ?_)
    | with_reducible refine zk_bite (fun _ => ?_) (fun _ => ?_)
    | (simp only [Option.bind_some, Option.bind_none, ↓reduceIte, reduceIte, eq_self, Bool.false_eq_true, or_true, true_or, or_false, false_or, or_self, and_true, true_and, and_false, false_and, not_true_eq_false, not_false_eq_true])
    | (exfalso; simp only [zs_01, zs_cl, Int32.lt_iff_toInt_lt, Int32.le_iff_toInt_le, ← Int32.toInt_inj, zt_m2000000000, zt_m100, zt_m15, zt_m14, zt_m13, zt_m12, zt_m11, zt_m10, zt_m9, zt_m8, zt_m7, zt_m6, zt_m5, zt_m4, zt_m3, zt_m2, zt_m1, zt_0, zt_1, zt_2, zt_3, zt_4, zt_5, zt_6, zt_7, zt_8, zt_9, zt_10, zt_11, zt_12, zt_13, zt_14, zt_15, zt_16, zt_17, zt_18, zt_19, zt_20, zt_21, zt_22, zt_23, zt_24, zt_25, zt_26, zt_27, zt_28, zt_29, zt_30, zt_31, zt_32, zt_33, zt_34, zt_35, zt_36, zt_37, zt_38, zt_39, zt_40, zt_41, zt_42, zt_43, zt_44, zt_45, zt_46, zt_47, zt_48, zt_49, zt_50, zt_51, zt_52, zt_53, zt_54, zt_55, zt_56, zt_57, zt_58, zt_59, zt_60, zt_61, zt_62, zt_63, zt_64, zt_65, zt_66, zt_67, zt_68, zt_69, zt_81, zt_82, zt_99, zt_100, zt_120, zt_1000, zt_9999, zt_10000] at *; omega)
    | (refine zk_bsE rfl ?_; try dsimp only)
    | (refine zk_kI ?_; first | rfl | decide | (simp only [f_X12_lost, B_X12_lost_0, f_X12_isSuit, B_X12_isSuit_0, f_X12_in, B_X12_in_0, B_X12_lost_37, B_X12_lost_106, zk_b2, zk_b3, zk_b4, zk_b5, zk_b6, zk_let]; with_reducible refine (?_ : zk_k _ _))))
set_option maxHeartbeats 4000000 in
set_option maxRecDepth 100000 in
theorem pe_opens {g pf : Nat → Option Nat} {ae : Nat → Nat} {wb : Nat} (GF : ∀ t, t < 8 → g (24 + t) = some (ae 0)) (PF : ∀ j, j < 6 → pf j = some (ae (2 + 2 * j))) (a0 : Int32) (a1 : Int32) : ∃ R1 R2, f_X11_opens  4000 a0 a1 0 0 0 (fun _ => 0) (fun _ => 0) 0 0 0 (fun _ => 0) (fun _ => 0) (fun _ => 0) (fun _ => 0) (fun _ => 0) = some R1 ∧ f_X12_opens  4000 a0 a1 0 0 0 0 0 0 0 0 0 0 0 0 0 0 0 0 0 ((fun _ => 0)) ((fun _ => 0)) ((fun _ => 0)) ((fun _ => 0)) ((fun _ => 0)) ((fun _ => 0)) ((fun _ => 0)) ((fun _ => 0)) ((fun _ => 0)) ((fun _ => 0)) ((fun _ => 0)) ((fun _ => 0)) ((fun _ => 0)) ((fun _ => 0)) ((fun _ => 0)) ((fun _ => 0)) ((fun _ => 0)) ((fun _ => 0)) ((fun _ => 0)) ((fun _ => 0)) ((fun _ => 0)) ((fun _ => 0)) ((fun _ => 0)) ((fun _ => 0)) ((fun _ => 0)) ((fun _ => 0)) ((fun _ => 0)) = some R2 ∧ R1.1 = R2.1 := by
  refine zk_go ?_
  clear GF PF
  simp only [f_X11_opens, B_X11_opens_0, f_X2_suitAt, B_X2_suitAt_0, B_X11_opens_45, zk_b2, zk_b3, zk_b4, zk_b5, zk_b6, zk_let]
  repeat' (first
    | (with_reducible refine zk_kI ?_; first | rfl | decide | (simp only [f_X12_opens, B_X12_opens_0, f_X12_isSuit, B_X12_isSuit_0, f_X12_in, B_X12_in_0, f_X12_isWhen, B_X12_isWhen_0, f_X12_isDay, B_X12_isDay_0, f_X12_isLand, B_X12_isLand_0, B_X12_opens_37, B_X12_opens_122, zk_b2, zk_b3, zk_b4, zk_b5, zk_b6, zk_let]; done) | (simp only [f_X12_opens, B_X12_opens_0, f_X12_isSuit, B_X12_isSuit_0, f_X12_in, B_X12_in_0, f_X12_isWhen, B_X12_isWhen_0, f_X12_isDay, B_X12_isDay_0, f_X12_isLand, B_X12_isLand_0, B_X12_opens_37, B_X12_opens_122, zk_b2, zk_b3, zk_b4, zk_b5, zk_b6, zk_let]; with_reducible refine (?_ : zk_k _ _)))
    | with_reducible refine zk_iteT (by assumption) ?_
    | with_reducible refine zk_iteF (by assumption) ?_
    | with_reducible refine zk_iteN (by assumption) ?_
    | with_reducible refine zk_iteT (by decide) ?_
    | with_reducible refine zk_iteF (by decide) ?_
    | with_reducible refine zk_biteT (by assumption) ?_
    | with_reducible refine zk_biteF (by assumption) ?_
    | with_reducible refine zk_biteN (by assumption) ?_
    | with_reducible refine zk_biteT (by decide) ?_
    | with_reducible refine zk_biteF (by decide) ?_
    | (with_reducible refine zk_bs ?_; try dsimp only)
    | with_reducible refine zk_bas ?_
    | with_reducible refine zk_ite (fun _ => ?_) (fun _ => ?_)
    | with_reducible refine zk_bite (fun _ => ?_) (fun _ => ?_)
    | (simp only [Option.bind_some, Option.bind_none, ↓reduceIte, reduceIte, eq_self, Bool.false_eq_true, or_true, true_or, or_false, false_or, or_self, and_true, true_and, and_false, false_and, not_true_eq_false, not_false_eq_true])
    | (exfalso; simp only [zs_01, zs_cl, Int32.lt_iff_toInt_lt, Int32.le_iff_toInt_le, ← Int32.toInt_inj, zt_m2000000000, zt_m100, zt_m15, zt_m14, zt_m13, zt_m12, zt_m11, zt_m10, zt_m9, zt_m8, zt_m7, zt_m6, zt_m5, zt_m4, zt_m3, zt_m2, zt_m1, zt_0, zt_1, zt_2, zt_3, zt_4, zt_5, zt_6, zt_7, zt_8, zt_9, zt_10, zt_11, zt_12, zt_13, zt_14, zt_15, zt_16, zt_17, zt_18, zt_19, zt_20, zt_21, zt_22, zt_23, zt_24, zt_25, zt_26, zt_27, zt_28, zt_29, zt_30, zt_31, zt_32, zt_33, zt_34, zt_35, zt_36, zt_37, zt_38, zt_39, zt_40, zt_41, zt_42, zt_43, zt_44, zt_45, zt_46, zt_47, zt_48, zt_49, zt_50, zt_51, zt_52, zt_53, zt_54, zt_55, zt_56, zt_57, zt_58, zt_59, zt_60, zt_61, zt_62, zt_63, zt_64, zt_65, zt_66, zt_67, zt_68, zt_69, zt_81, zt_82, zt_99, zt_100, zt_120, zt_1000, zt_9999, zt_10000] at *; omega)
    | (refine zk_bsE rfl ?_; try dsimp only)
    | (refine zk_kI ?_; first | rfl | decide | (simp only [f_X12_opens, B_X12_opens_0, f_X12_isSuit, B_X12_isSuit_0, f_X12_in, B_X12_in_0, f_X12_isWhen, B_X12_isWhen_0, f_X12_isDay, B_X12_isDay_0, f_X12_isLand, B_X12_isLand_0, B_X12_opens_37, B_X12_opens_122, zk_b2, zk_b3, zk_b4, zk_b5, zk_b6, zk_let]; with_reducible refine (?_ : zk_k _ _))))
set_option maxHeartbeats 4000000 in
set_option maxRecDepth 100000 in
theorem pe_clash {g pf : Nat → Option Nat} {ae : Nat → Nat} {wb : Nat} (GF : ∀ t, t < 8 → g (24 + t) = some (ae 0)) (PF : ∀ j, j < 6 → pf j = some (ae (2 + 2 * j))) (a0 : Int32) : ∃ R1 R2, f_X11_clash  4000 a0 0 0 0 = some R1 ∧ f_X12_clash  4000 a0 0 0 0 0 0 0 0 0 0 0 0 0 0 0 0 0 0 ((fun _ => 0)) = some R2 ∧ R1.1 = R2.1 := by sorry
set_option maxHeartbeats 4000000 in
set_option maxRecDepth 100000 in
theorem pe_wish {g pf : Nat → Option Nat} {ae : Nat → Nat} {wb : Nat} (GF : ∀ t, t < 8 → g (24 + t) = some (ae 0)) (PF : ∀ j, j < 6 → pf j = some (ae (2 + 2 * j))) (a0 : Int32) (a1 : Int32) : ∃ R1 R2, f_X11_wish  a0 a1 0 0 0 0 (.ref wb) 0 0 (fun _ => 0) (fun _ => 0) = some R1 ∧ f_X12_wish  4000 a0 a1 0 0 0 0 0 0 0 0 0 0 0 0 0 0 0 0 0 ((fun _ => 0)) ((fun _ => 0)) = some R2 ∧ R1.1 = R2.1 := by
  refine zk_go ?_
  clear GF PF
  simp only [f_X11_wish, B_X11_wish_0, f_X11_isClaim, B_X11_isClaim_0, f_X11_isChoice, B_X11_isChoice_0, B_X11_isChoice_9, zk_b2, zk_b3, zk_b4, zk_b5, zk_b6, zk_let]
  repeat' (first
    | (with_reducible refine zk_kI ?_; first | rfl | decide | (simp only [f_X12_wish, B_X12_wish_0, f_X12_isClaim, B_X12_isClaim_0, f_X12_in, B_X12_in_0, B_X12_wish_21, zk_b2, zk_b3, zk_b4, zk_b5, zk_b6, zk_let]; done) | (simp only [f_X12_wish, B_X12_wish_0, f_X12_isClaim, B_X12_isClaim_0, f_X12_in, B_X12_in_0, B_X12_wish_21, zk_b2, zk_b3, zk_b4, zk_b5, zk_b6, zk_let]; with_reducible refine (?_ : zk_k _ _)))
    | with_reducible refine zk_iteT (by assumption) ?_
    | with_reducible refine zk_iteF (by assumption) ?_
    | with_reducible refine zk_iteN (by assumption) ?_
    | with_reducible refine zk_iteT (by decide) ?_
    | with_reducible refine zk_iteF (by decide) ?_
    | with_reducible refine zk_biteT (by assumption) ?_
    | with_reducible refine zk_biteF (by assumption) ?_
    | with_reducible refine zk_biteN (by assumption) ?_
    | with_reducible refine zk_biteT (by decide) ?_
    | with_reducible refine zk_biteF (by decide) ?_
    | (with_reducible refine zk_bs ?_; try dsimp only)
    | with_reducible refine zk_bas ?_
    | with_reducible refine zk_ite (fun _ => ?_) (fun _ => ?_)
    | with_reducible refine zk_bite (fun _ => ?_) (fun _ => ?_)
    | (simp only [Option.bind_some, Option.bind_none, ↓reduceIte, reduceIte, eq_self, Bool.false_eq_true, or_true, true_or, or_false, false_or, or_self, and_true, true_and, and_false, false_and, not_true_eq_false, not_false_eq_true])
    | (exfalso; simp only [zs_01, zs_cl, Int32.lt_iff_toInt_lt, Int32.le_iff_toInt_le, ← Int32.toInt_inj, zt_m2000000000, zt_m100, zt_m15, zt_m14, zt_m13, zt_m12, zt_m11, zt_m10, zt_m9, zt_m8, zt_m7, zt_m6, zt_m5, zt_m4, zt_m3, zt_m2, zt_m1, zt_0, zt_1, zt_2, zt_3, zt_4, zt_5, zt_6, zt_7, zt_8, zt_9, zt_10, zt_11, zt_12, zt_13, zt_14, zt_15, zt_16, zt_17, zt_18, zt_19, zt_20, zt_21, zt_22, zt_23, zt_24, zt_25, zt_26, zt_27, zt_28, zt_29, zt_30, zt_31, zt_32, zt_33, zt_34, zt_35, zt_36, zt_37, zt_38, zt_39, zt_40, zt_41, zt_42, zt_43, zt_44, zt_45, zt_46, zt_47, zt_48, zt_49, zt_50, zt_51, zt_52, zt_53, zt_54, zt_55, zt_56, zt_57, zt_58, zt_59, zt_60, zt_61, zt_62, zt_63, zt_64, zt_65, zt_66, zt_67, zt_68, zt_69, zt_81, zt_82, zt_99, zt_100, zt_120, zt_1000, zt_9999, zt_10000] at *; omega)
    | (refine zk_bsE rfl ?_; try dsimp only)
    | (refine zk_kI ?_; first | rfl | decide | (simp only [f_X12_wish, B_X12_wish_0, f_X12_isClaim, B_X12_isClaim_0, f_X12_in, B_X12_in_0, B_X12_wish_21, zk_b2, zk_b3, zk_b4, zk_b5, zk_b6, zk_let]; with_reducible refine (?_ : zk_k _ _))))
set_option maxHeartbeats 4000000 in
set_option maxRecDepth 100000 in
theorem pe_order {g pf : Nat → Option Nat} {ae : Nat → Nat} {wb : Nat} (GF : ∀ t, t < 8 → g (24 + t) = some (ae 0)) (PF : ∀ j, j < 6 → pf j = some (ae (2 + 2 * j))) (a0 : Int32) (a1 : Int32) : ∃ R1 R2, f_X11_order  a0 a1 0 (.ref wb) 0 0 = some R1 ∧ f_X12_order  a0 a1 0 0 0 0 0 0 0 0 0 0 0 0 0 0 0 0 0 ((fun _ => 0)) ((fun _ => 0)) ((fun _ => 0)) ((fun _ => 0)) ((fun _ => 0)) ((fun _ => 0)) ((fun _ => 0)) ((fun _ => 0)) ((fun _ => 0)) ((fun _ => 0)) ((fun _ => 0)) ((fun _ => 0)) ((fun _ => 0)) ((fun _ => 0)) ((fun _ => 0)) ((fun _ => 0)) ((fun _ => 0)) ((fun _ => 0)) ((fun _ => 0)) ((fun _ => 0)) ((fun _ => 0)) ((fun _ => 0)) ((fun _ => 0)) ((fun _ => 0)) ((fun _ => 0)) ((fun _ => 0)) ((fun _ => 0)) ((fun _ => 0)) ((fun _ => 0)) = some R2 ∧ R1.1 = R2.1 := by
  refine zk_go ?_
  clear GF PF
  simp only [f_X11_order, B_X11_order_0, f_X11_isWhen, B_X11_isWhen_0, f_X11_isDay, B_X11_isDay_0, f_X11_isLand, B_X11_isLand_0, f_X11_isChoice, B_X11_isChoice_0, B_X11_isChoice_9, zk_b2, zk_b3, zk_b4, zk_b5, zk_b6, zk_let]
  repeat' (first
    | (with_reducible refine zk_kI ?_; first | rfl | decide | (simp only [f_X12_order, B_X12_order_0, f_X12_isWhen, B_X12_isWhen_0, f_X12_isDay, B_X12_isDay_0, f_X12_in, B_X12_in_0, f_X12_isLand, B_X12_isLand_0, zk_b2, zk_b3, zk_b4, zk_b5, zk_b6, zk_let]; done) | (simp only [f_X12_order, B_X12_order_0, f_X12_isWhen, B_X12_isWhen_0, f_X12_isDay, B_X12_isDay_0, f_X12_in, B_X12_in_0, f_X12_isLand, B_X12_isLand_0, zk_b2, zk_b3, zk_b4, zk_b5, zk_b6, zk_let]; with_reducible refine (?_ : zk_k _ _)))
    | with_reducible refine zk_iteT (by assumption) ?_
    | with_reducible refine zk_iteF (by assumption) ?_
    | with_reducible refine zk_iteN (by assumption) ?_
    | with_reducible refine zk_iteT (by decide) ?_
    | with_reducible refine zk_iteF (by decide) ?_
    | with_reducible refine zk_biteT (by assumption) ?_
    | with_reducible refine zk_biteF (by assumption) ?_
    | with_reducible refine zk_biteN (by assumption) ?_
    | with_reducible refine zk_biteT (by decide) ?_
    | with_reducible refine zk_biteF (by decide) ?_
    | (with_reducible refine zk_bs ?_; try dsimp only)
    | with_reducible refine zk_bas ?_
    | with_reducible refine zk_ite (fun _ => ?_) (fun _ => ?_)
    | with_reducible refine zk_bite (fun _ => ?_) (fun _ => ?_)
    | (simp only [Option.bind_some, Option.bind_none, ↓reduceIte, reduceIte, eq_self, Bool.false_eq_true, or_true, true_or, or_false, false_or, or_self, and_true, true_and, and_false, false_and, not_true_eq_false, not_false_eq_true])
    | (exfalso; simp only [zs_01, zs_cl, Int32.lt_iff_toInt_lt, Int32.le_iff_toInt_le, ← Int32.toInt_inj, zt_m2000000000, zt_m100, zt_m15, zt_m14, zt_m13, zt_m12, zt_m11, zt_m10, zt_m9, zt_m8, zt_m7, zt_m6, zt_m5, zt_m4, zt_m3, zt_m2, zt_m1, zt_0, zt_1, zt_2, zt_3, zt_4, zt_5, zt_6, zt_7, zt_8, zt_9, zt_10, zt_11, zt_12, zt_13, zt_14, zt_15, zt_16, zt_17, zt_18, zt_19, zt_20, zt_21, zt_22, zt_23, zt_24, zt_25, zt_26, zt_27, zt_28, zt_29, zt_30, zt_31, zt_32, zt_33, zt_34, zt_35, zt_36, zt_37, zt_38, zt_39, zt_40, zt_41, zt_42, zt_43, zt_44, zt_45, zt_46, zt_47, zt_48, zt_49, zt_50, zt_51, zt_52, zt_53, zt_54, zt_55, zt_56, zt_57, zt_58, zt_59, zt_60, zt_61, zt_62, zt_63, zt_64, zt_65, zt_66, zt_67, zt_68, zt_69, zt_81, zt_82, zt_99, zt_100, zt_120, zt_1000, zt_9999, zt_10000] at *; omega)
    | (refine zk_bsE rfl ?_; try dsimp only)
    | (refine zk_kI ?_; first | rfl | decide | (simp only [f_X12_order, B_X12_order_0, f_X12_isWhen, B_X12_isWhen_0, f_X12_isDay, B_X12_isDay_0, f_X12_in, B_X12_in_0, f_X12_isLand, B_X12_isLand_0, zk_b2, zk_b3, zk_b4, zk_b5, zk_b6, zk_let]; with_reducible refine (?_ : zk_k _ _))))
set_option maxHeartbeats 4000000 in
set_option maxRecDepth 100000 in
theorem pe_unwish {g pf : Nat → Option Nat} {ae : Nat → Nat} {wb : Nat} (GF : ∀ t, t < 8 → g (24 + t) = some (ae 0)) (PF : ∀ j, j < 6 → pf j = some (ae (2 + 2 * j)))  : ∃ R1 R2, f_X11_unwish   0 (.ref wb) 0 0 = some R1 ∧ f_X12_unwish   0 0 0 0 0 0 0 0 0 0 0 0 0 0 0 0 0 = some R2 ∧ R1.1 = R2.1 := by
  refine zk_go ?_
  clear GF PF
  simp only [f_X11_unwish, B_X11_unwish_0, zk_b2, zk_b3, zk_b4, zk_b5, zk_b6, zk_let]
  repeat' (first
    | (with_reducible refine zk_kI ?_; first | rfl | decide | (simp only [f_X12_unwish, B_X12_unwish_0, zk_b2, zk_b3, zk_b4, zk_b5, zk_b6, zk_let]; done) | (simp only [f_X12_unwish, B_X12_unwish_0, zk_b2, zk_b3, zk_b4, zk_b5, zk_b6, zk_let]; with_reducible refine (?_ : zk_k _ _)))
    | with_reducible refine zk_iteT (by assumption) ?_
    | with_reducible refine zk_iteF (by assumption) ?_
    | with_reducible refine zk_iteN (by assumption) ?_
    | with_reducible refine zk_iteT (by decide) ?_
    | with_reducible refine zk_iteF (by decide) ?_
    | with_reducible refine zk_biteT (by assumption) ?_
    | with_reducible refine zk_biteF (by assumption) ?_
    | with_reducible refine zk_biteN (by assumption) ?_
    | with_reducible refine zk_biteT (by decide) ?_
    | with_reducible refine zk_biteF (by decide) ?_
    | (with_reducible refine zk_bs ?_; try dsimp only)
    | with_reducible refine zk_bas ?_
    | with_reducible refine zk_ite (fun _ => ?_) (fun _ => ?_)
    | with_reducible refine zk_bite (fun _ => ?_) (fun _ => ?_)
    | (simp only [Option.bind_some, Option.bind_none, ↓reduceIte, reduceIte, eq_self, Bool.false_eq_true, or_true, true_or, or_false, false_or, or_self, and_true, true_and, and_false, false_and, not_true_eq_false, not_false_eq_true])
    | (exfalso; simp only [zs_01, zs_cl, Int32.lt_iff_toInt_lt, Int32.le_iff_toInt_le, ← Int32.toInt_inj, zt_m2000000000, zt_m100, zt_m15, zt_m14, zt_m13, zt_m12, zt_m11, zt_m10, zt_m9, zt_m8, zt_m7, zt_m6, zt_m5, zt_m4, zt_m3, zt_m2, zt_m1, zt_0, zt_1, zt_2, zt_3, zt_4, zt_5, zt_6, zt_7, zt_8, zt_9, zt_10, zt_11, zt_12, zt_13, zt_14, zt_15, zt_16, zt_17, zt_18, zt_19, zt_20, zt_21, zt_22, zt_23, zt_24, zt_25, zt_26, zt_27, zt_28, zt_29, zt_30, zt_31, zt_32, zt_33, zt_34, zt_35, zt_36, zt_37, zt_38, zt_39, zt_40, zt_41, zt_42, zt_43, zt_44, zt_45, zt_46, zt_47, zt_48, zt_49, zt_50, zt_51, zt_52, zt_53, zt_54, zt_55, zt_56, zt_57, zt_58, zt_59, zt_60, zt_61, zt_62, zt_63, zt_64, zt_65, zt_66, zt_67, zt_68, zt_69, zt_81, zt_82, zt_99, zt_100, zt_120, zt_1000, zt_9999, zt_10000] at *; omega)
    | (refine zk_bsE rfl ?_; try dsimp only)
    | (refine zk_kI ?_; first | rfl | decide | (simp only [f_X12_unwish, B_X12_unwish_0, zk_b2, zk_b3, zk_b4, zk_b5, zk_b6, zk_let]; with_reducible refine (?_ : zk_k _ _))))
set_option maxHeartbeats 4000000 in
set_option maxRecDepth 100000 in
theorem pe_joined {g pf : Nat → Option Nat} {ae : Nat → Nat} {wb : Nat} (GF : ∀ t, t < 8 → g (24 + t) = some (ae 0)) (PF : ∀ j, j < 6 → pf j = some (ae (2 + 2 * j))) (a0 : Int32) (a1 : Int32) (a2 : Int32) : ∃ R1 R2, f_X11_joined  a0 a1 a2 0 0 0 (fun _ => 0) (fun _ => 0) 0 0 0 (fun _ => 0) (fun _ => 0) (fun _ => 0) (fun _ => 0) (fun _ => 0) = some R1 ∧ f_X12_joined  4000 a0 a1 a2 0 0 0 0 0 0 0 0 0 0 0 0 0 0 0 0 0 ((fun _ => 0)) ((fun _ => 0)) ((fun _ => 0)) ((fun _ => 0)) ((fun _ => 0)) ((fun _ => 0)) ((fun _ => 0)) ((fun _ => 0)) ((fun _ => 0)) ((fun _ => 0)) ((fun _ => 0)) ((fun _ => 0)) ((fun _ => 0)) ((fun _ => 0)) ((fun _ => 0)) ((fun _ => 0)) ((fun _ => 0)) = some R2 ∧ R1.1 = R2.1 := by sorry
set_option maxHeartbeats 4000000 in
set_option maxRecDepth 100000 in
theorem pe_ring {g pf : Nat → Option Nat} {ae : Nat → Nat} {wb : Nat} (GF : ∀ t, t < 8 → g (24 + t) = some (ae 0)) (PF : ∀ j, j < 6 → pf j = some (ae (2 + 2 * j))) (a0 : Int32) : ∃ R1 R2, f_X11_ring (ae 0) 4000 a0 (fun _ => 0) 0 0 0 g 0 0 0 (fun _ => 0) (fun _ => 0) (va_cpy zr_3.2.2.2.2 (fun _ => 0) 0 0 2) 2 = some R1 ∧ f_X12_ring  4000 a0 0 0 0 0 0 0 0 0 0 0 0 0 0 0 0 0 0 ((fun _ => 0)) ((fun _ => 0)) ((fun _ => 0)) ((fun _ => 0)) ((fun _ => 0)) ((fun _ => 0)) ((fun _ => 0)) = some R2 ∧ R1.1 = R2.1 := by sorry
set_option maxHeartbeats 4000000 in
set_option maxRecDepth 100000 in
theorem pe_hangs {g pf : Nat → Option Nat} {ae : Nat → Nat} {wb : Nat} (GF : ∀ t, t < 8 → g (24 + t) = some (ae 0)) (PF : ∀ j, j < 6 → pf j = some (ae (2 + 2 * j))) (a0 : Int32) (a1 : Int32) (a2 : Int32) : ∃ R1 R2, f_X11_hangs  a0 a1 a2 0 0 0 (fun _ => 0) (fun _ => 0) 0 0 0 (fun _ => 0) (fun _ => 0) (fun _ => 0) (fun _ => 0) (fun _ => 0) = some R1 ∧ f_X12_hangs  4000 a0 a1 a2 0 0 0 0 0 0 0 0 0 0 0 0 0 0 0 0 0 ((fun _ => 0)) ((fun _ => 0)) ((fun _ => 0)) ((fun _ => 0)) ((fun _ => 0)) ((fun _ => 0)) ((fun _ => 0)) ((fun _ => 0)) ((fun _ => 0)) ((fun _ => 0)) ((fun _ => 0)) ((fun _ => 0)) ((fun _ => 0)) ((fun _ => 0)) ((fun _ => 0)) ((fun _ => 0)) ((fun _ => 0)) ((fun _ => 0)) ((fun _ => 0)) ((fun _ => 0)) ((fun _ => 0)) ((fun _ => 0)) ((fun _ => 0)) ((fun _ => 0)) ((fun _ => 0)) ((fun _ => 0)) ((fun _ => 0)) = some R2 ∧ R1.1 = R2.1 := by
  refine zk_go ?_
  clear GF PF
  simp only [f_X11_hangs, B_X11_hangs_0, f_X11_isClaimOf, B_X11_isClaimOf_0, f_X11_isClaim, B_X11_isClaim_0, B_X11_isClaimOf_20, f_X11_isPair, B_X11_isPair_0, f_X11_isWhen, B_X11_isWhen_0, f_X11_isDay, B_X11_isDay_0, f_X11_isLand, B_X11_isLand_0, zk_b2, zk_b3, zk_b4, zk_b5, zk_b6, zk_let]
  repeat' (first
    | (with_reducible refine zk_kI ?_; first | rfl | decide | (simp only [f_X12_hangs, B_X12_hangs_0, f_X12_isAsk, B_X12_isAsk_0, f_X12_isClaim, B_X12_isClaim_0, f_X12_in, B_X12_in_0, B_X12_isAsk_20, f_X12_isWhen, B_X12_isWhen_0, f_X12_isDay, B_X12_isDay_0, f_X12_isLand, B_X12_isLand_0, f_X12_isPair, B_X12_isPair_0, f_X12_sideBy, B_X12_sideBy_0, f_X12_sideOn, B_X12_sideOn_0, B_X12_hangs_68, zk_b2, zk_b3, zk_b4, zk_b5, zk_b6, zk_let]; done) | (simp only [f_X12_hangs, B_X12_hangs_0, f_X12_isAsk, B_X12_isAsk_0, f_X12_isClaim, B_X12_isClaim_0, f_X12_in, B_X12_in_0, B_X12_isAsk_20, f_X12_isWhen, B_X12_isWhen_0, f_X12_isDay, B_X12_isDay_0, f_X12_isLand, B_X12_isLand_0, f_X12_isPair, B_X12_isPair_0, f_X12_sideBy, B_X12_sideBy_0, f_X12_sideOn, B_X12_sideOn_0, B_X12_hangs_68, zk_b2, zk_b3, zk_b4, zk_b5, zk_b6, zk_let]; with_reducible refine (?_ : zk_k _ _)))
    | with_reducible refine zk_iteT (by assumption) ?_
    | with_reducible refine zk_iteF (by assumption) ?_
    | with_reducible refine zk_iteN (by assumption) ?_
    | with_reducible refine zk_iteT (by decide) ?_
    | with_reducible refine zk_iteF (by decide) ?_
    | with_reducible refine zk_biteT (by assumption) ?_
    | with_reducible refine zk_biteF (by assumption) ?_
    | with_reducible refine zk_biteN (by assumption) ?_
    | with_reducible refine zk_biteT (by decide) ?_
    | with_reducible refine zk_biteF (by decide) ?_
    | (with_reducible refine zk_bs ?_; try dsimp only)
    | with_reducible refine zk_bas ?_
    | with_reducible refine zk_ite (fun _ => ?_) (fun _ => ?_)
    | with_reducible refine zk_bite (fun _ => ?_) (fun _ => ?_)
    | (simp only [Option.bind_some, Option.bind_none, ↓reduceIte, reduceIte, eq_self, Bool.false_eq_true, or_true, true_or, or_false, false_or, or_self, and_true, true_and, and_false, false_and, not_true_eq_false, not_false_eq_true])
    | (exfalso; simp only [zs_01, zs_cl, Int32.lt_iff_toInt_lt, Int32.le_iff_toInt_le, ← Int32.toInt_inj, zt_m2000000000, zt_m100, zt_m15, zt_m14, zt_m13, zt_m12, zt_m11, zt_m10, zt_m9, zt_m8, zt_m7, zt_m6, zt_m5, zt_m4, zt_m3, zt_m2, zt_m1, zt_0, zt_1, zt_2, zt_3, zt_4, zt_5, zt_6, zt_7, zt_8, zt_9, zt_10, zt_11, zt_12, zt_13, zt_14, zt_15, zt_16, zt_17, zt_18, zt_19, zt_20, zt_21, zt_22, zt_23, zt_24, zt_25, zt_26, zt_27, zt_28, zt_29, zt_30, zt_31, zt_32, zt_33, zt_34, zt_35, zt_36, zt_37, zt_38, zt_39, zt_40, zt_41, zt_42, zt_43, zt_44, zt_45, zt_46, zt_47, zt_48, zt_49, zt_50, zt_51, zt_52, zt_53, zt_54, zt_55, zt_56, zt_57, zt_58, zt_59, zt_60, zt_61, zt_62, zt_63, zt_64, zt_65, zt_66, zt_67, zt_68, zt_69, zt_81, zt_82, zt_99, zt_100, zt_120, zt_1000, zt_9999, zt_10000] at *; omega)
    | (refine zk_bsE rfl ?_; try dsimp only)
    | (refine zk_kI ?_; first | rfl | decide | (simp only [f_X12_hangs, B_X12_hangs_0, f_X12_isAsk, B_X12_isAsk_0, f_X12_isClaim, B_X12_isClaim_0, f_X12_in, B_X12_in_0, B_X12_isAsk_20, f_X12_isWhen, B_X12_isWhen_0, f_X12_isDay, B_X12_isDay_0, f_X12_isLand, B_X12_isLand_0, f_X12_isPair, B_X12_isPair_0, f_X12_sideBy, B_X12_sideBy_0, f_X12_sideOn, B_X12_sideOn_0, B_X12_hangs_68, zk_b2, zk_b3, zk_b4, zk_b5, zk_b6, zk_let]; with_reducible refine (?_ : zk_k _ _))))
set_option maxHeartbeats 4000000 in
set_option maxRecDepth 100000 in
theorem pe_need {g pf : Nat → Option Nat} {ae : Nat → Nat} {wb : Nat} (GF : ∀ t, t < 8 → g (24 + t) = some (ae 0)) (PF : ∀ j, j < 6 → pf j = some (ae (2 + 2 * j))) (a0 : Int32) (a1 : Int32) (a2 : Int32) : ∃ R1 R2, f_X11_need  4000 a0 a1 a2 0 0 0 (fun _ => 0) (fun _ => 0) 0 0 0 (fun _ => 0) (fun _ => 0) (fun _ => 0) (fun _ => 0) (fun _ => 0) = some R1 ∧ f_X12_need  4000 a0 a1 a2 0 0 0 0 0 0 0 0 0 0 0 0 0 0 0 0 0 ((fun _ => 0)) ((fun _ => 0)) ((fun _ => 0)) ((fun _ => 0)) ((fun _ => 0)) ((fun _ => 0)) ((fun _ => 0)) ((fun _ => 0)) ((fun _ => 0)) ((fun _ => 0)) ((fun _ => 0)) ((fun _ => 0)) ((fun _ => 0)) ((fun _ => 0)) ((fun _ => 0)) ((fun _ => 0)) ((fun _ => 0)) ((fun _ => 0)) ((fun _ => 0)) ((fun _ => 0)) ((fun _ => 0)) = some R2 ∧ R1.1 = R2.1 := by
  refine zk_go ?_
  clear GF PF
  simp only [f_X11_need, B_X11_need_0, f_X11_isPoint, B_X11_isPoint_0, f_X11_isPair, B_X11_isPair_0, f_X11_isWhen, B_X11_isWhen_0, f_X11_isDay, B_X11_isDay_0, f_X11_isLand, B_X11_isLand_0, B_X11_need_69, zk_b2, zk_b3, zk_b4, zk_b5, zk_b6, zk_let]
  repeat' (first
    | (with_reducible refine zk_kI ?_; first | rfl | decide | (simp only [f_X12_need, B_X12_need_0, f_X12_isPoint, B_X12_isPoint_0, f_X12_in, B_X12_in_0, f_X12_isPair, B_X12_isPair_0, f_X12_isWhen, B_X12_isWhen_0, f_X12_isDay, B_X12_isDay_0, f_X12_isLand, B_X12_isLand_0, B_X12_need_70, zk_b2, zk_b3, zk_b4, zk_b5, zk_b6, zk_let]; done) | (simp only [f_X12_need, B_X12_need_0, f_X12_isPoint, B_X12_isPoint_0, f_X12_in, B_X12_in_0, f_X12_isPair, B_X12_isPair_0, f_X12_isWhen, B_X12_isWhen_0, f_X12_isDay, B_X12_isDay_0, f_X12_isLand, B_X12_isLand_0, B_X12_need_70, zk_b2, zk_b3, zk_b4, zk_b5, zk_b6, zk_let]; with_reducible refine (?_ : zk_k _ _)))
    | with_reducible refine zk_iteT (by assumption) ?_
    | with_reducible refine zk_iteF (by assumption) ?_
    | with_reducible refine zk_iteN (by assumption) ?_
    | with_reducible refine zk_iteT (by decide) ?_
    | with_reducible refine zk_iteF (by decide) ?_
    | with_reducible refine zk_biteT (by assumption) ?_
    | with_reducible refine zk_biteF (by assumption) ?_
    | with_reducible refine zk_biteN (by assumption) ?_
    | with_reducible refine zk_biteT (by decide) ?_
    | with_reducible refine zk_biteF (by decide) ?_
    | (with_reducible refine zk_bs ?_; try dsimp only)
    | with_reducible refine zk_bas ?_
    | with_reducible refine zk_ite (fun _ => ?_) (fun _ => ?_)
    | with_reducible refine zk_bite (fun _ => ?_) (fun _ => ?_)
    | (simp only [Option.bind_some, Option.bind_none, ↓reduceIte, reduceIte, eq_self, Bool.false_eq_true, or_true, true_or, or_false, false_or, or_self, and_true, true_and, and_false, false_and, not_true_eq_false, not_false_eq_true])
    | (exfalso; simp only [zs_01, zs_cl, Int32.lt_iff_toInt_lt, Int32.le_iff_toInt_le, ← Int32.toInt_inj, zt_m2000000000, zt_m100, zt_m15, zt_m14, zt_m13, zt_m12, zt_m11, zt_m10, zt_m9, zt_m8, zt_m7, zt_m6, zt_m5, zt_m4, zt_m3, zt_m2, zt_m1, zt_0, zt_1, zt_2, zt_3, zt_4, zt_5, zt_6, zt_7, zt_8, zt_9, zt_10, zt_11, zt_12, zt_13, zt_14, zt_15, zt_16, zt_17, zt_18, zt_19, zt_20, zt_21, zt_22, zt_23, zt_24, zt_25, zt_26, zt_27, zt_28, zt_29, zt_30, zt_31, zt_32, zt_33, zt_34, zt_35, zt_36, zt_37, zt_38, zt_39, zt_40, zt_41, zt_42, zt_43, zt_44, zt_45, zt_46, zt_47, zt_48, zt_49, zt_50, zt_51, zt_52, zt_53, zt_54, zt_55, zt_56, zt_57, zt_58, zt_59, zt_60, zt_61, zt_62, zt_63, zt_64, zt_65, zt_66, zt_67, zt_68, zt_69, zt_81, zt_82, zt_99, zt_100, zt_120, zt_1000, zt_9999, zt_10000] at *; omega)
    | (refine zk_bsE rfl ?_; try dsimp only)
    | (refine zk_kI ?_; first | rfl | decide | (simp only [f_X12_need, B_X12_need_0, f_X12_isPoint, B_X12_isPoint_0, f_X12_in, B_X12_in_0, f_X12_isPair, B_X12_isPair_0, f_X12_isWhen, B_X12_isWhen_0, f_X12_isDay, B_X12_isDay_0, f_X12_isLand, B_X12_isLand_0, B_X12_need_70, zk_b2, zk_b3, zk_b4, zk_b5, zk_b6, zk_let]; with_reducible refine (?_ : zk_k _ _))))
set_option maxHeartbeats 4000000 in
set_option maxRecDepth 100000 in
theorem pe_undo {g pf : Nat → Option Nat} {ae : Nat → Nat} {wb : Nat} (GF : ∀ t, t < 8 → g (24 + t) = some (ae 0)) (PF : ∀ j, j < 6 → pf j = some (ae (2 + 2 * j)))  : ∃ R1 R2, f_X11_undo   0 0 (fun _ => 0) (fun _ => 0) (fun _ => 0) = some R1 ∧ f_X12_undo   0 0 0 0 0 0 0 0 0 0 0 0 0 0 0 0 0 ((fun _ => 0)) ((fun _ => 0)) ((fun _ => 0)) ((fun _ => 0)) ((fun _ => 0)) ((fun _ => 0)) = some R2 ∧ R1.1 = R2.1 := by
  refine zk_go ?_
  clear GF PF
  simp only [f_X11_undo, B_X11_undo_0, f_X1_back, B_X1_back_0, zk_b2, zk_b3, zk_b4, zk_b5, zk_b6, zk_let]
  repeat' (first
    | (with_reducible refine zk_kI ?_; first | rfl | decide | (simp only [f_X12_undo, B_X12_undo_0, zk_b2, zk_b3, zk_b4, zk_b5, zk_b6, zk_let]; done) | (simp only [f_X12_undo, B_X12_undo_0, zk_b2, zk_b3, zk_b4, zk_b5, zk_b6, zk_let]; with_reducible refine (?_ : zk_k _ _)))
    | with_reducible refine zk_iteT (by assumption) ?_
    | with_reducible refine zk_iteF (by assumption) ?_
    | with_reducible refine zk_iteN (by assumption) ?_
    | with_reducible refine zk_iteT (by decide) ?_
    | with_reducible refine zk_iteF (by decide) ?_
    | with_reducible refine zk_biteT (by assumption) ?_
    | with_reducible refine zk_biteF (by assumption) ?_
    | with_reducible refine zk_biteN (by assumption) ?_
    | with_reducible refine zk_biteT (by decide) ?_
    | with_reducible refine zk_biteF (by decide) ?_
    | (with_reducible refine zk_bs ?_; try dsimp only)
    | with_reducible refine zk_bas ?_
    | with_reducible refine zk_ite (fun _ => ?_) (fun _ => ?_)
    | with_reducible refine zk_bite (fun _ => ?_) (fun _ => ?_)
    | (simp only [Option.bind_some, Option.bind_none, ↓reduceIte, reduceIte, eq_self, Bool.false_eq_true, or_true, true_or, or_false, false_or, or_self, and_true, true_and, and_false, false_and, not_true_eq_false, not_false_eq_true])
    | (exfalso; simp only [zs_01, zs_cl, Int32.lt_iff_toInt_lt, Int32.le_iff_toInt_le, ← Int32.toInt_inj, zt_m2000000000, zt_m100, zt_m15, zt_m14, zt_m13, zt_m12, zt_m11, zt_m10, zt_m9, zt_m8, zt_m7, zt_m6, zt_m5, zt_m4, zt_m3, zt_m2, zt_m1, zt_0, zt_1, zt_2, zt_3, zt_4, zt_5, zt_6, zt_7, zt_8, zt_9, zt_10, zt_11, zt_12, zt_13, zt_14, zt_15, zt_16, zt_17, zt_18, zt_19, zt_20, zt_21, zt_22, zt_23, zt_24, zt_25, zt_26, zt_27, zt_28, zt_29, zt_30, zt_31, zt_32, zt_33, zt_34, zt_35, zt_36, zt_37, zt_38, zt_39, zt_40, zt_41, zt_42, zt_43, zt_44, zt_45, zt_46, zt_47, zt_48, zt_49, zt_50, zt_51, zt_52, zt_53, zt_54, zt_55, zt_56, zt_57, zt_58, zt_59, zt_60, zt_61, zt_62, zt_63, zt_64, zt_65, zt_66, zt_67, zt_68, zt_69, zt_81, zt_82, zt_99, zt_100, zt_120, zt_1000, zt_9999, zt_10000] at *; omega)
    | (refine zk_bsE rfl ?_; try dsimp only)
    | (refine zk_kI ?_; first | rfl | decide | (simp only [f_X12_undo, B_X12_undo_0, zk_b2, zk_b3, zk_b4, zk_b5, zk_b6, zk_let]; with_reducible refine (?_ : zk_k _ _))))
set_option maxHeartbeats 4000000 in
set_option maxRecDepth 100000 in
theorem pe_redo {g pf : Nat → Option Nat} {ae : Nat → Nat} {wb : Nat} (GF : ∀ t, t < 8 → g (24 + t) = some (ae 0)) (PF : ∀ j, j < 6 → pf j = some (ae (2 + 2 * j)))  : ∃ R1 R2, f_X11_redo   0 0 (fun _ => 0) (fun _ => 0) (fun _ => 0) = some R1 ∧ f_X12_redo   0 0 0 0 0 0 0 0 0 0 0 0 0 0 0 0 0 ((fun _ => 0)) ((fun _ => 0)) ((fun _ => 0)) ((fun _ => 0)) ((fun _ => 0)) ((fun _ => 0)) = some R2 ∧ R1.1 = R2.1 := by
  refine zk_go ?_
  clear GF PF
  simp only [f_X11_redo, B_X11_redo_0, f_X1_again, B_X1_again_0, zk_b2, zk_b3, zk_b4, zk_b5, zk_b6, zk_let]
  repeat' (first
    | (with_reducible refine zk_kI ?_; first | rfl | decide | (simp only [f_X12_redo, B_X12_redo_0, zk_b2, zk_b3, zk_b4, zk_b5, zk_b6, zk_let]; done) | (simp only [f_X12_redo, B_X12_redo_0, zk_b2, zk_b3, zk_b4, zk_b5, zk_b6, zk_let]; with_reducible refine (?_ : zk_k _ _)))
    | with_reducible refine zk_iteT (by assumption) ?_
    | with_reducible refine zk_iteF (by assumption) ?_
    | with_reducible refine zk_iteN (by assumption) ?_
    | with_reducible refine zk_iteT (by decide) ?_
    | with_reducible refine zk_iteF (by decide) ?_
    | with_reducible refine zk_biteT (by assumption) ?_
    | with_reducible refine zk_biteF (by assumption) ?_
    | with_reducible refine zk_biteN (by assumption) ?_
    | with_reducible refine zk_biteT (by decide) ?_
    | with_reducible refine zk_biteF (by decide) ?_
    | (with_reducible refine zk_bs ?_; try dsimp only)
    | with_reducible refine zk_bas ?_
    | with_reducible refine zk_ite (fun _ => ?_) (fun _ => ?_)
    | with_reducible refine zk_bite (fun _ => ?_) (fun _ => ?_)
    | (simp only [Option.bind_some, Option.bind_none, ↓reduceIte, reduceIte, eq_self, Bool.false_eq_true, or_true, true_or, or_false, false_or, or_self, and_true, true_and, and_false, false_and, not_true_eq_false, not_false_eq_true])
    | (exfalso; simp only [zs_01, zs_cl, Int32.lt_iff_toInt_lt, Int32.le_iff_toInt_le, ← Int32.toInt_inj, zt_m2000000000, zt_m100, zt_m15, zt_m14, zt_m13, zt_m12, zt_m11, zt_m10, zt_m9, zt_m8, zt_m7, zt_m6, zt_m5, zt_m4, zt_m3, zt_m2, zt_m1, zt_0, zt_1, zt_2, zt_3, zt_4, zt_5, zt_6, zt_7, zt_8, zt_9, zt_10, zt_11, zt_12, zt_13, zt_14, zt_15, zt_16, zt_17, zt_18, zt_19, zt_20, zt_21, zt_22, zt_23, zt_24, zt_25, zt_26, zt_27, zt_28, zt_29, zt_30, zt_31, zt_32, zt_33, zt_34, zt_35, zt_36, zt_37, zt_38, zt_39, zt_40, zt_41, zt_42, zt_43, zt_44, zt_45, zt_46, zt_47, zt_48, zt_49, zt_50, zt_51, zt_52, zt_53, zt_54, zt_55, zt_56, zt_57, zt_58, zt_59, zt_60, zt_61, zt_62, zt_63, zt_64, zt_65, zt_66, zt_67, zt_68, zt_69, zt_81, zt_82, zt_99, zt_100, zt_120, zt_1000, zt_9999, zt_10000] at *; omega)
    | (refine zk_bsE rfl ?_; try dsimp only)
    | (refine zk_kI ?_; first | rfl | decide | (simp only [f_X12_redo, B_X12_redo_0, zk_b2, zk_b3, zk_b4, zk_b5, zk_b6, zk_let]; with_reducible refine (?_ : zk_k _ _))))
set_option maxHeartbeats 4000000 in
set_option maxRecDepth 100000 in
theorem pe_act {g pf : Nat → Option Nat} {ae : Nat → Nat} {wb : Nat} (GF : ∀ t, t < 8 → g (24 + t) = some (ae 0)) (PF : ∀ j, j < 6 → pf j = some (ae (2 + 2 * j))) (a0 : Int32) (a1 : Int32) (a2 : Int32) : ∃ R1 R2, f_X11_act  a0 a1 a2 0 0 0 0 0 0 0 = some R1 ∧ f_X12_act  a0 a1 a2 0 0 0 0 0 0 0 0 0 0 0 0 0 0 0 0 0 ((fun _ => 0)) ((fun _ => 0)) ((fun _ => 0)) ((fun _ => 0)) = some R2 ∧ R1.1 = R2.1 := by
  refine zk_go ?_
  clear GF PF
  simp only [f_X11_act, B_X11_act_0, f_X2_suitAt, B_X2_suitAt_0, zk_b2, zk_b3, zk_b4, zk_b5, zk_b6, zk_let]
  repeat' (first
    | (with_reducible refine zk_kI ?_; first | rfl | decide | (simp only [f_X12_act, B_X12_act_0, f_X12_isSuit, B_X12_isSuit_0, f_X12_in, B_X12_in_0, zk_b2, zk_b3, zk_b4, zk_b5, zk_b6, zk_let]; done) | (simp only [f_X12_act, B_X12_act_0, f_X12_isSuit, B_X12_isSuit_0, f_X12_in, B_X12_in_0, zk_b2, zk_b3, zk_b4, zk_b5, zk_b6, zk_let]; with_reducible refine (?_ : zk_k _ _)))
    | with_reducible refine zk_iteT (by assumption) ?_
    | with_reducible refine zk_iteF (by assumption) ?_
    | with_reducible refine zk_iteN (by assumption) ?_
    | with_reducible refine zk_iteT (by decide) ?_
    | with_reducible refine zk_iteF (by decide) ?_
    | with_reducible refine zk_biteT (by assumption) ?_
    | with_reducible refine zk_biteF (by assumption) ?_
    | with_reducible refine zk_biteN (by assumption) ?_
    | with_reducible refine zk_biteT (by decide) ?_
    | with_reducible refine zk_biteF (by decide) ?_
    | (with_reducible refine zk_bs ?_; try dsimp only)
    | with_reducible refine zk_bas ?_
    | with_reducible refine zk_ite (fun _ => ?_) (fun _ => ?_)
    | with_reducible refine zk_bite (fun _ => ?_) (fun _ => ?_)
    | (simp only [Option.bind_some, Option.bind_none, ↓reduceIte, reduceIte, eq_self, Bool.false_eq_true, or_true, true_or, or_false, false_or, or_self, and_true, true_and, and_false, false_and, not_true_eq_false, not_false_eq_true])
    | (exfalso; simp only [zs_01, zs_cl, Int32.lt_iff_toInt_lt, Int32.le_iff_toInt_le, ← Int32.toInt_inj, zt_m2000000000, zt_m100, zt_m15, zt_m14, zt_m13, zt_m12, zt_m11, zt_m10, zt_m9, zt_m8, zt_m7, zt_m6, zt_m5, zt_m4, zt_m3, zt_m2, zt_m1, zt_0, zt_1, zt_2, zt_3, zt_4, zt_5, zt_6, zt_7, zt_8, zt_9, zt_10, zt_11, zt_12, zt_13, zt_14, zt_15, zt_16, zt_17, zt_18, zt_19, zt_20, zt_21, zt_22, zt_23, zt_24, zt_25, zt_26, zt_27, zt_28, zt_29, zt_30, zt_31, zt_32, zt_33, zt_34, zt_35, zt_36, zt_37, zt_38, zt_39, zt_40, zt_41, zt_42, zt_43, zt_44, zt_45, zt_46, zt_47, zt_48, zt_49, zt_50, zt_51, zt_52, zt_53, zt_54, zt_55, zt_56, zt_57, zt_58, zt_59, zt_60, zt_61, zt_62, zt_63, zt_64, zt_65, zt_66, zt_67, zt_68, zt_69, zt_81, zt_82, zt_99, zt_100, zt_120, zt_1000, zt_9999, zt_10000] at *; omega)
    | (refine zk_bsE rfl ?_; try dsimp only)
    | (refine zk_kI ?_; first | rfl | decide | (simp only [f_X12_act, B_X12_act_0, f_X12_isSuit, B_X12_isSuit_0, f_X12_in, B_X12_in_0, zk_b2, zk_b3, zk_b4, zk_b5, zk_b6, zk_let]; with_reducible refine (?_ : zk_k _ _))))
set_option maxHeartbeats 4000000 in
set_option maxRecDepth 100000 in
theorem pe_trace {g pf : Nat → Option Nat} {ae : Nat → Nat} {wb : Nat} (GF : ∀ t, t < 8 → g (24 + t) = some (ae 0)) (PF : ∀ j, j < 6 → pf j = some (ae (2 + 2 * j))) (a0 : Int32) : ∃ R1 R2, f_X11_trace  a0 0 0 0 0 (fun _ => 0) = some R1 ∧ f_X12_trace  a0 0 0 0 0 0 0 0 0 0 0 0 0 0 0 0 0 0 ((fun _ => 0)) = some R2 ∧ R1.1 = R2.1 := by
  refine zk_go ?_
  clear GF PF
  simp only [f_X11_trace, B_X11_trace_0, zk_b2, zk_b3, zk_b4, zk_b5, zk_b6, zk_let]
  repeat' (first
    | (with_reducible refine zk_kI ?_; first | rfl | decide | (simp only [f_X12_trace, B_X12_trace_0, zk_b2, zk_b3, zk_b4, zk_b5, zk_b6, zk_let]; done) | (simp only [f_X12_trace, B_X12_trace_0, zk_b2, zk_b3, zk_b4, zk_b5, zk_b6, zk_let]; with_reducible refine (?_ : zk_k _ _)))
    | with_reducible refine zk_iteT (by assumption) ?_
    | with_reducible refine zk_iteF (by assumption) ?_
    | with_reducible refine zk_iteN (by assumption) ?_
    | with_reducible refine zk_iteT (by decide) ?_
    | with_reducible refine zk_iteF (by decide) ?_
    | with_reducible refine zk_biteT (by assumption) ?_
    | with_reducible refine zk_biteF (by assumption) ?_
    | with_reducible refine zk_biteN (by assumption) ?_
    | with_reducible refine zk_biteT (by decide) ?_
    | with_reducible refine zk_biteF (by decide) ?_
    | (with_reducible refine zk_bs ?_; try dsimp only)
    | with_reducible refine zk_bas ?_
    | with_reducible refine zk_ite (fun _ => ?_) (fun _ => ?_)
    | with_reducible refine zk_bite (fun _ => ?_) (fun _ => ?_)
    | (simp only [Option.bind_some, Option.bind_none, ↓reduceIte, reduceIte, eq_self, Bool.false_eq_true, or_true, true_or, or_false, false_or, or_self, and_true, true_and, and_false, false_and, not_true_eq_false, not_false_eq_true])
    | (exfalso; simp only [zs_01, zs_cl, Int32.lt_iff_toInt_lt, Int32.le_iff_toInt_le, ← Int32.toInt_inj, zt_m2000000000, zt_m100, zt_m15, zt_m14, zt_m13, zt_m12, zt_m11, zt_m10, zt_m9, zt_m8, zt_m7, zt_m6, zt_m5, zt_m4, zt_m3, zt_m2, zt_m1, zt_0, zt_1, zt_2, zt_3, zt_4, zt_5, zt_6, zt_7, zt_8, zt_9, zt_10, zt_11, zt_12, zt_13, zt_14, zt_15, zt_16, zt_17, zt_18, zt_19, zt_20, zt_21, zt_22, zt_23, zt_24, zt_25, zt_26, zt_27, zt_28, zt_29, zt_30, zt_31, zt_32, zt_33, zt_34, zt_35, zt_36, zt_37, zt_38, zt_39, zt_40, zt_41, zt_42, zt_43, zt_44, zt_45, zt_46, zt_47, zt_48, zt_49, zt_50, zt_51, zt_52, zt_53, zt_54, zt_55, zt_56, zt_57, zt_58, zt_59, zt_60, zt_61, zt_62, zt_63, zt_64, zt_65, zt_66, zt_67, zt_68, zt_69, zt_81, zt_82, zt_99, zt_100, zt_120, zt_1000, zt_9999, zt_10000] at *; omega)
    | (refine zk_bsE rfl ?_; try dsimp only)
    | (refine zk_kI ?_; first | rfl | decide | (simp only [f_X12_trace, B_X12_trace_0, zk_b2, zk_b3, zk_b4, zk_b5, zk_b6, zk_let]; with_reducible refine (?_ : zk_k _ _))))
set_option maxHeartbeats 4000000 in
set_option maxRecDepth 100000 in
theorem pe_keep {g pf : Nat → Option Nat} {ae : Nat → Nat} {wb : Nat} (GF : ∀ t, t < 8 → g (24 + t) = some (ae 0)) (PF : ∀ j, j < 6 → pf j = some (ae (2 + 2 * j))) (j0 : Nat) (hj0 : j0 < 6) (a0 : Int32) (a1 : Int32) (hp0 : (¬ a0 < 0 ∧ ¬ 6 ≤ a0) → a0.toNatClampNeg = j0) : ∃ R1 R2, f_X11_keep (ae (2 + 2 * j0)) a0 a1 pf 0 0 0 (-1) 0 0 = some R1 ∧ f_X12_keep  a0 a1 0 0 0 0 0 0 0 0 0 0 0 0 0 0 0 0 0 ((upd (upd (upd (upd (upd (upd (fun _ => 0) ((0 : Int32)).toNatClampNeg (-1 : Int32)) ((1 : Int32)).toNatClampNeg (-1 : Int32)) ((2 : Int32)).toNatClampNeg (-1 : Int32)) ((3 : Int32)).toNatClampNeg (-1 : Int32)) ((4 : Int32)).toNatClampNeg (-1 : Int32)) ((5 : Int32)).toNatClampNeg (-1 : Int32))) = some R2 ∧ R1.1 = R2.1 := by
  have hh : ∀ x : Int32, (¬ x < 0 ∧ ¬ 6 ≤ x) → (upd (upd (upd (upd (upd (upd (fun _ => 0) ((0 : Int32)).toNatClampNeg (-1 : Int32)) ((1 : Int32)).toNatClampNeg (-1 : Int32)) ((2 : Int32)).toNatClampNeg (-1 : Int32)) ((3 : Int32)).toNatClampNeg (-1 : Int32)) ((4 : Int32)).toNatClampNeg (-1 : Int32)) ((5 : Int32)).toNatClampNeg (-1 : Int32)) x.toNatClampNeg = -1 := by
    intro x hx
    rcases zk_c6 x with rfl | rfl | rfl | rfl | rfl | rfl | h
    · rfl
    · rfl
    · rfl
    · rfl
    · rfl
    · rfl
    · exact absurd hx (fun z => h.elim z.1 z.2)
  generalize (upd (upd (upd (upd (upd (upd (fun _ => 0) ((0 : Int32)).toNatClampNeg (-1 : Int32)) ((1 : Int32)).toNatClampNeg (-1 : Int32)) ((2 : Int32)).toNatClampNeg (-1 : Int32)) ((3 : Int32)).toNatClampNeg (-1 : Int32)) ((4 : Int32)).toNatClampNeg (-1 : Int32)) ((5 : Int32)).toNatClampNeg (-1 : Int32)) = HO at hh ⊢
  have hpf0 : (¬ a0 < 0 ∧ ¬ 6 ≤ a0) → pf a0.toNatClampNeg = some (ae (2 + 2 * j0)) := fun h => by rw [hp0 h]; exact PF j0 hj0
  generalize ae (2 + 2 * j0) = A0 at *
  clear GF PF
  by_cases hA0 : ¬ a0 < 0 ∧ ¬ 6 ≤ a0
  · have e0 := hpf0 hA0
    have f0 := hh a0 hA0
    clear hh hpf0
    refine zk_go ?_
    simp only [f_X11_keep, B_X11_keep_0, f_X11_placeAt, B_X11_placeAt_0, B_X11_keep_28, B_X11_keep_39, f_X2_suitAt, B_X2_suitAt_0, zk_b2, zk_b3, zk_b4, zk_b5, zk_b6, zk_let]
    repeat' (first
      | (with_reducible refine zk_kI ?_; first | rfl | decide | (simp only [f_X12_keep, B_X12_keep_0, f_X12_isShelf, B_X12_isShelf_0, f_X12_in, B_X12_in_0, B_X12_keep_22, f_X12_isSuit, B_X12_isSuit_0, zk_b2, zk_b3, zk_b4, zk_b5, zk_b6, zk_let]; done) | (simp only [f_X12_keep, B_X12_keep_0, f_X12_isShelf, B_X12_isShelf_0, f_X12_in, B_X12_in_0, B_X12_keep_22, f_X12_isSuit, B_X12_isSuit_0, zk_b2, zk_b3, zk_b4, zk_b5, zk_b6, zk_let]; with_reducible refine (?_ : zk_k _ _)))
      | with_reducible refine zk_iteT (by assumption) ?_
      | with_reducible refine zk_iteF (by assumption) ?_
      | with_reducible refine zk_iteN (by assumption) ?_
      | with_reducible refine zk_iteT (by decide) ?_
      | with_reducible refine zk_iteF (by decide) ?_
      | with_reducible refine zk_biteT (by assumption) ?_
      | with_reducible refine zk_biteF (by assumption) ?_
      | with_reducible refine zk_biteN (by assumption) ?_
      | with_reducible refine zk_biteT (by decide) ?_
      | with_reducible refine zk_biteF (by decide) ?_
      | (with_reducible refine zk_bs ?_; try dsimp only)
      | with_reducible refine zk_bas ?_
      | with_reducible refine zk_ite (fun _ => ?_) (fun _ => ?_)
      | with_reducible refine zk_bite (fun _ => ?_) (fun _ => ?_)
      | (simp only [Option.bind_some, Option.bind_none, ↓reduceIte, reduceIte, eq_self, Bool.false_eq_true, or_true, true_or, or_false, false_or, or_self, and_true, true_and, and_false, false_and, not_true_eq_false, not_false_eq_true, e0, f0])
      | (exfalso; simp only [zs_01, zs_cl, Int32.lt_iff_toInt_lt, Int32.le_iff_toInt_le, ← Int32.toInt_inj, zt_m2000000000, zt_m100, zt_m15, zt_m14, zt_m13, zt_m12, zt_m11, zt_m10, zt_m9, zt_m8, zt_m7, zt_m6, zt_m5, zt_m4, zt_m3, zt_m2, zt_m1, zt_0, zt_1, zt_2, zt_3, zt_4, zt_5, zt_6, zt_7, zt_8, zt_9, zt_10, zt_11, zt_12, zt_13, zt_14, zt_15, zt_16, zt_17, zt_18, zt_19, zt_20, zt_21, zt_22, zt_23, zt_24, zt_25, zt_26, zt_27, zt_28, zt_29, zt_30, zt_31, zt_32, zt_33, zt_34, zt_35, zt_36, zt_37, zt_38, zt_39, zt_40, zt_41, zt_42, zt_43, zt_44, zt_45, zt_46, zt_47, zt_48, zt_49, zt_50, zt_51, zt_52, zt_53, zt_54, zt_55, zt_56, zt_57, zt_58, zt_59, zt_60, zt_61, zt_62, zt_63, zt_64, zt_65, zt_66, zt_67, zt_68, zt_69, zt_81, zt_82, zt_99, zt_100, zt_120, zt_1000, zt_9999, zt_10000] at *; omega)
      | (refine zk_bsE rfl ?_; try dsimp only)
      | (refine zk_kI ?_; first | rfl | decide | (simp only [f_X12_keep, B_X12_keep_0, f_X12_isShelf, B_X12_isShelf_0, f_X12_in, B_X12_in_0, B_X12_keep_22, f_X12_isSuit, B_X12_isSuit_0, zk_b2, zk_b3, zk_b4, zk_b5, zk_b6, zk_let]; with_reducible refine (?_ : zk_k _ _))))
  · clear hh hpf0
    refine zk_go ?_
    simp only [f_X11_keep, B_X11_keep_0, f_X11_placeAt, B_X11_placeAt_0, B_X11_keep_28, B_X11_keep_39, f_X2_suitAt, B_X2_suitAt_0, zk_b2, zk_b3, zk_b4, zk_b5, zk_b6, zk_let]
    repeat' (first
      | (with_reducible refine zk_kI ?_; first | rfl | decide | (simp only [f_X12_keep, B_X12_keep_0, f_X12_isShelf, B_X12_isShelf_0, f_X12_in, B_X12_in_0, B_X12_keep_22, f_X12_isSuit, B_X12_isSuit_0, zk_b2, zk_b3, zk_b4, zk_b5, zk_b6, zk_let]; done) | (simp only [f_X12_keep, B_X12_keep_0, f_X12_isShelf, B_X12_isShelf_0, f_X12_in, B_X12_in_0, B_X12_keep_22, f_X12_isSuit, B_X12_isSuit_0, zk_b2, zk_b3, zk_b4, zk_b5, zk_b6, zk_let]; with_reducible refine (?_ : zk_k _ _)))
      | with_reducible refine zk_iteT (by assumption) ?_
      | with_reducible refine zk_iteF (by assumption) ?_
      | with_reducible refine zk_iteN (by assumption) ?_
      | with_reducible refine zk_iteT (by decide) ?_
      | with_reducible refine zk_iteF (by decide) ?_
      | with_reducible refine zk_biteT (by assumption) ?_
      | with_reducible refine zk_biteF (by assumption) ?_
      | with_reducible refine zk_biteN (by assumption) ?_
      | with_reducible refine zk_biteT (by decide) ?_
      | with_reducible refine zk_biteF (by decide) ?_
      | (with_reducible refine zk_bs ?_; try dsimp only)
      | with_reducible refine zk_bas ?_
      | with_reducible refine zk_ite (fun _ => ?_) (fun _ => ?_)
      | with_reducible refine zk_bite (fun _ => ?_) (fun _ => ?_)
      | (simp only [Option.bind_some, Option.bind_none, ↓reduceIte, reduceIte, eq_self, Bool.false_eq_true, or_true, true_or, or_false, false_or, or_self, and_true, true_and, and_false, false_and, not_true_eq_false, not_false_eq_true])
      | (exfalso; simp only [zs_01, zs_cl, Int32.lt_iff_toInt_lt, Int32.le_iff_toInt_le, ← Int32.toInt_inj, zt_m2000000000, zt_m100, zt_m15, zt_m14, zt_m13, zt_m12, zt_m11, zt_m10, zt_m9, zt_m8, zt_m7, zt_m6, zt_m5, zt_m4, zt_m3, zt_m2, zt_m1, zt_0, zt_1, zt_2, zt_3, zt_4, zt_5, zt_6, zt_7, zt_8, zt_9, zt_10, zt_11, zt_12, zt_13, zt_14, zt_15, zt_16, zt_17, zt_18, zt_19, zt_20, zt_21, zt_22, zt_23, zt_24, zt_25, zt_26, zt_27, zt_28, zt_29, zt_30, zt_31, zt_32, zt_33, zt_34, zt_35, zt_36, zt_37, zt_38, zt_39, zt_40, zt_41, zt_42, zt_43, zt_44, zt_45, zt_46, zt_47, zt_48, zt_49, zt_50, zt_51, zt_52, zt_53, zt_54, zt_55, zt_56, zt_57, zt_58, zt_59, zt_60, zt_61, zt_62, zt_63, zt_64, zt_65, zt_66, zt_67, zt_68, zt_69, zt_81, zt_82, zt_99, zt_100, zt_120, zt_1000, zt_9999, zt_10000] at *; omega)
      | (refine zk_bsE rfl ?_; try dsimp only)
      | (refine zk_kI ?_; first | rfl | decide | (simp only [f_X12_keep, B_X12_keep_0, f_X12_isShelf, B_X12_isShelf_0, f_X12_in, B_X12_in_0, B_X12_keep_22, f_X12_isSuit, B_X12_isSuit_0, zk_b2, zk_b3, zk_b4, zk_b5, zk_b6, zk_let]; with_reducible refine (?_ : zk_k _ _))))
set_option maxHeartbeats 4000000 in
set_option maxRecDepth 100000 in
theorem zc_row (a0 : Int32) (H S : Nat → Int32) (E : Nat → Int64) (h : ¬ a0 < 0) (h2 : ¬ 6 ≤ a0) : zk_k (G_X12_row 0 0 0 0 0 0 0 0 0 0 0 0 0 0 0 0 0 4000 a0 (60 * a0) H S E) (fun w => w = 1) := by
  rcases zk_c6 a0 with rfl | rfl | rfl | rfl | rfl | rfl | h6
  · exact ⟨_, rfl, rfl⟩
  · exact ⟨_, rfl, rfl⟩
  · exact ⟨_, rfl, rfl⟩
  · exact ⟨_, rfl, rfl⟩
  · exact ⟨_, rfl, rfl⟩
  · exact ⟨_, rfl, rfl⟩
  · exact absurd h6 (fun z => z.elim h h2)
set_option maxHeartbeats 4000000 in
set_option maxRecDepth 100000 in
theorem pe_row {g pf : Nat → Option Nat} {ae : Nat → Nat} {wb : Nat} (GF : ∀ t, t < 8 → g (24 + t) = some (ae 0)) (PF : ∀ j, j < 6 → pf j = some (ae (2 + 2 * j))) (j0 : Nat) (hj0 : j0 < 6) (a0 : Int32) (a1 : Int32) (a2 : Int32) (hp0 : (¬ a0 < 0 ∧ ¬ 6 ≤ a0) → a0.toNatClampNeg = j0) : ∃ R1 R2, f_X11_row (ae (2 + 2 * j0)) a0 a1 a2 pf (-1) 0 0 (fun _ => 0) = some R1 ∧ f_X12_row  4000 a0 a1 a2 0 0 0 0 0 0 0 0 0 0 0 0 0 0 0 0 0 ((upd (upd (upd (upd (upd (upd (fun _ => 0) ((0 : Int32)).toNatClampNeg (-1 : Int32)) ((1 : Int32)).toNatClampNeg (-1 : Int32)) ((2 : Int32)).toNatClampNeg (-1 : Int32)) ((3 : Int32)).toNatClampNeg (-1 : Int32)) ((4 : Int32)).toNatClampNeg (-1 : Int32)) ((5 : Int32)).toNatClampNeg (-1 : Int32))) ((fun _ => 0)) ((fun _ => 0)) = some R2 ∧ R1.1 = R2.1 := by
  have hh : ∀ x : Int32, (¬ x < 0 ∧ ¬ 6 ≤ x) → (upd (upd (upd (upd (upd (upd (fun _ => 0) ((0 : Int32)).toNatClampNeg (-1 : Int32)) ((1 : Int32)).toNatClampNeg (-1 : Int32)) ((2 : Int32)).toNatClampNeg (-1 : Int32)) ((3 : Int32)).toNatClampNeg (-1 : Int32)) ((4 : Int32)).toNatClampNeg (-1 : Int32)) ((5 : Int32)).toNatClampNeg (-1 : Int32)) x.toNatClampNeg = -1 := by
    intro x hx
    rcases zk_c6 x with rfl | rfl | rfl | rfl | rfl | rfl | h
    · rfl
    · rfl
    · rfl
    · rfl
    · rfl
    · rfl
    · exact absurd hx (fun z => h.elim z.1 z.2)
  generalize (upd (upd (upd (upd (upd (upd (fun _ => 0) ((0 : Int32)).toNatClampNeg (-1 : Int32)) ((1 : Int32)).toNatClampNeg (-1 : Int32)) ((2 : Int32)).toNatClampNeg (-1 : Int32)) ((3 : Int32)).toNatClampNeg (-1 : Int32)) ((4 : Int32)).toNatClampNeg (-1 : Int32)) ((5 : Int32)).toNatClampNeg (-1 : Int32)) = HO at hh ⊢
  have hpf0 : (¬ a0 < 0 ∧ ¬ 6 ≤ a0) → pf a0.toNatClampNeg = some (ae (2 + 2 * j0)) := fun h => by rw [hp0 h]; exact PF j0 hj0
  generalize ae (2 + 2 * j0) = A0 at *
  clear GF PF
  by_cases hA0 : ¬ a0 < 0 ∧ ¬ 6 ≤ a0
  · have e0 := hpf0 hA0
    have f0 := hh a0 hA0
    clear hh hpf0
    refine zk_go ?_
    simp only [f_X11_row, B_X11_row_0, f_X11_placeAt, B_X11_placeAt_0, zk_b2, zk_b3, zk_b4, zk_b5, zk_b6, zk_let]
    repeat' (first
      | (with_reducible refine zk_kI ?_; first | rfl | decide | (simp only [f_X12_row, B_X12_row_0, f_X12_isShelf, B_X12_isShelf_0, f_X12_in, B_X12_in_0, B_X12_row_54, zk_b2, zk_b3, zk_b4, zk_b5, zk_b6, zk_let]; done) | (simp only [f_X12_row, B_X12_row_0, f_X12_isShelf, B_X12_isShelf_0, f_X12_in, B_X12_in_0, B_X12_row_54, zk_b2, zk_b3, zk_b4, zk_b5, zk_b6, zk_let]; with_reducible refine (?_ : zk_k _ _)))
      | with_reducible refine zk_iteT (by assumption) ?_
      | with_reducible refine zk_iteF (by assumption) ?_
      | with_reducible refine zk_iteN (by assumption) ?_
      | with_reducible refine zk_iteT (by decide) ?_
      | with_reducible refine zk_iteF (by decide) ?_
      | with_reducible refine zk_biteT (by assumption) ?_
      | with_reducible refine zk_biteF (by assumption) ?_
      | with_reducible refine zk_biteN (by assumption) ?_
      | with_reducible refine zk_biteT (by decide) ?_
      | with_reducible refine zk_biteF (by decide) ?_
      | (with_reducible refine zk_bs ?_; try dsimp only)
      | with_reducible refine zk_bas ?_
      | with_reducible refine zk_ite (fun _ => ?_) (fun _ => ?_)
      | with_reducible refine zk_bite (fun _ => ?_) (fun _ => ?_)
      | exact zc_row _ _ _ _ (by assumption) (by assumption) | (simp only [Option.bind_some, Option.bind_none, ↓reduceIte, reduceIte, eq_self, Bool.false_eq_true, or_true, true_or, or_false, false_or, or_self, and_true, true_and, and_false, false_and, not_true_eq_false, not_false_eq_true, e0, f0])
      | (exfalso; simp only [zs_01, zs_cl, Int32.lt_iff_toInt_lt, Int32.le_iff_toInt_le, ← Int32.toInt_inj, zt_m2000000000, zt_m100, zt_m15, zt_m14, zt_m13, zt_m12, zt_m11, zt_m10, zt_m9, zt_m8, zt_m7, zt_m6, zt_m5, zt_m4, zt_m3, zt_m2, zt_m1, zt_0, zt_1, zt_2, zt_3, zt_4, zt_5, zt_6, zt_7, zt_8, zt_9, zt_10, zt_11, zt_12, zt_13, zt_14, zt_15, zt_16, zt_17, zt_18, zt_19, zt_20, zt_21, zt_22, zt_23, zt_24, zt_25, zt_26, zt_27, zt_28, zt_29, zt_30, zt_31, zt_32, zt_33, zt_34, zt_35, zt_36, zt_37, zt_38, zt_39, zt_40, zt_41, zt_42, zt_43, zt_44, zt_45, zt_46, zt_47, zt_48, zt_49, zt_50, zt_51, zt_52, zt_53, zt_54, zt_55, zt_56, zt_57, zt_58, zt_59, zt_60, zt_61, zt_62, zt_63, zt_64, zt_65, zt_66, zt_67, zt_68, zt_69, zt_81, zt_82, zt_99, zt_100, zt_120, zt_1000, zt_9999, zt_10000] at *; omega)
      | (refine zk_bsE rfl ?_; try dsimp only)
      | (refine zk_kI ?_; first | rfl | decide | (simp only [f_X12_row, B_X12_row_0, f_X12_isShelf, B_X12_isShelf_0, f_X12_in, B_X12_in_0, B_X12_row_54, zk_b2, zk_b3, zk_b4, zk_b5, zk_b6, zk_let]; with_reducible refine (?_ : zk_k _ _))))
  · clear hh hpf0
    refine zk_go ?_
    simp only [f_X11_row, B_X11_row_0, f_X11_placeAt, B_X11_placeAt_0, zk_b2, zk_b3, zk_b4, zk_b5, zk_b6, zk_let]
    repeat' (first
      | (with_reducible refine zk_kI ?_; first | rfl | decide | (simp only [f_X12_row, B_X12_row_0, f_X12_isShelf, B_X12_isShelf_0, f_X12_in, B_X12_in_0, B_X12_row_54, zk_b2, zk_b3, zk_b4, zk_b5, zk_b6, zk_let]; done) | (simp only [f_X12_row, B_X12_row_0, f_X12_isShelf, B_X12_isShelf_0, f_X12_in, B_X12_in_0, B_X12_row_54, zk_b2, zk_b3, zk_b4, zk_b5, zk_b6, zk_let]; with_reducible refine (?_ : zk_k _ _)))
      | with_reducible refine zk_iteT (by assumption) ?_
      | with_reducible refine zk_iteF (by assumption) ?_
      | with_reducible refine zk_iteN (by assumption) ?_
      | with_reducible refine zk_iteT (by decide) ?_
      | with_reducible refine zk_iteF (by decide) ?_
      | with_reducible refine zk_biteT (by assumption) ?_
      | with_reducible refine zk_biteF (by assumption) ?_
      | with_reducible refine zk_biteN (by assumption) ?_
      | with_reducible refine zk_biteT (by decide) ?_
      | with_reducible refine zk_biteF (by decide) ?_
      | (with_reducible refine zk_bs ?_; try dsimp only)
      | with_reducible refine zk_bas ?_
      | with_reducible refine zk_ite (fun _ => ?_) (fun _ => ?_)
      | with_reducible refine zk_bite (fun _ => ?_) (fun _ => ?_)
      | exact zc_row _ _ _ _ (by assumption) (by assumption) | (simp only [Option.bind_some, Option.bind_none, ↓reduceIte, reduceIte, eq_self, Bool.false_eq_true, or_true, true_or, or_false, false_or, or_self, and_true, true_and, and_false, false_and, not_true_eq_false, not_false_eq_true])
      | (exfalso; simp only [zs_01, zs_cl, Int32.lt_iff_toInt_lt, Int32.le_iff_toInt_le, ← Int32.toInt_inj, zt_m2000000000, zt_m100, zt_m15, zt_m14, zt_m13, zt_m12, zt_m11, zt_m10, zt_m9, zt_m8, zt_m7, zt_m6, zt_m5, zt_m4, zt_m3, zt_m2, zt_m1, zt_0, zt_1, zt_2, zt_3, zt_4, zt_5, zt_6, zt_7, zt_8, zt_9, zt_10, zt_11, zt_12, zt_13, zt_14, zt_15, zt_16, zt_17, zt_18, zt_19, zt_20, zt_21, zt_22, zt_23, zt_24, zt_25, zt_26, zt_27, zt_28, zt_29, zt_30, zt_31, zt_32, zt_33, zt_34, zt_35, zt_36, zt_37, zt_38, zt_39, zt_40, zt_41, zt_42, zt_43, zt_44, zt_45, zt_46, zt_47, zt_48, zt_49, zt_50, zt_51, zt_52, zt_53, zt_54, zt_55, zt_56, zt_57, zt_58, zt_59, zt_60, zt_61, zt_62, zt_63, zt_64, zt_65, zt_66, zt_67, zt_68, zt_69, zt_81, zt_82, zt_99, zt_100, zt_120, zt_1000, zt_9999, zt_10000] at *; omega)
      | (refine zk_bsE rfl ?_; try dsimp only)
      | (refine zk_kI ?_; first | rfl | decide | (simp only [f_X12_row, B_X12_row_0, f_X12_isShelf, B_X12_isShelf_0, f_X12_in, B_X12_in_0, B_X12_row_54, zk_b2, zk_b3, zk_b4, zk_b5, zk_b6, zk_let]; with_reducible refine (?_ : zk_k _ _))))
set_option maxHeartbeats 4000000 in
set_option maxRecDepth 100000 in
theorem pe_put {g pf : Nat → Option Nat} {ae : Nat → Nat} {wb : Nat} (GF : ∀ t, t < 8 → g (24 + t) = some (ae 0)) (PF : ∀ j, j < 6 → pf j = some (ae (2 + 2 * j))) (j0 : Nat) (hj0 : j0 < 6) (a0 : Int32) (a1 : Int32) (a2 : Int64) (hp0 : (¬ a0 < 0 ∧ ¬ 6 ≤ a0) → a0.toNatClampNeg = j0) : ∃ R1 R2, f_X11_put (ae (2 + 2 * j0)) a0 a1 a2 pf (-1) 0 0 (fun _ => 0) = some R1 ∧ f_X12_put  a0 a1 a2 0 0 0 0 0 0 0 0 0 0 0 0 0 0 0 0 0 ((upd (upd (upd (upd (upd (upd (fun _ => 0) ((0 : Int32)).toNatClampNeg (-1 : Int32)) ((1 : Int32)).toNatClampNeg (-1 : Int32)) ((2 : Int32)).toNatClampNeg (-1 : Int32)) ((3 : Int32)).toNatClampNeg (-1 : Int32)) ((4 : Int32)).toNatClampNeg (-1 : Int32)) ((5 : Int32)).toNatClampNeg (-1 : Int32))) ((fun _ => 0)) ((fun _ => 0)) = some R2 ∧ R1.1 = R2.1 := by sorry
set_option maxHeartbeats 4000000 in
set_option maxRecDepth 100000 in
theorem pe_element {g pf : Nat → Option Nat} {ae : Nat → Nat} {wb : Nat} (GF : ∀ t, t < 8 → g (24 + t) = some (ae 0)) (PF : ∀ j, j < 6 → pf j = some (ae (2 + 2 * j))) (j0 : Nat) (hj0 : j0 < 6) (a0 : Int32) (a1 : Int32) (hp0 : (¬ a0 < 0 ∧ ¬ 6 ≤ a0) → a0.toNatClampNeg = j0) : ∃ R1 R2, f_X11_element (ae (2 + 2 * j0)) a0 a1 pf (-1) 0 0 (fun _ => 0) = some R1 ∧ f_X12_element  a0 a1 0 0 0 0 0 0 0 0 0 0 0 0 0 0 0 0 0 ((upd (upd (upd (upd (upd (upd (fun _ => 0) ((0 : Int32)).toNatClampNeg (-1 : Int32)) ((1 : Int32)).toNatClampNeg (-1 : Int32)) ((2 : Int32)).toNatClampNeg (-1 : Int32)) ((3 : Int32)).toNatClampNeg (-1 : Int32)) ((4 : Int32)).toNatClampNeg (-1 : Int32)) ((5 : Int32)).toNatClampNeg (-1 : Int32))) ((fun _ => 0)) ((fun _ => 0)) = some R2 ∧ R1.1 = R2.1 := by
  have hh : ∀ x : Int32, (¬ x < 0 ∧ ¬ 6 ≤ x) → (upd (upd (upd (upd (upd (upd (fun _ => 0) ((0 : Int32)).toNatClampNeg (-1 : Int32)) ((1 : Int32)).toNatClampNeg (-1 : Int32)) ((2 : Int32)).toNatClampNeg (-1 : Int32)) ((3 : Int32)).toNatClampNeg (-1 : Int32)) ((4 : Int32)).toNatClampNeg (-1 : Int32)) ((5 : Int32)).toNatClampNeg (-1 : Int32)) x.toNatClampNeg = -1 := by
    intro x hx
    rcases zk_c6 x with rfl | rfl | rfl | rfl | rfl | rfl | h
    · rfl
    · rfl
    · rfl
    · rfl
    · rfl
    · rfl
    · exact absurd hx (fun z => h.elim z.1 z.2)
  generalize (upd (upd (upd (upd (upd (upd (fun _ => 0) ((0 : Int32)).toNatClampNeg (-1 : Int32)) ((1 : Int32)).toNatClampNeg (-1 : Int32)) ((2 : Int32)).toNatClampNeg (-1 : Int32)) ((3 : Int32)).toNatClampNeg (-1 : Int32)) ((4 : Int32)).toNatClampNeg (-1 : Int32)) ((5 : Int32)).toNatClampNeg (-1 : Int32)) = HO at hh ⊢
  have hpf0 : (¬ a0 < 0 ∧ ¬ 6 ≤ a0) → pf a0.toNatClampNeg = some (ae (2 + 2 * j0)) := fun h => by rw [hp0 h]; exact PF j0 hj0
  generalize ae (2 + 2 * j0) = A0 at *
  clear GF PF
  by_cases hA0 : ¬ a0 < 0 ∧ ¬ 6 ≤ a0
  · have e0 := hpf0 hA0
    have f0 := hh a0 hA0
    clear hh hpf0
    refine zk_go ?_
    simp only [f_X11_element, B_X11_element_0, f_X11_placeAt, B_X11_placeAt_0, f_X6_refusalOf, B_X6_refusalOf_0, f_X6_hasRange, B_X6_hasRange_0, zk_b2, zk_b3, zk_b4, zk_b5, zk_b6, zk_let]
    repeat' (first
      | (with_reducible refine zk_kI ?_; first | rfl | decide | (simp only [f_X12_element, B_X12_element_0, f_X12_whyNoPlace, B_X12_whyNoPlace_0, f_X12_isShelf, B_X12_isShelf_0, f_X12_in, B_X12_in_0, zk_b2, zk_b3, zk_b4, zk_b5, zk_b6, zk_let]; done) | (simp only [f_X12_element, B_X12_element_0, f_X12_whyNoPlace, B_X12_whyNoPlace_0, f_X12_isShelf, B_X12_isShelf_0, f_X12_in, B_X12_in_0, zk_b2, zk_b3, zk_b4, zk_b5, zk_b6, zk_let]; with_reducible refine (?_ : zk_k _ _)))
      | with_reducible refine zk_iteT (by assumption) ?_
      | with_reducible refine zk_iteF (by assumption) ?_
      | with_reducible refine zk_iteN (by assumption) ?_
      | with_reducible refine zk_iteT (by decide) ?_
      | with_reducible refine zk_iteF (by decide) ?_
      | with_reducible refine zk_biteT (by assumption) ?_
      | with_reducible refine zk_biteF (by assumption) ?_
      | with_reducible refine zk_biteN (by assumption) ?_
      | with_reducible refine zk_biteT (by decide) ?_
      | with_reducible refine zk_biteF (by decide) ?_
      | (with_reducible refine zk_bs ?_; try dsimp only)
      | with_reducible refine zk_bas ?_
      | with_reducible refine zk_ite (fun _ => ?_) (fun _ => ?_)
      | with_reducible refine zk_bite (fun _ => ?_) (fun _ => ?_)
      | (simp only [Option.bind_some, Option.bind_none, ↓reduceIte, reduceIte, eq_self, Bool.false_eq_true, or_true, true_or, or_false, false_or, or_self, and_true, true_and, and_false, false_and, not_true_eq_false, not_false_eq_true, e0, f0])
      | (exfalso; simp only [zs_01, zs_cl, Int32.lt_iff_toInt_lt, Int32.le_iff_toInt_le, ← Int32.toInt_inj, zt_m2000000000, zt_m100, zt_m15, zt_m14, zt_m13, zt_m12, zt_m11, zt_m10, zt_m9, zt_m8, zt_m7, zt_m6, zt_m5, zt_m4, zt_m3, zt_m2, zt_m1, zt_0, zt_1, zt_2, zt_3, zt_4, zt_5, zt_6, zt_7, zt_8, zt_9, zt_10, zt_11, zt_12, zt_13, zt_14, zt_15, zt_16, zt_17, zt_18, zt_19, zt_20, zt_21, zt_22, zt_23, zt_24, zt_25, zt_26, zt_27, zt_28, zt_29, zt_30, zt_31, zt_32, zt_33, zt_34, zt_35, zt_36, zt_37, zt_38, zt_39, zt_40, zt_41, zt_42, zt_43, zt_44, zt_45, zt_46, zt_47, zt_48, zt_49, zt_50, zt_51, zt_52, zt_53, zt_54, zt_55, zt_56, zt_57, zt_58, zt_59, zt_60, zt_61, zt_62, zt_63, zt_64, zt_65, zt_66, zt_67, zt_68, zt_69, zt_81, zt_82, zt_99, zt_100, zt_120, zt_1000, zt_9999, zt_10000] at *; omega)
      | (refine zk_bsE rfl ?_; try dsimp only)
      | (refine zk_kI ?_; first | rfl | decide | (simp only [f_X12_element, B_X12_element_0, f_X12_whyNoPlace, B_X12_whyNoPlace_0, f_X12_isShelf, B_X12_isShelf_0, f_X12_in, B_X12_in_0, zk_b2, zk_b3, zk_b4, zk_b5, zk_b6, zk_let]; with_reducible refine (?_ : zk_k _ _))))
  · clear hh hpf0
    refine zk_go ?_
    simp only [f_X11_element, B_X11_element_0, f_X11_placeAt, B_X11_placeAt_0, f_X6_refusalOf, B_X6_refusalOf_0, f_X6_hasRange, B_X6_hasRange_0, zk_b2, zk_b3, zk_b4, zk_b5, zk_b6, zk_let]
    repeat' (first
      | (with_reducible refine zk_kI ?_; first | rfl | decide | (simp only [f_X12_element, B_X12_element_0, f_X12_whyNoPlace, B_X12_whyNoPlace_0, f_X12_isShelf, B_X12_isShelf_0, f_X12_in, B_X12_in_0, zk_b2, zk_b3, zk_b4, zk_b5, zk_b6, zk_let]; done) | (simp only [f_X12_element, B_X12_element_0, f_X12_whyNoPlace, B_X12_whyNoPlace_0, f_X12_isShelf, B_X12_isShelf_0, f_X12_in, B_X12_in_0, zk_b2, zk_b3, zk_b4, zk_b5, zk_b6, zk_let]; with_reducible refine (?_ : zk_k _ _)))
      | with_reducible refine zk_iteT (by assumption) ?_
      | with_reducible refine zk_iteF (by assumption) ?_
      | with_reducible refine zk_iteN (by assumption) ?_
      | with_reducible refine zk_iteT (by decide) ?_
      | with_reducible refine zk_iteF (by decide) ?_
      | with_reducible refine zk_biteT (by assumption) ?_
      | with_reducible refine zk_biteF (by assumption) ?_
      | with_reducible refine zk_biteN (by assumption) ?_
      | with_reducible refine zk_biteT (by decide) ?_
      | with_reducible refine zk_biteF (by decide) ?_
      | (with_reducible refine zk_bs ?_; try dsimp only)
      | with_reducible refine zk_bas ?_
      | with_reducible refine zk_ite (fun _ => ?_) (fun _ => ?_)
      | with_reducible refine zk_bite (fun _ => ?_) (fun _ => ?_)
      | (simp only [Option.bind_some, Option.bind_none, ↓reduceIte, reduceIte, eq_self, Bool.false_eq_true, or_true, true_or, or_false, false_or, or_self, and_true, true_and, and_false, false_and, not_true_eq_false, not_false_eq_true])
      | (exfalso; simp only [zs_01, zs_cl, Int32.lt_iff_toInt_lt, Int32.le_iff_toInt_le, ← Int32.toInt_inj, zt_m2000000000, zt_m100, zt_m15, zt_m14, zt_m13, zt_m12, zt_m11, zt_m10, zt_m9, zt_m8, zt_m7, zt_m6, zt_m5, zt_m4, zt_m3, zt_m2, zt_m1, zt_0, zt_1, zt_2, zt_3, zt_4, zt_5, zt_6, zt_7, zt_8, zt_9, zt_10, zt_11, zt_12, zt_13, zt_14, zt_15, zt_16, zt_17, zt_18, zt_19, zt_20, zt_21, zt_22, zt_23, zt_24, zt_25, zt_26, zt_27, zt_28, zt_29, zt_30, zt_31, zt_32, zt_33, zt_34, zt_35, zt_36, zt_37, zt_38, zt_39, zt_40, zt_41, zt_42, zt_43, zt_44, zt_45, zt_46, zt_47, zt_48, zt_49, zt_50, zt_51, zt_52, zt_53, zt_54, zt_55, zt_56, zt_57, zt_58, zt_59, zt_60, zt_61, zt_62, zt_63, zt_64, zt_65, zt_66, zt_67, zt_68, zt_69, zt_81, zt_82, zt_99, zt_100, zt_120, zt_1000, zt_9999, zt_10000] at *; omega)
      | (refine zk_bsE rfl ?_; try dsimp only)
      | (refine zk_kI ?_; first | rfl | decide | (simp only [f_X12_element, B_X12_element_0, f_X12_whyNoPlace, B_X12_whyNoPlace_0, f_X12_isShelf, B_X12_isShelf_0, f_X12_in, B_X12_in_0, zk_b2, zk_b3, zk_b4, zk_b5, zk_b6, zk_let]; with_reducible refine (?_ : zk_k _ _))))
set_option maxHeartbeats 4000000 in
set_option maxRecDepth 100000 in
theorem pe_shift {g pf : Nat → Option Nat} {ae : Nat → Nat} {wb : Nat} (GF : ∀ t, t < 8 → g (24 + t) = some (ae 0)) (PF : ∀ j, j < 6 → pf j = some (ae (2 + 2 * j))) (j0 : Nat) (hj0 : j0 < 6) (j1 : Nat) (hj1 : j1 < 6) (a0 : Int32) (a1 : Int32) (a2 : Int32) (a3 : Int32) (a4 : Int32) (hp0 : (¬ a0 < 0 ∧ ¬ 6 ≤ a0) → a0.toNatClampNeg = j0) (hp1 : (¬ a2 < 0 ∧ ¬ 6 ≤ a2) → a2.toNatClampNeg = j1) : ∃ R1 R2, f_X11_shiftB (ae (2 + 2 * j0)) (ae (2 + 2 * j1)) a0 a1 a2 a3 a4 pf (-1) 0 0 (-1) 0 0 = some R1 ∧ f_X12_shift  4000 a0 a1 a2 a3 a4 0 0 0 0 0 0 0 0 0 0 0 0 0 0 0 0 0 ((upd (upd (upd (upd (upd (upd (fun _ => 0) ((0 : Int32)).toNatClampNeg (-1 : Int32)) ((1 : Int32)).toNatClampNeg (-1 : Int32)) ((2 : Int32)).toNatClampNeg (-1 : Int32)) ((3 : Int32)).toNatClampNeg (-1 : Int32)) ((4 : Int32)).toNatClampNeg (-1 : Int32)) ((5 : Int32)).toNatClampNeg (-1 : Int32))) ((fun _ => 0)) ((fun _ => 0)) ((fun _ => 0)) = some R2 ∧ R1.1 = R2.1 := by
  have hh : ∀ x : Int32, (¬ x < 0 ∧ ¬ 6 ≤ x) → (upd (upd (upd (upd (upd (upd (fun _ => 0) ((0 : Int32)).toNatClampNeg (-1 : Int32)) ((1 : Int32)).toNatClampNeg (-1 : Int32)) ((2 : Int32)).toNatClampNeg (-1 : Int32)) ((3 : Int32)).toNatClampNeg (-1 : Int32)) ((4 : Int32)).toNatClampNeg (-1 : Int32)) ((5 : Int32)).toNatClampNeg (-1 : Int32)) x.toNatClampNeg = -1 := by
    intro x hx
    rcases zk_c6 x with rfl | rfl | rfl | rfl | rfl | rfl | h
    · rfl
    · rfl
    · rfl
    · rfl
    · rfl
    · rfl
    · exact absurd hx (fun z => h.elim z.1 z.2)
  generalize (upd (upd (upd (upd (upd (upd (fun _ => 0) ((0 : Int32)).toNatClampNeg (-1 : Int32)) ((1 : Int32)).toNatClampNeg (-1 : Int32)) ((2 : Int32)).toNatClampNeg (-1 : Int32)) ((3 : Int32)).toNatClampNeg (-1 : Int32)) ((4 : Int32)).toNatClampNeg (-1 : Int32)) ((5 : Int32)).toNatClampNeg (-1 : Int32)) = HO at hh ⊢
  have hpf0 : (¬ a0 < 0 ∧ ¬ 6 ≤ a0) → pf a0.toNatClampNeg = some (ae (2 + 2 * j0)) := fun h => by rw [hp0 h]; exact PF j0 hj0
  have hpf1 : (¬ a2 < 0 ∧ ¬ 6 ≤ a2) → pf a2.toNatClampNeg = some (ae (2 + 2 * j1)) := fun h => by rw [hp1 h]; exact PF j1 hj1
  generalize ae (2 + 2 * j0) = A0 at *
  generalize ae (2 + 2 * j1) = A1 at *
  clear GF PF
  by_cases hA0 : ¬ a0 < 0 ∧ ¬ 6 ≤ a0
  · have e0 := hpf0 hA0
    have f0 := hh a0 hA0
    by_cases hA1 : ¬ a2 < 0 ∧ ¬ 6 ≤ a2
    · have e1 := hpf1 hA1
      have f1 := hh a2 hA1
      clear hh hpf0 hpf1
      refine zk_go ?_
      simp only [f_X11_shiftB, B_X11_shiftB_0, f_X11_placeAt, B_X11_placeAt_0, f_X6_hasRange, B_X6_hasRange_0, zk_b2, zk_b3, zk_b4, zk_b5, zk_b6, zk_let]
      repeat' (first
        | (with_reducible refine zk_kI ?_; first | rfl | decide | (simp only [f_X12_shift, B_X12_shift_0, f_X12_isShelf, B_X12_isShelf_0, f_X12_in, B_X12_in_0, B_X12_shift_113, B_X12_shift_150, zk_b2, zk_b3, zk_b4, zk_b5, zk_b6, zk_let]; done) | (simp only [f_X12_shift, B_X12_shift_0, f_X12_isShelf, B_X12_isShelf_0, f_X12_in, B_X12_in_0, B_X12_shift_113, B_X12_shift_150, zk_b2, zk_b3, zk_b4, zk_b5, zk_b6, zk_let]; with_reducible refine (?_ : zk_k _ _)))
        | with_reducible refine zk_iteT (by assumption) ?_
        | with_reducible refine zk_iteF (by assumption) ?_
        | with_reducible refine zk_iteN (by assumption) ?_
        | with_reducible refine zk_iteT (by decide) ?_
        | with_reducible refine zk_iteF (by decide) ?_
        | with_reducible refine zk_biteT (by assumption) ?_
        | with_reducible refine zk_biteF (by assumption) ?_
        | with_reducible refine zk_biteN (by assumption) ?_
        | with_reducible refine zk_biteT (by decide) ?_
        | with_reducible refine zk_biteF (by decide) ?_
        | (with_reducible refine zk_bs ?_; try dsimp only)
        | with_reducible refine zk_bas ?_
        | with_reducible refine zk_ite (fun _ => ?_) (fun _ => ?_)
        | with_reducible refine zk_bite (fun _ => ?_) (fun _ => ?_)
        | (simp only [Option.bind_some, Option.bind_none, ↓reduceIte, reduceIte, eq_self, Bool.false_eq_true, or_true, true_or, or_false, false_or, or_self, and_true, true_and, and_false, false_and, not_true_eq_false, not_false_eq_true, e0, f0, e1, f1])
        | (exfalso; simp only [zs_01, zs_cl, Int32.lt_iff_toInt_lt, Int32.le_iff_toInt_le, ← Int32.toInt_inj, zt_m2000000000, zt_m100, zt_m15, zt_m14, zt_m13, zt_m12, zt_m11, zt_m10, zt_m9, zt_m8, zt_m7, zt_m6, zt_m5, zt_m4, zt_m3, zt_m2, zt_m1, zt_0, zt_1, zt_2, zt_3, zt_4, zt_5, zt_6, zt_7, zt_8, zt_9, zt_10, zt_11, zt_12, zt_13, zt_14, zt_15, zt_16, zt_17, zt_18, zt_19, zt_20, zt_21, zt_22, zt_23, zt_24, zt_25, zt_26, zt_27, zt_28, zt_29, zt_30, zt_31, zt_32, zt_33, zt_34, zt_35, zt_36, zt_37, zt_38, zt_39, zt_40, zt_41, zt_42, zt_43, zt_44, zt_45, zt_46, zt_47, zt_48, zt_49, zt_50, zt_51, zt_52, zt_53, zt_54, zt_55, zt_56, zt_57, zt_58, zt_59, zt_60, zt_61, zt_62, zt_63, zt_64, zt_65, zt_66, zt_67, zt_68, zt_69, zt_81, zt_82, zt_99, zt_100, zt_120, zt_1000, zt_9999, zt_10000] at *; omega)
        | (refine zk_bsE rfl ?_; try dsimp only)
        | (refine zk_kI ?_; first | rfl | decide | (simp only [f_X12_shift, B_X12_shift_0, f_X12_isShelf, B_X12_isShelf_0, f_X12_in, B_X12_in_0, B_X12_shift_113, B_X12_shift_150, zk_b2, zk_b3, zk_b4, zk_b5, zk_b6, zk_let]; with_reducible refine (?_ : zk_k _ _))))
    · clear hh hpf0 hpf1
      refine zk_go ?_
      simp only [f_X11_shiftB, B_X11_shiftB_0, f_X11_placeAt, B_X11_placeAt_0, f_X6_hasRange, B_X6_hasRange_0, zk_b2, zk_b3, zk_b4, zk_b5, zk_b6, zk_let]
      repeat' (first
        | (with_reducible refine zk_kI ?_; first | rfl | decide | (simp only [f_X12_shift, B_X12_shift_0, f_X12_isShelf, B_X12_isShelf_0, f_X12_in, B_X12_in_0, B_X12_shift_113, B_X12_shift_150, zk_b2, zk_b3, zk_b4, zk_b5, zk_b6, zk_let]; done) | (simp only [f_X12_shift, B_X12_shift_0, f_X12_isShelf, B_X12_isShelf_0, f_X12_in, B_X12_in_0, B_X12_shift_113, B_X12_shift_150, zk_b2, zk_b3, zk_b4, zk_b5, zk_b6, zk_let]; with_reducible refine (?_ : zk_k _ _)))
        | with_reducible refine zk_iteT (by assumption) ?_
        | with_reducible refine zk_iteF (by assumption) ?_
        | with_reducible refine zk_iteN (by assumption) ?_
        | with_reducible refine zk_iteT (by decide) ?_
        | with_reducible refine zk_iteF (by decide) ?_
        | with_reducible refine zk_biteT (by assumption) ?_
        | with_reducible refine zk_biteF (by assumption) ?_
        | with_reducible refine zk_biteN (by assumption) ?_
        | with_reducible refine zk_biteT (by decide) ?_
        | with_reducible refine zk_biteF (by decide) ?_
        | (with_reducible refine zk_bs ?_; try dsimp only)
        | with_reducible refine zk_bas ?_
        | with_reducible refine zk_ite (fun _ => ?_) (fun _ => ?_)
        | with_reducible refine zk_bite (fun _ => ?_) (fun _ => ?_)
        | (simp only [Option.bind_some, Option.bind_none, ↓reduceIte, reduceIte, eq_self, Bool.false_eq_true, or_true, true_or, or_false, false_or, or_self, and_true, true_and, and_false, false_and, not_true_eq_false, not_false_eq_true, e0, f0])
        | (exfalso; simp only [zs_01, zs_cl, Int32.lt_iff_toInt_lt, Int32.le_iff_toInt_le, ← Int32.toInt_inj, zt_m2000000000, zt_m100, zt_m15, zt_m14, zt_m13, zt_m12, zt_m11, zt_m10, zt_m9, zt_m8, zt_m7, zt_m6, zt_m5, zt_m4, zt_m3, zt_m2, zt_m1, zt_0, zt_1, zt_2, zt_3, zt_4, zt_5, zt_6, zt_7, zt_8, zt_9, zt_10, zt_11, zt_12, zt_13, zt_14, zt_15, zt_16, zt_17, zt_18, zt_19, zt_20, zt_21, zt_22, zt_23, zt_24, zt_25, zt_26, zt_27, zt_28, zt_29, zt_30, zt_31, zt_32, zt_33, zt_34, zt_35, zt_36, zt_37, zt_38, zt_39, zt_40, zt_41, zt_42, zt_43, zt_44, zt_45, zt_46, zt_47, zt_48, zt_49, zt_50, zt_51, zt_52, zt_53, zt_54, zt_55, zt_56, zt_57, zt_58, zt_59, zt_60, zt_61, zt_62, zt_63, zt_64, zt_65, zt_66, zt_67, zt_68, zt_69, zt_81, zt_82, zt_99, zt_100, zt_120, zt_1000, zt_9999, zt_10000] at *; omega)
        | (refine zk_bsE rfl ?_; try dsimp only)
        | (refine zk_kI ?_; first | rfl | decide | (simp only [f_X12_shift, B_X12_shift_0, f_X12_isShelf, B_X12_isShelf_0, f_X12_in, B_X12_in_0, B_X12_shift_113, B_X12_shift_150, zk_b2, zk_b3, zk_b4, zk_b5, zk_b6, zk_let]; with_reducible refine (?_ : zk_k _ _))))
  · by_cases hA1 : ¬ a2 < 0 ∧ ¬ 6 ≤ a2
    · have e1 := hpf1 hA1
      have f1 := hh a2 hA1
      clear hh hpf0 hpf1
      refine zk_go ?_
      simp only [f_X11_shiftB, B_X11_shiftB_0, f_X11_placeAt, B_X11_placeAt_0, f_X6_hasRange, B_X6_hasRange_0, zk_b2, zk_b3, zk_b4, zk_b5, zk_b6, zk_let]
      repeat' (first
        | (with_reducible refine zk_kI ?_; first | rfl | decide | (simp only [f_X12_shift, B_X12_shift_0, f_X12_isShelf, B_X12_isShelf_0, f_X12_in, B_X12_in_0, B_X12_shift_113, B_X12_shift_150, zk_b2, zk_b3, zk_b4, zk_b5, zk_b6, zk_let]; done) | (simp only [f_X12_shift, B_X12_shift_0, f_X12_isShelf, B_X12_isShelf_0, f_X12_in, B_X12_in_0, B_X12_shift_113, B_X12_shift_150, zk_b2, zk_b3, zk_b4, zk_b5, zk_b6, zk_let]; with_reducible refine (?_ : zk_k _ _)))
        | with_reducible refine zk_iteT (by assumption) ?_
        | with_reducible refine zk_iteF (by assumption) ?_
        | with_reducible refine zk_iteN (by assumption) ?_
        | with_reducible refine zk_iteT (by decide) ?_
        | with_reducible refine zk_iteF (by decide) ?_
        | with_reducible refine zk_biteT (by assumption) ?_
        | with_reducible refine zk_biteF (by assumption) ?_
        | with_reducible refine zk_biteN (by assumption) ?_
        | with_reducible refine zk_biteT (by decide) ?_
        | with_reducible refine zk_biteF (by decide) ?_
        | (with_reducible refine zk_bs ?_; try dsimp only)
        | with_reducible refine zk_bas ?_
        | with_reducible refine zk_ite (fun _ => ?_) (fun _ => ?_)
        | with_reducible refine zk_bite (fun _ => ?_) (fun _ => ?_)
        | (simp only [Option.bind_some, Option.bind_none, ↓reduceIte, reduceIte, eq_self, Bool.false_eq_true, or_true, true_or, or_false, false_or, or_self, and_true, true_and, and_false, false_and, not_true_eq_false, not_false_eq_true, e1, f1])
        | (exfalso; simp only [zs_01, zs_cl, Int32.lt_iff_toInt_lt, Int32.le_iff_toInt_le, ← Int32.toInt_inj, zt_m2000000000, zt_m100, zt_m15, zt_m14, zt_m13, zt_m12, zt_m11, zt_m10, zt_m9, zt_m8, zt_m7, zt_m6, zt_m5, zt_m4, zt_m3, zt_m2, zt_m1, zt_0, zt_1, zt_2, zt_3, zt_4, zt_5, zt_6, zt_7, zt_8, zt_9, zt_10, zt_11, zt_12, zt_13, zt_14, zt_15, zt_16, zt_17, zt_18, zt_19, zt_20, zt_21, zt_22, zt_23, zt_24, zt_25, zt_26, zt_27, zt_28, zt_29, zt_30, zt_31, zt_32, zt_33, zt_34, zt_35, zt_36, zt_37, zt_38, zt_39, zt_40, zt_41, zt_42, zt_43, zt_44, zt_45, zt_46, zt_47, zt_48, zt_49, zt_50, zt_51, zt_52, zt_53, zt_54, zt_55, zt_56, zt_57, zt_58, zt_59, zt_60, zt_61, zt_62, zt_63, zt_64, zt_65, zt_66, zt_67, zt_68, zt_69, zt_81, zt_82, zt_99, zt_100, zt_120, zt_1000, zt_9999, zt_10000] at *; omega)
        | (refine zk_bsE rfl ?_; try dsimp only)
        | (refine zk_kI ?_; first | rfl | decide | (simp only [f_X12_shift, B_X12_shift_0, f_X12_isShelf, B_X12_isShelf_0, f_X12_in, B_X12_in_0, B_X12_shift_113, B_X12_shift_150, zk_b2, zk_b3, zk_b4, zk_b5, zk_b6, zk_let]; with_reducible refine (?_ : zk_k _ _))))
    · clear hh hpf0 hpf1
      refine zk_go ?_
      simp only [f_X11_shiftB, B_X11_shiftB_0, f_X11_placeAt, B_X11_placeAt_0, f_X6_hasRange, B_X6_hasRange_0, zk_b2, zk_b3, zk_b4, zk_b5, zk_b6, zk_let]
      repeat' (first
        | (with_reducible refine zk_kI ?_; first | rfl | decide | (simp only [f_X12_shift, B_X12_shift_0, f_X12_isShelf, B_X12_isShelf_0, f_X12_in, B_X12_in_0, B_X12_shift_113, B_X12_shift_150, zk_b2, zk_b3, zk_b4, zk_b5, zk_b6, zk_let]; done) | (simp only [f_X12_shift, B_X12_shift_0, f_X12_isShelf, B_X12_isShelf_0, f_X12_in, B_X12_in_0, B_X12_shift_113, B_X12_shift_150, zk_b2, zk_b3, zk_b4, zk_b5, zk_b6, zk_let]; with_reducible refine (?_ : zk_k _ _)))
        | with_reducible refine zk_iteT (by assumption) ?_
        | with_reducible refine zk_iteF (by assumption) ?_
        | with_reducible refine zk_iteN (by assumption) ?_
        | with_reducible refine zk_iteT (by decide) ?_
        | with_reducible refine zk_iteF (by decide) ?_
        | with_reducible refine zk_biteT (by assumption) ?_
        | with_reducible refine zk_biteF (by assumption) ?_
        | with_reducible refine zk_biteN (by assumption) ?_
        | with_reducible refine zk_biteT (by decide) ?_
        | with_reducible refine zk_biteF (by decide) ?_
        | (with_reducible refine zk_bs ?_; try dsimp only)
        | with_reducible refine zk_bas ?_
        | with_reducible refine zk_ite (fun _ => ?_) (fun _ => ?_)
        | with_reducible refine zk_bite (fun _ => ?_) (fun _ => ?_)
        | (simp only [Option.bind_some, Option.bind_none, ↓reduceIte, reduceIte, eq_self, Bool.false_eq_true, or_true, true_or, or_false, false_or, or_self, and_true, true_and, and_false, false_and, not_true_eq_false, not_false_eq_true])
        | (exfalso; simp only [zs_01, zs_cl, Int32.lt_iff_toInt_lt, Int32.le_iff_toInt_le, ← Int32.toInt_inj, zt_m2000000000, zt_m100, zt_m15, zt_m14, zt_m13, zt_m12, zt_m11, zt_m10, zt_m9, zt_m8, zt_m7, zt_m6, zt_m5, zt_m4, zt_m3, zt_m2, zt_m1, zt_0, zt_1, zt_2, zt_3, zt_4, zt_5, zt_6, zt_7, zt_8, zt_9, zt_10, zt_11, zt_12, zt_13, zt_14, zt_15, zt_16, zt_17, zt_18, zt_19, zt_20, zt_21, zt_22, zt_23, zt_24, zt_25, zt_26, zt_27, zt_28, zt_29, zt_30, zt_31, zt_32, zt_33, zt_34, zt_35, zt_36, zt_37, zt_38, zt_39, zt_40, zt_41, zt_42, zt_43, zt_44, zt_45, zt_46, zt_47, zt_48, zt_49, zt_50, zt_51, zt_52, zt_53, zt_54, zt_55, zt_56, zt_57, zt_58, zt_59, zt_60, zt_61, zt_62, zt_63, zt_64, zt_65, zt_66, zt_67, zt_68, zt_69, zt_81, zt_82, zt_99, zt_100, zt_120, zt_1000, zt_9999, zt_10000] at *; omega)
        | (refine zk_bsE rfl ?_; try dsimp only)
        | (refine zk_kI ?_; first | rfl | decide | (simp only [f_X12_shift, B_X12_shift_0, f_X12_isShelf, B_X12_isShelf_0, f_X12_in, B_X12_in_0, B_X12_shift_113, B_X12_shift_150, zk_b2, zk_b3, zk_b4, zk_b5, zk_b6, zk_let]; with_reducible refine (?_ : zk_k _ _))))
set_option maxHeartbeats 4000000 in
set_option maxRecDepth 100000 in
theorem pe_taken {g pf : Nat → Option Nat} {ae : Nat → Nat} {wb : Nat} (GF : ∀ t, t < 8 → g (24 + t) = some (ae 0)) (PF : ∀ j, j < 6 → pf j = some (ae (2 + 2 * j))) (j0 : Nat) (hj0 : j0 < 6) (a0 : Int32) (a1 : Int32) (hp0 : (¬ a0 < 0 ∧ ¬ 6 ≤ a0) → a0.toNatClampNeg = j0) : ∃ R1 R2, f_X11_taken (ae (2 + 2 * j0)) a0 a1 pf 0 0 0 (-1) 0 0 = some R1 ∧ f_X12_taken  a0 a1 0 0 0 0 0 0 0 0 0 0 0 0 0 0 0 0 0 ((fun _ => 0)) ((fun _ => 0)) ((upd (upd (upd (upd (upd (upd (fun _ => 0) ((0 : Int32)).toNatClampNeg (-1 : Int32)) ((1 : Int32)).toNatClampNeg (-1 : Int32)) ((2 : Int32)).toNatClampNeg (-1 : Int32)) ((3 : Int32)).toNatClampNeg (-1 : Int32)) ((4 : Int32)).toNatClampNeg (-1 : Int32)) ((5 : Int32)).toNatClampNeg (-1 : Int32))) = some R2 ∧ R1.1 = R2.1 := by
  have hh : ∀ x : Int32, (¬ x < 0 ∧ ¬ 6 ≤ x) → (upd (upd (upd (upd (upd (upd (fun _ => 0) ((0 : Int32)).toNatClampNeg (-1 : Int32)) ((1 : Int32)).toNatClampNeg (-1 : Int32)) ((2 : Int32)).toNatClampNeg (-1 : Int32)) ((3 : Int32)).toNatClampNeg (-1 : Int32)) ((4 : Int32)).toNatClampNeg (-1 : Int32)) ((5 : Int32)).toNatClampNeg (-1 : Int32)) x.toNatClampNeg = -1 := by
    intro x hx
    rcases zk_c6 x with rfl | rfl | rfl | rfl | rfl | rfl | h
    · rfl
    · rfl
    · rfl
    · rfl
    · rfl
    · rfl
    · exact absurd hx (fun z => h.elim z.1 z.2)
  generalize (upd (upd (upd (upd (upd (upd (fun _ => 0) ((0 : Int32)).toNatClampNeg (-1 : Int32)) ((1 : Int32)).toNatClampNeg (-1 : Int32)) ((2 : Int32)).toNatClampNeg (-1 : Int32)) ((3 : Int32)).toNatClampNeg (-1 : Int32)) ((4 : Int32)).toNatClampNeg (-1 : Int32)) ((5 : Int32)).toNatClampNeg (-1 : Int32)) = HO at hh ⊢
  have hpf0 : (¬ a0 < 0 ∧ ¬ 6 ≤ a0) → pf a0.toNatClampNeg = some (ae (2 + 2 * j0)) := fun h => by rw [hp0 h]; exact PF j0 hj0
  generalize ae (2 + 2 * j0) = A0 at *
  clear GF PF
  by_cases hA0 : ¬ a0 < 0 ∧ ¬ 6 ≤ a0
  · have e0 := hpf0 hA0
    have f0 := hh a0 hA0
    clear hh hpf0
    refine zk_go ?_
    simp only [f_X11_taken, B_X11_taken_0, f_X11_placeAt, B_X11_placeAt_0, f_X2_suitAt, B_X2_suitAt_0, B_X11_taken_56, zk_b2, zk_b3, zk_b4, zk_b5, zk_b6, zk_let]
    repeat' (first
      | (with_reducible refine zk_kI ?_; first | rfl | decide | (simp only [f_X12_taken, B_X12_taken_0, f_X12_isShelf, B_X12_isShelf_0, f_X12_in, B_X12_in_0, zk_b2, zk_b3, zk_b4, zk_b5, zk_b6, zk_let]; done) | (simp only [f_X12_taken, B_X12_taken_0, f_X12_isShelf, B_X12_isShelf_0, f_X12_in, B_X12_in_0, zk_b2, zk_b3, zk_b4, zk_b5, zk_b6, zk_let]; with_reducible refine (?_ : zk_k _ _)))
      | with_reducible refine zk_iteT (by assumption) ?_
      | with_reducible refine zk_iteF (by assumption) ?_
      | with_reducible refine zk_iteN (by assumption) ?_
      | with_reducible refine zk_iteT (by decide) ?_
      | with_reducible refine zk_iteF (by decide) ?_
      | with_reducible refine zk_biteT (by assumption) ?_
      | with_reducible refine zk_biteF (by assumption) ?_
      | with_reducible refine zk_biteN (by assumption) ?_
      | with_reducible refine zk_biteT (by decide) ?_
      | with_reducible refine zk_biteF (by decide) ?_
      | (with_reducible refine zk_bs ?_; try dsimp only)
      | with_reducible refine zk_bas ?_
      | with_reducible refine zk_ite (fun _ => ?_) (fun _ => ?_)
      | with_reducible refine zk_bite (fun _ => ?_) (fun _ => ?_)
      | (simp only [Option.bind_some, Option.bind_none, ↓reduceIte, reduceIte, eq_self, Bool.false_eq_true, or_true, true_or, or_false, false_or, or_self, and_true, true_and, and_false, false_and, not_true_eq_false, not_false_eq_true, e0, f0])
      | (exfalso; simp only [zs_01, zs_cl, Int32.lt_iff_toInt_lt, Int32.le_iff_toInt_le, ← Int32.toInt_inj, zt_m2000000000, zt_m100, zt_m15, zt_m14, zt_m13, zt_m12, zt_m11, zt_m10, zt_m9, zt_m8, zt_m7, zt_m6, zt_m5, zt_m4, zt_m3, zt_m2, zt_m1, zt_0, zt_1, zt_2, zt_3, zt_4, zt_5, zt_6, zt_7, zt_8, zt_9, zt_10, zt_11, zt_12, zt_13, zt_14, zt_15, zt_16, zt_17, zt_18, zt_19, zt_20, zt_21, zt_22, zt_23, zt_24, zt_25, zt_26, zt_27, zt_28, zt_29, zt_30, zt_31, zt_32, zt_33, zt_34, zt_35, zt_36, zt_37, zt_38, zt_39, zt_40, zt_41, zt_42, zt_43, zt_44, zt_45, zt_46, zt_47, zt_48, zt_49, zt_50, zt_51, zt_52, zt_53, zt_54, zt_55, zt_56, zt_57, zt_58, zt_59, zt_60, zt_61, zt_62, zt_63, zt_64, zt_65, zt_66, zt_67, zt_68, zt_69, zt_81, zt_82, zt_99, zt_100, zt_120, zt_1000, zt_9999, zt_10000] at *; omega)
      | (refine zk_bsE rfl ?_; try dsimp only)
      | (refine zk_kI ?_; first | rfl | decide | (simp only [f_X12_taken, B_X12_taken_0, f_X12_isShelf, B_X12_isShelf_0, f_X12_in, B_X12_in_0, zk_b2, zk_b3, zk_b4, zk_b5, zk_b6, zk_let]; with_reducible refine (?_ : zk_k _ _))))
  · clear hh hpf0
    refine zk_go ?_
    simp only [f_X11_taken, B_X11_taken_0, f_X11_placeAt, B_X11_placeAt_0, f_X2_suitAt, B_X2_suitAt_0, B_X11_taken_56, zk_b2, zk_b3, zk_b4, zk_b5, zk_b6, zk_let]
    repeat' (first
      | (with_reducible refine zk_kI ?_; first | rfl | decide | (simp only [f_X12_taken, B_X12_taken_0, f_X12_isShelf, B_X12_isShelf_0, f_X12_in, B_X12_in_0, zk_b2, zk_b3, zk_b4, zk_b5, zk_b6, zk_let]; done) | (simp only [f_X12_taken, B_X12_taken_0, f_X12_isShelf, B_X12_isShelf_0, f_X12_in, B_X12_in_0, zk_b2, zk_b3, zk_b4, zk_b5, zk_b6, zk_let]; with_reducible refine (?_ : zk_k _ _)))
      | with_reducible refine zk_iteT (by assumption) ?_
      | with_reducible refine zk_iteF (by assumption) ?_
      | with_reducible refine zk_iteN (by assumption) ?_
      | with_reducible refine zk_iteT (by decide) ?_
      | with_reducible refine zk_iteF (by decide) ?_
      | with_reducible refine zk_biteT (by assumption) ?_
      | with_reducible refine zk_biteF (by assumption) ?_
      | with_reducible refine zk_biteN (by assumption) ?_
      | with_reducible refine zk_biteT (by decide) ?_
      | with_reducible refine zk_biteF (by decide) ?_
      | (with_reducible refine zk_bs ?_; try dsimp only)
      | with_reducible refine zk_bas ?_
      | with_reducible refine zk_ite (fun _ => ?_) (fun _ => ?_)
      | with_reducible refine zk_bite (fun _ => ?_) (fun _ => ?_)
      | (simp only [Option.bind_some, Option.bind_none, ↓reduceIte, reduceIte, eq_self, Bool.false_eq_true, or_true, true_or, or_false, false_or, or_self, and_true, true_and, and_false, false_and, not_true_eq_false, not_false_eq_true])
      | (exfalso; simp only [zs_01, zs_cl, Int32.lt_iff_toInt_lt, Int32.le_iff_toInt_le, ← Int32.toInt_inj, zt_m2000000000, zt_m100, zt_m15, zt_m14, zt_m13, zt_m12, zt_m11, zt_m10, zt_m9, zt_m8, zt_m7, zt_m6, zt_m5, zt_m4, zt_m3, zt_m2, zt_m1, zt_0, zt_1, zt_2, zt_3, zt_4, zt_5, zt_6, zt_7, zt_8, zt_9, zt_10, zt_11, zt_12, zt_13, zt_14, zt_15, zt_16, zt_17, zt_18, zt_19, zt_20, zt_21, zt_22, zt_23, zt_24, zt_25, zt_26, zt_27, zt_28, zt_29, zt_30, zt_31, zt_32, zt_33, zt_34, zt_35, zt_36, zt_37, zt_38, zt_39, zt_40, zt_41, zt_42, zt_43, zt_44, zt_45, zt_46, zt_47, zt_48, zt_49, zt_50, zt_51, zt_52, zt_53, zt_54, zt_55, zt_56, zt_57, zt_58, zt_59, zt_60, zt_61, zt_62, zt_63, zt_64, zt_65, zt_66, zt_67, zt_68, zt_69, zt_81, zt_82, zt_99, zt_100, zt_120, zt_1000, zt_9999, zt_10000] at *; omega)
      | (refine zk_bsE rfl ?_; try dsimp only)
      | (refine zk_kI ?_; first | rfl | decide | (simp only [f_X12_taken, B_X12_taken_0, f_X12_isShelf, B_X12_isShelf_0, f_X12_in, B_X12_in_0, zk_b2, zk_b3, zk_b4, zk_b5, zk_b6, zk_let]; with_reducible refine (?_ : zk_k _ _))))
set_option maxHeartbeats 4000000 in
set_option maxRecDepth 100000 in
theorem pe_count {g pf : Nat → Option Nat} {ae : Nat → Nat} {wb : Nat} (GF : ∀ t, t < 8 → g (24 + t) = some (ae 0)) (PF : ∀ j, j < 6 → pf j = some (ae (2 + 2 * j))) (a0 : Int32) : ∃ R1 R2, f_X11_count  a0 0 0 0 0 0 (.ref wb) 0 0 0 0 0 0 0 0 = some R1 ∧ f_X12_count  a0 0 0 0 0 0 0 0 0 0 0 0 0 0 0 0 0 0 = some R2 ∧ R1.1 = R2.1 := by
  refine zk_go ?_
  clear GF PF
  simp only [f_X11_count, B_X11_count_0, zk_b2, zk_b3, zk_b4, zk_b5, zk_b6, zk_let]
  repeat' (first
    | (with_reducible refine zk_kI ?_; first | rfl | decide | (simp only [f_X12_count, B_X12_count_0, zk_b2, zk_b3, zk_b4, zk_b5, zk_b6, zk_let]; done) | (simp only [f_X12_count, B_X12_count_0, zk_b2, zk_b3, zk_b4, zk_b5, zk_b6, zk_let]; with_reducible refine (?_ : zk_k _ _)))
    | with_reducible refine zk_iteT (by assumption) ?_
    | with_reducible refine zk_iteF (by assumption) ?_
    | with_reducible refine zk_iteN (by assumption) ?_
    | with_reducible refine zk_iteT (by decide) ?_
    | with_reducible refine zk_iteF (by decide) ?_
    | with_reducible refine zk_biteT (by assumption) ?_
    | with_reducible refine zk_biteF (by assumption) ?_
    | with_reducible refine zk_biteN (by assumption) ?_
    | with_reducible refine zk_biteT (by decide) ?_
    | with_reducible refine zk_biteF (by decide) ?_
    | (with_reducible refine zk_bs ?_; try dsimp only)
    | with_reducible refine zk_bas ?_
    | with_reducible refine zk_ite (fun _ => ?_) (fun _ => ?_)
    | with_reducible refine zk_bite (fun _ => ?_) (fun _ => ?_)
    | (simp only [Option.bind_some, Option.bind_none, ↓reduceIte, reduceIte, eq_self, Bool.false_eq_true, or_true, true_or, or_false, false_or, or_self, and_true, true_and, and_false, false_and, not_true_eq_false, not_false_eq_true])
    | (exfalso; simp only [zs_01, zs_cl, Int32.lt_iff_toInt_lt, Int32.le_iff_toInt_le, ← Int32.toInt_inj, zt_m2000000000, zt_m100, zt_m15, zt_m14, zt_m13, zt_m12, zt_m11, zt_m10, zt_m9, zt_m8, zt_m7, zt_m6, zt_m5, zt_m4, zt_m3, zt_m2, zt_m1, zt_0, zt_1, zt_2, zt_3, zt_4, zt_5, zt_6, zt_7, zt_8, zt_9, zt_10, zt_11, zt_12, zt_13, zt_14, zt_15, zt_16, zt_17, zt_18, zt_19, zt_20, zt_21, zt_22, zt_23, zt_24, zt_25, zt_26, zt_27, zt_28, zt_29, zt_30, zt_31, zt_32, zt_33, zt_34, zt_35, zt_36, zt_37, zt_38, zt_39, zt_40, zt_41, zt_42, zt_43, zt_44, zt_45, zt_46, zt_47, zt_48, zt_49, zt_50, zt_51, zt_52, zt_53, zt_54, zt_55, zt_56, zt_57, zt_58, zt_59, zt_60, zt_61, zt_62, zt_63, zt_64, zt_65, zt_66, zt_67, zt_68, zt_69, zt_81, zt_82, zt_99, zt_100, zt_120, zt_1000, zt_9999, zt_10000] at *; omega)
    | (refine zk_bsE rfl ?_; try dsimp only)
    | (refine zk_kI ?_; first | rfl | decide | (simp only [f_X12_count, B_X12_count_0, zk_b2, zk_b3, zk_b4, zk_b5, zk_b6, zk_let]; with_reducible refine (?_ : zk_k _ _))))
set_option maxHeartbeats 4000000 in
set_option maxRecDepth 100000 in
theorem pe_shiftA {g pf : Nat → Option Nat} {ae : Nat → Nat} {wb : Nat} (GF : ∀ t, t < 8 → g (24 + t) = some (ae 0)) (PF : ∀ j, j < 6 → pf j = some (ae (2 + 2 * j))) (j0 : Nat) (hj0 : j0 < 6) (a0 : Int32) (a1 : Int32) (a2 : Int32) (a3 : Int32) (a4 : Int32) (hp0 : (¬ a0 < 0 ∧ ¬ 6 ≤ a0) → a0.toNatClampNeg = j0) (hp1 : (¬ a2 < 0 ∧ ¬ 6 ≤ a2) → a2.toNatClampNeg = j0) : ∃ R1 R2, f_X11_shift (ae (2 + 2 * j0)) a0 a1 a2 a3 a4 pf (-1) 0 0 = some R1 ∧ f_X12_shift  4000 a0 a1 a2 a3 a4 0 0 0 0 0 0 0 0 0 0 0 0 0 0 0 0 0 ((upd (upd (upd (upd (upd (upd (fun _ => 0) ((0 : Int32)).toNatClampNeg (-1 : Int32)) ((1 : Int32)).toNatClampNeg (-1 : Int32)) ((2 : Int32)).toNatClampNeg (-1 : Int32)) ((3 : Int32)).toNatClampNeg (-1 : Int32)) ((4 : Int32)).toNatClampNeg (-1 : Int32)) ((5 : Int32)).toNatClampNeg (-1 : Int32))) ((fun _ => 0)) ((fun _ => 0)) ((fun _ => 0)) = some R2 ∧ R1.1 = R2.1 := by
  have hh : ∀ x : Int32, (¬ x < 0 ∧ ¬ 6 ≤ x) → (upd (upd (upd (upd (upd (upd (fun _ => 0) ((0 : Int32)).toNatClampNeg (-1 : Int32)) ((1 : Int32)).toNatClampNeg (-1 : Int32)) ((2 : Int32)).toNatClampNeg (-1 : Int32)) ((3 : Int32)).toNatClampNeg (-1 : Int32)) ((4 : Int32)).toNatClampNeg (-1 : Int32)) ((5 : Int32)).toNatClampNeg (-1 : Int32)) x.toNatClampNeg = -1 := by
    intro x hx
    rcases zk_c6 x with rfl | rfl | rfl | rfl | rfl | rfl | h
    · rfl
    · rfl
    · rfl
    · rfl
    · rfl
    · rfl
    · exact absurd hx (fun z => h.elim z.1 z.2)
  generalize (upd (upd (upd (upd (upd (upd (fun _ => 0) ((0 : Int32)).toNatClampNeg (-1 : Int32)) ((1 : Int32)).toNatClampNeg (-1 : Int32)) ((2 : Int32)).toNatClampNeg (-1 : Int32)) ((3 : Int32)).toNatClampNeg (-1 : Int32)) ((4 : Int32)).toNatClampNeg (-1 : Int32)) ((5 : Int32)).toNatClampNeg (-1 : Int32)) = HO at hh ⊢
  have hpf0 : (¬ a0 < 0 ∧ ¬ 6 ≤ a0) → pf a0.toNatClampNeg = some (ae (2 + 2 * j0)) := fun h => by rw [hp0 h]; exact PF j0 hj0
  have hpf1 : (¬ a2 < 0 ∧ ¬ 6 ≤ a2) → pf a2.toNatClampNeg = some (ae (2 + 2 * j0)) := fun h => by rw [hp1 h]; exact PF j0 hj0
  generalize ae (2 + 2 * j0) = A0 at *
  clear GF PF
  by_cases hA0 : ¬ a0 < 0 ∧ ¬ 6 ≤ a0
  · have e0 := hpf0 hA0
    have f0 := hh a0 hA0
    by_cases hA1 : ¬ a2 < 0 ∧ ¬ 6 ≤ a2
    · have e1 := hpf1 hA1
      have f1 := hh a2 hA1
      clear hh hpf0 hpf1
      refine zk_go ?_
      simp only [f_X11_shift, B_X11_shift_0, f_X11_placeAt, B_X11_placeAt_0, f_X6_hasRange, B_X6_hasRange_0, zk_b2, zk_b3, zk_b4, zk_b5, zk_b6, zk_let]
      repeat' (first
        | (with_reducible refine zk_kI ?_; first | rfl | decide | (simp only [f_X12_shift, B_X12_shift_0, f_X12_isShelf, B_X12_isShelf_0, f_X12_in, B_X12_in_0, B_X12_shift_113, B_X12_shift_150, zk_b2, zk_b3, zk_b4, zk_b5, zk_b6, zk_let]; done) | (simp only [f_X12_shift, B_X12_shift_0, f_X12_isShelf, B_X12_isShelf_0, f_X12_in, B_X12_in_0, B_X12_shift_113, B_X12_shift_150, zk_b2, zk_b3, zk_b4, zk_b5, zk_b6, zk_let]; with_reducible refine (?_ : zk_k _ _)))
        | with_reducible refine zk_iteT (by assumption) ?_
        | with_reducible refine zk_iteF (by assumption) ?_
        | with_reducible refine zk_iteN (by assumption) ?_
        | with_reducible refine zk_iteT (by decide) ?_
        | with_reducible refine zk_iteF (by decide) ?_
        | with_reducible refine zk_biteT (by assumption) ?_
        | with_reducible refine zk_biteF (by assumption) ?_
        | with_reducible refine zk_biteN (by assumption) ?_
        | with_reducible refine zk_biteT (by decide) ?_
        | with_reducible refine zk_biteF (by decide) ?_
        | (with_reducible refine zk_bs ?_; try dsimp only)
        | with_reducible refine zk_bas ?_
        | with_reducible refine zk_ite (fun _ => ?_) (fun _ => ?_)
        | with_reducible refine zk_bite (fun _ => ?_) (fun _ => ?_)
        | (simp only [Option.bind_some, Option.bind_none, ↓reduceIte, reduceIte, eq_self, Bool.false_eq_true, or_true, true_or, or_false, false_or, or_self, and_true, true_and, and_false, false_and, not_true_eq_false, not_false_eq_true, e0, f0, e1, f1])
        | (exfalso; simp only [zs_01, zs_cl, Int32.lt_iff_toInt_lt, Int32.le_iff_toInt_le, ← Int32.toInt_inj, zt_m2000000000, zt_m100, zt_m15, zt_m14, zt_m13, zt_m12, zt_m11, zt_m10, zt_m9, zt_m8, zt_m7, zt_m6, zt_m5, zt_m4, zt_m3, zt_m2, zt_m1, zt_0, zt_1, zt_2, zt_3, zt_4, zt_5, zt_6, zt_7, zt_8, zt_9, zt_10, zt_11, zt_12, zt_13, zt_14, zt_15, zt_16, zt_17, zt_18, zt_19, zt_20, zt_21, zt_22, zt_23, zt_24, zt_25, zt_26, zt_27, zt_28, zt_29, zt_30, zt_31, zt_32, zt_33, zt_34, zt_35, zt_36, zt_37, zt_38, zt_39, zt_40, zt_41, zt_42, zt_43, zt_44, zt_45, zt_46, zt_47, zt_48, zt_49, zt_50, zt_51, zt_52, zt_53, zt_54, zt_55, zt_56, zt_57, zt_58, zt_59, zt_60, zt_61, zt_62, zt_63, zt_64, zt_65, zt_66, zt_67, zt_68, zt_69, zt_81, zt_82, zt_99, zt_100, zt_120, zt_1000, zt_9999, zt_10000] at *; omega)
        | (refine zk_bsE rfl ?_; try dsimp only)
        | (refine zk_kI ?_; first | rfl | decide | (simp only [f_X12_shift, B_X12_shift_0, f_X12_isShelf, B_X12_isShelf_0, f_X12_in, B_X12_in_0, B_X12_shift_113, B_X12_shift_150, zk_b2, zk_b3, zk_b4, zk_b5, zk_b6, zk_let]; with_reducible refine (?_ : zk_k _ _))))
    · clear hh hpf0 hpf1
      refine zk_go ?_
      simp only [f_X11_shift, B_X11_shift_0, f_X11_placeAt, B_X11_placeAt_0, f_X6_hasRange, B_X6_hasRange_0, zk_b2, zk_b3, zk_b4, zk_b5, zk_b6, zk_let]
      repeat' (first
        | (with_reducible refine zk_kI ?_; first | rfl | decide | (simp only [f_X12_shift, B_X12_shift_0, f_X12_isShelf, B_X12_isShelf_0, f_X12_in, B_X12_in_0, B_X12_shift_113, B_X12_shift_150, zk_b2, zk_b3, zk_b4, zk_b5, zk_b6, zk_let]; done) | (simp only [f_X12_shift, B_X12_shift_0, f_X12_isShelf, B_X12_isShelf_0, f_X12_in, B_X12_in_0, B_X12_shift_113, B_X12_shift_150, zk_b2, zk_b3, zk_b4, zk_b5, zk_b6, zk_let]; with_reducible refine (?_ : zk_k _ _)))
        | with_reducible refine zk_iteT (by assumption) ?_
        | with_reducible refine zk_iteF (by assumption) ?_
        | with_reducible refine zk_iteN (by assumption) ?_
        | with_reducible refine zk_iteT (by decide) ?_
        | with_reducible refine zk_iteF (by decide) ?_
        | with_reducible refine zk_biteT (by assumption) ?_
        | with_reducible refine zk_biteF (by assumption) ?_
        | with_reducible refine zk_biteN (by assumption) ?_
        | with_reducible refine zk_biteT (by decide) ?_
        | with_reducible refine zk_biteF (by decide) ?_
        | (with_reducible refine zk_bs ?_; try dsimp only)
        | with_reducible refine zk_bas ?_
        | with_reducible refine zk_ite (fun _ => ?_) (fun _ => ?_)
        | with_reducible refine zk_bite (fun _ => ?_) (fun _ => ?_)
        | (simp only [Option.bind_some, Option.bind_none, ↓reduceIte, reduceIte, eq_self, Bool.false_eq_true, or_true, true_or, or_false, false_or, or_self, and_true, true_and, and_false, false_and, not_true_eq_false, not_false_eq_true, e0, f0])
        | (exfalso; simp only [zs_01, zs_cl, Int32.lt_iff_toInt_lt, Int32.le_iff_toInt_le, ← Int32.toInt_inj, zt_m2000000000, zt_m100, zt_m15, zt_m14, zt_m13, zt_m12, zt_m11, zt_m10, zt_m9, zt_m8, zt_m7, zt_m6, zt_m5, zt_m4, zt_m3, zt_m2, zt_m1, zt_0, zt_1, zt_2, zt_3, zt_4, zt_5, zt_6, zt_7, zt_8, zt_9, zt_10, zt_11, zt_12, zt_13, zt_14, zt_15, zt_16, zt_17, zt_18, zt_19, zt_20, zt_21, zt_22, zt_23, zt_24, zt_25, zt_26, zt_27, zt_28, zt_29, zt_30, zt_31, zt_32, zt_33, zt_34, zt_35, zt_36, zt_37, zt_38, zt_39, zt_40, zt_41, zt_42, zt_43, zt_44, zt_45, zt_46, zt_47, zt_48, zt_49, zt_50, zt_51, zt_52, zt_53, zt_54, zt_55, zt_56, zt_57, zt_58, zt_59, zt_60, zt_61, zt_62, zt_63, zt_64, zt_65, zt_66, zt_67, zt_68, zt_69, zt_81, zt_82, zt_99, zt_100, zt_120, zt_1000, zt_9999, zt_10000] at *; omega)
        | (refine zk_bsE rfl ?_; try dsimp only)
        | (refine zk_kI ?_; first | rfl | decide | (simp only [f_X12_shift, B_X12_shift_0, f_X12_isShelf, B_X12_isShelf_0, f_X12_in, B_X12_in_0, B_X12_shift_113, B_X12_shift_150, zk_b2, zk_b3, zk_b4, zk_b5, zk_b6, zk_let]; with_reducible refine (?_ : zk_k _ _))))
  · by_cases hA1 : ¬ a2 < 0 ∧ ¬ 6 ≤ a2
    · have e1 := hpf1 hA1
      have f1 := hh a2 hA1
      clear hh hpf0 hpf1
      refine zk_go ?_
      simp only [f_X11_shift, B_X11_shift_0, f_X11_placeAt, B_X11_placeAt_0, f_X6_hasRange, B_X6_hasRange_0, zk_b2, zk_b3, zk_b4, zk_b5, zk_b6, zk_let]
      repeat' (first
        | (with_reducible refine zk_kI ?_; first | rfl | decide | (simp only [f_X12_shift, B_X12_shift_0, f_X12_isShelf, B_X12_isShelf_0, f_X12_in, B_X12_in_0, B_X12_shift_113, B_X12_shift_150, zk_b2, zk_b3, zk_b4, zk_b5, zk_b6, zk_let]; done) | (simp only [f_X12_shift, B_X12_shift_0, f_X12_isShelf, B_X12_isShelf_0, f_X12_in, B_X12_in_0, B_X12_shift_113, B_X12_shift_150, zk_b2, zk_b3, zk_b4, zk_b5, zk_b6, zk_let]; with_reducible refine (?_ : zk_k _ _)))
        | with_reducible refine zk_iteT (by assumption) ?_
        | with_reducible refine zk_iteF (by assumption) ?_
        | with_reducible refine zk_iteN (by assumption) ?_
        | with_reducible refine zk_iteT (by decide) ?_
        | with_reducible refine zk_iteF (by decide) ?_
        | with_reducible refine zk_biteT (by assumption) ?_
        | with_reducible refine zk_biteF (by assumption) ?_
        | with_reducible refine zk_biteN (by assumption) ?_
        | with_reducible refine zk_biteT (by decide) ?_
        | with_reducible refine zk_biteF (by decide) ?_
        | (with_reducible refine zk_bs ?_; try dsimp only)
        | with_reducible refine zk_bas ?_
        | with_reducible refine zk_ite (fun _ => ?_) (fun _ => ?_)
        | with_reducible refine zk_bite (fun _ => ?_) (fun _ => ?_)
        | (simp only [Option.bind_some, Option.bind_none, ↓reduceIte, reduceIte, eq_self, Bool.false_eq_true, or_true, true_or, or_false, false_or, or_self, and_true, true_and, and_false, false_and, not_true_eq_false, not_false_eq_true, e1, f1])
        | (exfalso; simp only [zs_01, zs_cl, Int32.lt_iff_toInt_lt, Int32.le_iff_toInt_le, ← Int32.toInt_inj, zt_m2000000000, zt_m100, zt_m15, zt_m14, zt_m13, zt_m12, zt_m11, zt_m10, zt_m9, zt_m8, zt_m7, zt_m6, zt_m5, zt_m4, zt_m3, zt_m2, zt_m1, zt_0, zt_1, zt_2, zt_3, zt_4, zt_5, zt_6, zt_7, zt_8, zt_9, zt_10, zt_11, zt_12, zt_13, zt_14, zt_15, zt_16, zt_17, zt_18, zt_19, zt_20, zt_21, zt_22, zt_23, zt_24, zt_25, zt_26, zt_27, zt_28, zt_29, zt_30, zt_31, zt_32, zt_33, zt_34, zt_35, zt_36, zt_37, zt_38, zt_39, zt_40, zt_41, zt_42, zt_43, zt_44, zt_45, zt_46, zt_47, zt_48, zt_49, zt_50, zt_51, zt_52, zt_53, zt_54, zt_55, zt_56, zt_57, zt_58, zt_59, zt_60, zt_61, zt_62, zt_63, zt_64, zt_65, zt_66, zt_67, zt_68, zt_69, zt_81, zt_82, zt_99, zt_100, zt_120, zt_1000, zt_9999, zt_10000] at *; omega)
        | (refine zk_bsE rfl ?_; try dsimp only)
        | (refine zk_kI ?_; first | rfl | decide | (simp only [f_X12_shift, B_X12_shift_0, f_X12_isShelf, B_X12_isShelf_0, f_X12_in, B_X12_in_0, B_X12_shift_113, B_X12_shift_150, zk_b2, zk_b3, zk_b4, zk_b5, zk_b6, zk_let]; with_reducible refine (?_ : zk_k _ _))))
    · clear hh hpf0 hpf1
      refine zk_go ?_
      simp only [f_X11_shift, B_X11_shift_0, f_X11_placeAt, B_X11_placeAt_0, f_X6_hasRange, B_X6_hasRange_0, zk_b2, zk_b3, zk_b4, zk_b5, zk_b6, zk_let]
      repeat' (first
        | (with_reducible refine zk_kI ?_; first | rfl | decide | (simp only [f_X12_shift, B_X12_shift_0, f_X12_isShelf, B_X12_isShelf_0, f_X12_in, B_X12_in_0, B_X12_shift_113, B_X12_shift_150, zk_b2, zk_b3, zk_b4, zk_b5, zk_b6, zk_let]; done) | (simp only [f_X12_shift, B_X12_shift_0, f_X12_isShelf, B_X12_isShelf_0, f_X12_in, B_X12_in_0, B_X12_shift_113, B_X12_shift_150, zk_b2, zk_b3, zk_b4, zk_b5, zk_b6, zk_let]; with_reducible refine (?_ : zk_k _ _)))
        | with_reducible refine zk_iteT (by assumption) ?_
        | with_reducible refine zk_iteF (by assumption) ?_
        | with_reducible refine zk_iteN (by assumption) ?_
        | with_reducible refine zk_iteT (by decide) ?_
        | with_reducible refine zk_iteF (by decide) ?_
        | with_reducible refine zk_biteT (by assumption) ?_
        | with_reducible refine zk_biteF (by assumption) ?_
        | with_reducible refine zk_biteN (by assumption) ?_
        | with_reducible refine zk_biteT (by decide) ?_
        | with_reducible refine zk_biteF (by decide) ?_
        | (with_reducible refine zk_bs ?_; try dsimp only)
        | with_reducible refine zk_bas ?_
        | with_reducible refine zk_ite (fun _ => ?_) (fun _ => ?_)
        | with_reducible refine zk_bite (fun _ => ?_) (fun _ => ?_)
        | (simp only [Option.bind_some, Option.bind_none, ↓reduceIte, reduceIte, eq_self, Bool.false_eq_true, or_true, true_or, or_false, false_or, or_self, and_true, true_and, and_false, false_and, not_true_eq_false, not_false_eq_true])
        | (exfalso; simp only [zs_01, zs_cl, Int32.lt_iff_toInt_lt, Int32.le_iff_toInt_le, ← Int32.toInt_inj, zt_m2000000000, zt_m100, zt_m15, zt_m14, zt_m13, zt_m12, zt_m11, zt_m10, zt_m9, zt_m8, zt_m7, zt_m6, zt_m5, zt_m4, zt_m3, zt_m2, zt_m1, zt_0, zt_1, zt_2, zt_3, zt_4, zt_5, zt_6, zt_7, zt_8, zt_9, zt_10, zt_11, zt_12, zt_13, zt_14, zt_15, zt_16, zt_17, zt_18, zt_19, zt_20, zt_21, zt_22, zt_23, zt_24, zt_25, zt_26, zt_27, zt_28, zt_29, zt_30, zt_31, zt_32, zt_33, zt_34, zt_35, zt_36, zt_37, zt_38, zt_39, zt_40, zt_41, zt_42, zt_43, zt_44, zt_45, zt_46, zt_47, zt_48, zt_49, zt_50, zt_51, zt_52, zt_53, zt_54, zt_55, zt_56, zt_57, zt_58, zt_59, zt_60, zt_61, zt_62, zt_63, zt_64, zt_65, zt_66, zt_67, zt_68, zt_69, zt_81, zt_82, zt_99, zt_100, zt_120, zt_1000, zt_9999, zt_10000] at *; omega)
        | (refine zk_bsE rfl ?_; try dsimp only)
        | (refine zk_kI ?_; first | rfl | decide | (simp only [f_X12_shift, B_X12_shift_0, f_X12_isShelf, B_X12_isShelf_0, f_X12_in, B_X12_in_0, B_X12_shift_113, B_X12_shift_150, zk_b2, zk_b3, zk_b4, zk_b5, zk_b6, zk_let]; with_reducible refine (?_ : zk_k _ _))))
