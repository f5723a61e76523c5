
theorem zk_letE {A B : Type} (x : A) (k : A → Option B) : zk_let x k = k x := of_eq_true (eq_true rfl)
theorem zk_b1E {A B : Type} (x : Option A) (k : A → Option B) : zk_b1 x k = x.bind k := of_eq_true (eq_true rfl)
theorem zk_b2E {A0 A1 B : Type} (x : Option (A0 × A1)) (k : A0 → A1 → Option B) : zk_b2 x k = x.bind (fun R => k R.1 R.2) := of_eq_true (eq_true rfl)
theorem zk_b3E {A0 A1 A2 B : Type} (x : Option (A0 × A1 × A2)) (k : A0 → A1 → A2 → Option B) : zk_b3 x k = x.bind (fun R => k R.1 R.2.1 R.2.2) := of_eq_true (eq_true rfl)
theorem zk_b4E {A0 A1 A2 A3 B : Type} (x : Option (A0 × A1 × A2 × A3)) (k : A0 → A1 → A2 → A3 → Option B) : zk_b4 x k = x.bind (fun R => k R.1 R.2.1 R.2.2.1 R.2.2.2) := of_eq_true (eq_true rfl)
theorem zk_b5E {A0 A1 A2 A3 A4 B : Type} (x : Option (A0 × A1 × A2 × A3 × A4)) (k : A0 → A1 → A2 → A3 → A4 → Option B) : zk_b5 x k = x.bind (fun R => k R.1 R.2.1 R.2.2.1 R.2.2.2.1 R.2.2.2.2) := of_eq_true (eq_true rfl)
theorem zk_b6E {A0 A1 A2 A3 A4 A5 B : Type} (x : Option (A0 × A1 × A2 × A3 × A4 × A5)) (k : A0 → A1 → A2 → A3 → A4 → A5 → Option B) : zk_b6 x k = x.bind (fun R => k R.1 R.2.1 R.2.2.1 R.2.2.2.1 R.2.2.2.2.1 R.2.2.2.2.2) := of_eq_true (eq_true rfl)
theorem zk_b7E {A0 A1 A2 A3 A4 A5 A6 B : Type} (x : Option (A0 × A1 × A2 × A3 × A4 × A5 × A6)) (k : A0 → A1 → A2 → A3 → A4 → A5 → A6 → Option B) : zk_b7 x k = x.bind (fun R => k R.1 R.2.1 R.2.2.1 R.2.2.2.1 R.2.2.2.2.1 R.2.2.2.2.2.1 R.2.2.2.2.2.2) := of_eq_true (eq_true rfl)
theorem zk_b8E {A0 A1 A2 A3 A4 A5 A6 A7 B : Type} (x : Option (A0 × A1 × A2 × A3 × A4 × A5 × A6 × A7)) (k : A0 → A1 → A2 → A3 → A4 → A5 → A6 → A7 → Option B) : zk_b8 x k = x.bind (fun R => k R.1 R.2.1 R.2.2.1 R.2.2.2.1 R.2.2.2.2.1 R.2.2.2.2.2.1 R.2.2.2.2.2.2.1 R.2.2.2.2.2.2.2) := of_eq_true (eq_true rfl)
theorem zk_b9E {A0 A1 A2 A3 A4 A5 A6 A7 A8 B : Type} (x : Option (A0 × A1 × A2 × A3 × A4 × A5 × A6 × A7 × A8)) (k : A0 → A1 → A2 → A3 → A4 → A5 → A6 → A7 → A8 → Option B) : zk_b9 x k = x.bind (fun R => k R.1 R.2.1 R.2.2.1 R.2.2.2.1 R.2.2.2.2.1 R.2.2.2.2.2.1 R.2.2.2.2.2.2.1 R.2.2.2.2.2.2.2.1 R.2.2.2.2.2.2.2.2) := of_eq_true (eq_true rfl)
def zk_k {C A : Type} (x : Option (C × A)) (P : C → Prop) : Prop := ∃ R, x = some R ∧ P R.1
theorem zk_kI {C A : Type} {a : C} {u : A} {P : C → Prop} (h : P a) : zk_k (some (a, u)) P := ⟨_, rfl, h⟩
theorem zk_go {C A B : Type} {x : Option (C × A)} {y : Option (C × B)} (h : zk_k x (fun v => zk_k y (fun w => w = v))) : ∃ R1 R2, x = some R1 ∧ y = some R2 ∧ R1.1 = R2.1 := by
  obtain ⟨R1, h1, R2, h2, e⟩ := h
  exact ⟨R1, R2, h1, h2, e.symm⟩
section ZKP
variable {C A T : Type} {P : C → Prop} {c : Prop} {x y : Option (C × A)} {z w : Option T} {k : T → Option (C × A)}
theorem zk_ite {d : Decidable c} (h1 : c → zk_k x P) (h2 : ¬ c → zk_k y P) : zk_k (@ite _ c d x y) P := by
  by_cases h : c
  · rw [if_pos h]; exact h1 h
  · rw [if_neg h]; exact h2 h
theorem zk_iteT {d : Decidable c} (h : c) (h1 : zk_k x P) : zk_k (@ite _ c d x y) P := by rw [if_pos h]; exact h1
theorem zk_iteF {d : Decidable c} (h : ¬ c) (h1 : zk_k y P) : zk_k (@ite _ c d x y) P := by rw [if_neg h]; exact h1
theorem zk_iteN {d : Decidable (¬ c)} (h : c) (h1 : zk_k y P) : zk_k (@ite _ (¬ c) d x y) P := by rw [if_neg (fun n => n h)]; exact h1
theorem zk_bite {d : Decidable c} (h1 : c → zk_k (z.bind k) P) (h2 : ¬ c → zk_k (w.bind k) P) : zk_k ((@ite _ c d z w).bind k) P := by
  by_cases h : c
  · rw [if_pos h]; exact h1 h
  · rw [if_neg h]; exact h2 h
theorem zk_biteT {d : Decidable c} (h : c) (h1 : zk_k (z.bind k) P) : zk_k ((@ite _ c d z w).bind k) P := by rw [if_pos h]; exact h1
theorem zk_biteF {d : Decidable c} (h : ¬ c) (h1 : zk_k (w.bind k) P) : zk_k ((@ite _ c d z w).bind k) P := by rw [if_neg h]; exact h1
theorem zk_biteN {d : Decidable (¬ c)} (h : c) (h1 : zk_k (w.bind k) P) : zk_k ((@ite _ (¬ c) d z w).bind k) P := by rw [if_neg (fun n => n h)]; exact h1
theorem zk_bs {a : T} (h : zk_k (k a) P) : zk_k ((some a).bind k) P := h
theorem zk_bsE {a : T} (e : z = some a) (h : zk_k (k a) P) : zk_k (z.bind k) P := by
  rw [e]; exact h
theorem zk_bas {T2 : Type} {q : Option T2} {k1 : T2 → Option T} (h : zk_k (q.bind (fun r => (k1 r).bind k)) P) : zk_k ((q.bind k1).bind k) P := by
  cases q with
  | none => exact h
  | some r => exact h
end ZKP
theorem zs_01 : (0 : Int32) - 1 = -1 := by decide
theorem zs_cl (x : Int32) : x.toNatClampNeg = x.toInt.toNat := rfl
theorem zt_m2000000000 : (-2000000000 : Int32).toInt = -2000000000 := by decide
theorem zt_m100 : (-100 : Int32).toInt = -100 := by decide
theorem zt_m15 : (-15 : Int32).toInt = -15 := by decide
theorem zt_m14 : (-14 : Int32).toInt = -14 := by decide
theorem zt_m13 : (-13 : Int32).toInt = -13 := by decide
theorem zt_m12 : (-12 : Int32).toInt = -12 := by decide
theorem zt_m11 : (-11 : Int32).toInt = -11 := by decide
theorem zt_m10 : (-10 : Int32).toInt = -10 := by decide
theorem zt_m9 : (-9 : Int32).toInt = -9 := by decide
theorem zt_m8 : (-8 : Int32).toInt = -8 := by decide
theorem zt_m7 : (-7 : Int32).toInt = -7 := by decide
theorem zt_m6 : (-6 : Int32).toInt = -6 := by decide
theorem zt_m5 : (-5 : Int32).toInt = -5 := by decide
theorem zt_m4 : (-4 : Int32).toInt = -4 := by decide
theorem zt_m3 : (-3 : Int32).toInt = -3 := by decide
theorem zt_m2 : (-2 : Int32).toInt = -2 := by decide
theorem zt_m1 : (-1 : Int32).toInt = -1 := by decide
theorem zt_0 : (0 : Int32).toInt = 0 := by decide
theorem zt_1 : (1 : Int32).toInt = 1 := by decide
theorem zt_2 : (2 : Int32).toInt = 2 := by decide
theorem zt_3 : (3 : Int32).toInt = 3 := by decide
theorem zt_4 : (4 : Int32).toInt = 4 := by decide
theorem zt_5 : (5 : Int32).toInt = 5 := by decide
theorem zt_6 : (6 : Int32).toInt = 6 := by decide
theorem zt_7 : (7 : Int32).toInt = 7 := by decide
theorem zt_8 : (8 : Int32).toInt = 8 := by decide
theorem zt_9 : (9 : Int32).toInt = 9 := by decide
theorem zt_10 : (10 : Int32).toInt = 10 := by decide
theorem zt_11 : (11 : Int32).toInt = 11 := by decide
theorem zt_12 : (12 : Int32).toInt = 12 := by decide
theorem zt_13 : (13 : Int32).toInt = 13 := by decide
theorem zt_14 : (14 : Int32).toInt = 14 := by decide
theorem zt_15 : (15 : Int32).toInt = 15 := by decide
theorem zt_16 : (16 : Int32).toInt = 16 := by decide
theorem zt_17 : (17 : Int32).toInt = 17 := by decide
theorem zt_18 : (18 : Int32).toInt = 18 := by decide
theorem zt_19 : (19 : Int32).toInt = 19 := by decide
theorem zt_20 : (20 : Int32).toInt = 20 := by decide
theorem zt_21 : (21 : Int32).toInt = 21 := by decide
theorem zt_22 : (22 : Int32).toInt = 22 := by decide
theorem zt_23 : (23 : Int32).toInt = 23 := by decide
theorem zt_24 : (24 : Int32).toInt = 24 := by decide
theorem zt_25 : (25 : Int32).toInt = 25 := by decide
theorem zt_26 : (26 : Int32).toInt = 26 := by decide
theorem zt_27 : (27 : Int32).toInt = 27 := by decide
theorem zt_28 : (28 : Int32).toInt = 28 := by decide
theorem zt_29 : (29 : Int32).toInt = 29 := by decide
theorem zt_30 : (30 : Int32).toInt = 30 := by decide
theorem zt_31 : (31 : Int32).toInt = 31 := by decide
theorem zt_32 : (32 : Int32).toInt = 32 := by decide
theorem zt_33 : (33 : Int32).toInt = 33 := by decide
theorem zt_34 : (34 : Int32).toInt = 34 := by decide
theorem zt_35 : (35 : Int32).toInt = 35 := by decide
theorem zt_36 : (36 : Int32).toInt = 36 := by decide
theorem zt_37 : (37 : Int32).toInt = 37 := by decide
theorem zt_38 : (38 : Int32).toInt = 38 := by decide
theorem zt_39 : (39 : Int32).toInt = 39 := by decide
theorem zt_40 : (40 : Int32).toInt = 40 := by decide
theorem zt_41 : (41 : Int32).toInt = 41 := by decide
theorem zt_42 : (42 : Int32).toInt = 42 := by decide
theorem zt_43 : (43 : Int32).toInt = 43 := by decide
theorem zt_44 : (44 : Int32).toInt = 44 := by decide
theorem zt_45 : (45 : Int32).toInt = 45 := by decide
theorem zt_46 : (46 : Int32).toInt = 46 := by decide
theorem zt_47 : (47 : Int32).toInt = 47 := by decide
theorem zt_48 : (48 : Int32).toInt = 48 := by decide
theorem zt_49 : (49 : Int32).toInt = 49 := by decide
theorem zt_50 : (50 : Int32).toInt = 50 := by decide
theorem zt_51 : (51 : Int32).toInt = 51 := by decide
theorem zt_52 : (52 : Int32).toInt = 52 := by decide
theorem zt_53 : (53 : Int32).toInt = 53 := by decide
theorem zt_54 : (54 : Int32).toInt = 54 := by decide
theorem zt_55 : (55 : Int32).toInt = 55 := by decide
theorem zt_56 : (56 : Int32).toInt = 56 := by decide
theorem zt_57 : (57 : Int32).toInt = 57 := by decide
theorem zt_58 : (58 : Int32).toInt = 58 := by decide
theorem zt_59 : (59 : Int32).toInt = 59 := by decide
theorem zt_60 : (60 : Int32).toInt = 60 := by decide
theorem zt_61 : (61 : Int32).toInt = 61 := by decide
theorem zt_62 : (62 : Int32).toInt = 62 := by decide
theorem zt_63 : (63 : Int32).toInt = 63 := by decide
theorem zt_64 : (64 : Int32).toInt = 64 := by decide
theorem zt_65 : (65 : Int32).toInt = 65 := by decide
theorem zt_66 : (66 : Int32).toInt = 66 := by decide
theorem zt_67 : (67 : Int32).toInt = 67 := by decide
theorem zt_68 : (68 : Int32).toInt = 68 := by decide
theorem zt_69 : (69 : Int32).toInt = 69 := by decide
theorem zt_81 : (81 : Int32).toInt = 81 := by decide
theorem zt_82 : (82 : Int32).toInt = 82 := by decide
theorem zt_99 : (99 : Int32).toInt = 99 := by decide
theorem zt_100 : (100 : Int32).toInt = 100 := by decide
theorem zt_120 : (120 : Int32).toInt = 120 := by decide
theorem zt_1000 : (1000 : Int32).toInt = 1000 := by decide
theorem zt_9999 : (9999 : Int32).toInt = 9999 := by decide
theorem zt_10000 : (10000 : Int32).toInt = 10000 := by decide
theorem zs_ite0 {P : Prop} [Decidable P] : ((if P then (1 : Int32) else 0) = 0) = ¬ P := by
  by_cases h : P
  · simp [h]
  · simp [h]
theorem zi_in (x lo hi : Int32) : f_X12_in x lo hi = some ((if lo ≤ x ∧ x ≤ hi then (1 : Int32) else 0), ()) := by
  have h1 : (x < lo) ↔ ¬ lo ≤ x := by simp only [Int32.lt_iff_toInt_lt, Int32.le_iff_toInt_le]; omega
  have h2 : (hi < x) ↔ ¬ x ≤ hi := by simp only [Int32.lt_iff_toInt_lt, Int32.le_iff_toInt_le]; omega
  by_cases c1 : lo ≤ x
  · by_cases c2 : x ≤ hi
    · simp [f_X12_in, B_X12_in_0, h1, h2, c1, c2]
    · simp [f_X12_in, B_X12_in_0, h1, h2, c1, c2]
  · simp [f_X12_in, B_X12_in_0, h1, h2, c1]
theorem zi_b (P : Prop) [Decidable P] : (if ¬ ((if P then (1 : Int32) else 0) = 0 ∨ (if P then (1 : Int32) else 0) = 1) then (none : Option (Int32 × Unit)) else some ((if P then (1 : Int32) else 0), ())) = some ((if P then (1 : Int32) else 0), ()) := by
  by_cases h : P
  · simp [h]
  · simp [h]
theorem zi_isPerson (x : Int32) : f_X12_isPerson x = some ((if 0 ≤ x ∧ x ≤ 19 then (1 : Int32) else 0), ()) := by
  simp only [f_X12_isPerson, B_X12_isPerson_0, zi_in, zk_b2, Option.bind_some]
  exact zi_b _
theorem zi_isDay (x : Int32) : f_X12_isDay x = some ((if 0 ≤ x ∧ x ≤ 9999 then (1 : Int32) else 0), ()) := by
  simp only [f_X12_isDay, B_X12_isDay_0, zi_in, zk_b2, Option.bind_some]
  exact zi_b _
theorem zi_isShelf (x : Int32) : f_X12_isShelf x = some ((if 0 ≤ x ∧ x ≤ 5 then (1 : Int32) else 0), ()) := by
  simp only [f_X12_isShelf, B_X12_isShelf_0, zi_in, zk_b2, Option.bind_some]
  exact zi_b _
theorem zk_c14 (x : Int32) : x = 1 ∨ x = 2 ∨ x = 3 ∨ x = 4 ∨ (x < 1 ∨ 4 < x) := by
  simp only [zs_01, zs_cl, Int32.lt_iff_toInt_lt, Int32.le_iff_toInt_le, ← Int32.toInt_inj, zt_m2000000000, zt_m100, zt_m15, zt_m14, zt_m13, zt_m12, zt_m11, zt_m10, zt_m9, zt_m8, zt_m7, zt_m6, zt_m5, zt_m4, zt_m3, zt_m2, zt_m1, zt_0, zt_1, zt_2, zt_3, zt_4, zt_5, zt_6, zt_7, zt_8, zt_9, zt_10, zt_11, zt_12, zt_13, zt_14, zt_15, zt_16, zt_17, zt_18, zt_19, zt_20, zt_21, zt_22, zt_23, zt_24, zt_25, zt_26, zt_27, zt_28, zt_29, zt_30, zt_31, zt_32, zt_33, zt_34, zt_35, zt_36, zt_37, zt_38, zt_39, zt_40, zt_41, zt_42, zt_43, zt_44, zt_45, zt_46, zt_47, zt_48, zt_49, zt_50, zt_51, zt_52, zt_53, zt_54, zt_55, zt_56, zt_57, zt_58, zt_59, zt_60, zt_61, zt_62, zt_63, zt_64, zt_65, zt_66, zt_67, zt_68, zt_69, zt_81, zt_82, zt_99, zt_100, zt_120, zt_1000, zt_9999, zt_10000]
  omega
theorem zk_c6 (x : Int32) : x = 0 ∨ x = 1 ∨ x = 2 ∨ x = 3 ∨ x = 4 ∨ x = 5 ∨ (x < 0 ∨ 6 ≤ x) := by
  simp only [zs_01, zs_cl, Int32.lt_iff_toInt_lt, Int32.le_iff_toInt_le, ← Int32.toInt_inj, zt_m2000000000, zt_m100, zt_m15, zt_m14, zt_m13, zt_m12, zt_m11, zt_m10, zt_m9, zt_m8, zt_m7, zt_m6, zt_m5, zt_m4, zt_m3, zt_m2, zt_m1, zt_0, zt_1, zt_2, zt_3, zt_4, zt_5, zt_6, zt_7, zt_8, zt_9, zt_10, zt_11, zt_12, zt_13, zt_14, zt_15, zt_16, zt_17, zt_18, zt_19, zt_20, zt_21, zt_22, zt_23, zt_24, zt_25, zt_26, zt_27, zt_28, zt_29, zt_30, zt_31, zt_32, zt_33, zt_34, zt_35, zt_36, zt_37, zt_38, zt_39, zt_40, zt_41, zt_42, zt_43, zt_44, zt_45, zt_46, zt_47, zt_48, zt_49, zt_50, zt_51, zt_52, zt_53, zt_54, zt_55, zt_56, zt_57, zt_58, zt_59, zt_60, zt_61, zt_62, zt_63, zt_64, zt_65, zt_66, zt_67, zt_68, zt_69, zt_81, zt_82, zt_99, zt_100, zt_120, zt_1000, zt_9999, zt_10000]
  omega
theorem zk_c2 (x : Int32) : x = 0 ∨ x = 1 ∨ (¬ x = 0 ∧ ¬ x = 1) := by
  simp only [zs_01, zs_cl, Int32.lt_iff_toInt_lt, Int32.le_iff_toInt_le, ← Int32.toInt_inj, zt_m2000000000, zt_m100, zt_m15, zt_m14, zt_m13, zt_m12, zt_m11, zt_m10, zt_m9, zt_m8, zt_m7, zt_m6, zt_m5, zt_m4, zt_m3, zt_m2, zt_m1, zt_0, zt_1, zt_2, zt_3, zt_4, zt_5, zt_6, zt_7, zt_8, zt_9, zt_10, zt_11, zt_12, zt_13, zt_14, zt_15, zt_16, zt_17, zt_18, zt_19, zt_20, zt_21, zt_22, zt_23, zt_24, zt_25, zt_26, zt_27, zt_28, zt_29, zt_30, zt_31, zt_32, zt_33, zt_34, zt_35, zt_36, zt_37, zt_38, zt_39, zt_40, zt_41, zt_42, zt_43, zt_44, zt_45, zt_46, zt_47, zt_48, zt_49, zt_50, zt_51, zt_52, zt_53, zt_54, zt_55, zt_56, zt_57, zt_58, zt_59, zt_60, zt_61, zt_62, zt_63, zt_64, zt_65, zt_66, zt_67, zt_68, zt_69, zt_81, zt_82, zt_99, zt_100, zt_120, zt_1000, zt_9999, zt_10000]
  omega
theorem zs_m10 (x : Int32) : ¬ x < 0 → ¬ (x - x / 10 * 10 < 0) := by
  intro h
  have h1 : (x / 10).toInt = x.toInt / 10 := by
    rw [Int32.lt_iff_toInt_lt, zt_0] at h
    have h2 := Int32.toInt_lt x
    rw [Int32.toInt_div, zt_10, Int.tdiv_eq_ediv_of_nonneg (by omega)]
    rw [Int.bmod_eq_of_le (by omega) (by omega)]
  rw [Int32.lt_iff_toInt_lt, zt_0] at h ⊢
  have h2 := Int32.toInt_lt x
  rw [Int32.toInt_sub, Int32.toInt_mul, h1, zt_10]
  rw [Int.bmod_eq_of_le (n := x.toInt / 10 * 10) (by omega) (by omega)]
  rw [Int.bmod_eq_of_le (by omega) (by omega)]
  omega

set_option maxHeartbeats 4000000 in
set_option maxRecDepth 100000 in
theorem pe_shoe {g pf : Nat → Option Nat} {ae : Nat → Nat} {wb : Nat} (GF : ∀ t, t < 8 → g (24 + t) = some (ae 0)) (PF : ∀ j, j < 6 → pf j = some (ae (2 + 2 * j))) (a0 : Int32) (a1 : Int32) (a2 : Int32) (a3 : Int32) : ∃ R1 R2, f_X11_shoe  a0 a1 a2 a3 0 0 0 (fun _ => 0) (fun _ => 0) (fun _ => 0) (fun _ => 0) = some R1 ∧ f_X12_shoe  a0 a1 a2 a3 0 0 0 0 0 0 0 0 0 0 0 0 0 0 0 0 0 ((fun _ => 0)) ((fun _ => 0)) ((fun _ => 0)) ((fun _ => 0)) = some R2 ∧ R1.1 = R2.1 := by
  refine zk_go ?_
  clear GF PF
  simp only [f_X11_shoe, B_X11_shoe_0, f_X2_isShoe, B_X2_isShoe_0, f_X11_isDay, B_X11_isDay_0, f_X2_addShoe, B_X2_addShoe_0, zk_b2, zk_b3, zk_b4, zk_b5, zk_b6, zk_let]
  repeat' (first
    | (with_reducible refine zk_kI ?_; first | rfl | decide | (simp only [f_X12_shoe, B_X12_shoe_0, f_X12_isPerson, B_X12_isPerson_0, f_X12_in, B_X12_in_0, f_X12_isDay, B_X12_isDay_0, zk_b2, zk_b3, zk_b4, zk_b5, zk_b6, zk_let]; done) | (simp only [f_X12_shoe, B_X12_shoe_0, f_X12_isPerson, B_X12_isPerson_0, f_X12_in, B_X12_in_0, f_X12_isDay, B_X12_isDay_0, zk_b2, zk_b3, zk_b4, zk_b5, zk_b6, zk_let]; with_reducible refine (?_ : zk_k _ _)) | with_reducible refine (?_ : zk_k _ _))
    | with_reducible refine zk_iteT (by assumption) ?_
    | with_reducible refine zk_iteF (by assumption) ?_
    | with_reducible refine zk_iteN (by assumption) ?_
    | with_reducible refine zk_iteT (by decide) ?_
    | with_reducible refine zk_iteF (by decide) ?_
    | with_reducible refine zk_biteT (by assumption) ?_
    | with_reducible refine zk_biteF (by assumption) ?_
    | with_reducible refine zk_biteN (by assumption) ?_
    | with_reducible refine zk_biteT (by decide) ?_
    | with_reducible refine zk_biteF (by decide) ?_
    | (with_reducible refine zk_bs ?_; try dsimp only)
    | with_reducible refine zk_bas ?_
    | with_reducible refine zk_ite (fun _ => ?_) (fun _ => ?_)
    | with_reducible refine zk_bite (fun _ => ?_) (fun _ => ?_)
    | (simp only [Option.bind_some, Option.bind_none, ↓reduceIte, reduceIte, eq_self, Bool.false_eq_true, or_true, true_or, or_false, false_or, or_self, and_true, true_and, and_false, false_and, not_true_eq_false, not_false_eq_true])
    | (exfalso; simp only [zs_01, zs_cl, Int32.lt_iff_toInt_lt, Int32.le_iff_toInt_le, ← Int32.toInt_inj, zt_m2000000000, zt_m100, zt_m15, zt_m14, zt_m13, zt_m12, zt_m11, zt_m10, zt_m9, zt_m8, zt_m7, zt_m6, zt_m5, zt_m4, zt_m3, zt_m2, zt_m1, zt_0, zt_1, zt_2, zt_3, zt_4, zt_5, zt_6, zt_7, zt_8, zt_9, zt_10, zt_11, zt_12, zt_13, zt_14, zt_15, zt_16, zt_17, zt_18, zt_19, zt_20, zt_21, zt_22, zt_23, zt_24, zt_25, zt_26, zt_27, zt_28, zt_29, zt_30, zt_31, zt_32, zt_33, zt_34, zt_35, zt_36, zt_37, zt_38, zt_39, zt_40, zt_41, zt_42, zt_43, zt_44, zt_45, zt_46, zt_47, zt_48, zt_49, zt_50, zt_51, zt_52, zt_53, zt_54, zt_55, zt_56, zt_57, zt_58, zt_59, zt_60, zt_61, zt_62, zt_63, zt_64, zt_65, zt_66, zt_67, zt_68, zt_69, zt_81, zt_82, zt_99, zt_100, zt_120, zt_1000, zt_9999, zt_10000] at *; omega)
    | (refine zk_bsE rfl ?_; try dsimp only)
    | (refine zk_kI ?_; first | rfl | decide | (simp only [f_X12_shoe, B_X12_shoe_0, f_X12_isPerson, B_X12_isPerson_0, f_X12_in, B_X12_in_0, f_X12_isDay, B_X12_isDay_0, zk_b2, zk_b3, zk_b4, zk_b5, zk_b6, zk_let]; with_reducible refine (?_ : zk_k _ _))))
set_option maxHeartbeats 4000000 in
set_option maxRecDepth 100000 in
theorem zc_sh {A : Nat} {pf : Nat → Option Nat} (a1 a2 : Int32) (h : ¬ a2 < 1) : G_X11_shoes A pf (-1) 0 0 4000 a1 a2 0 0 = some (0, ()) := by
  show B_X11_shoes_69 A (G_X11_shoes A pf (-1) 0 0 3999) pf (-1) 0 0 a1 a2 0 0 = some (0, ())
  unfold B_X11_shoes_69
  rw [if_neg (by simp only [zs_01, zs_cl, Int32.lt_iff_toInt_lt, Int32.le_iff_toInt_le, ← Int32.toInt_inj, zt_m2000000000, zt_m100, zt_m15, zt_m14, zt_m13, zt_m12, zt_m11, zt_m10, zt_m9, zt_m8, zt_m7, zt_m6, zt_m5, zt_m4, zt_m3, zt_m2, zt_m1, zt_0, zt_1, zt_2, zt_3, zt_4, zt_5, zt_6, zt_7, zt_8, zt_9, zt_10, zt_11, zt_12, zt_13, zt_14, zt_15, zt_16, zt_17, zt_18, zt_19, zt_20, zt_21, zt_22, zt_23, zt_24, zt_25, zt_26, zt_27, zt_28, zt_29, zt_30, zt_31, zt_32, zt_33, zt_34, zt_35, zt_36, zt_37, zt_38, zt_39, zt_40, zt_41, zt_42, zt_43, zt_44, zt_45, zt_46, zt_47, zt_48, zt_49, zt_50, zt_51, zt_52, zt_53, zt_54, zt_55, zt_56, zt_57, zt_58, zt_59, zt_60, zt_61, zt_62, zt_63, zt_64, zt_65, zt_66, zt_67, zt_68, zt_69, zt_81, zt_82, zt_99, zt_100, zt_120, zt_1000, zt_9999, zt_10000] at *; omega)]
  by_cases h1 : a1 < 0
  · rw [if_pos h1]
  · rw [if_neg h1, if_pos]
    have h2 : lg_cmp (a1.toInt64 + (4 : Int64) * (0 : Int32).toInt64 + (4 : Int64)) (0 : Int32).toInt64 = 1 := by
      have e : ∀ y : Int64, 0 < y → lg_cmp y 0 = 1 := by
        intro y hy
        have n1 : ¬ y < 0 := fun h => Int64.lt_irrefl (Int64.lt_trans hy h)
        have n2 : ¬ y = 0 := fun h => Int64.lt_irrefl (h ▸ hy)
        simp [lg_cmp, n1, n2, hy]
      have e2 : (0 : Int32).toInt64 = 0 := rfl
      rw [e2]
      apply e
      rw [Int32.lt_iff_toInt_lt, zt_0] at h1
      have h3 := Int32.toInt_lt a1
      rw [Int64.lt_iff_toInt_lt, Int64.toInt_add, Int64.toInt_add, Int32.toInt_toInt64]
      have e4 : ((4 : Int64) * 0).toInt = 0 := by decide
      have e5 : (4 : Int64).toInt = 4 := by decide
      have e6 : (0 : Int64).toInt = 0 := by decide
      rw [e4, e5, e6]
      rw [Int.bmod_eq_of_le (n := a1.toInt + 0) (by omega) (by omega)]
      rw [Int.bmod_eq_of_le (by omega) (by omega)]
      omega
    rw [h2]
    decide
set_option maxHeartbeats 4000000 in
set_option maxRecDepth 100000 in
theorem pe_shoes {g pf : Nat → Option Nat} {ae : Nat → Nat} {wb : Nat} (GF : ∀ t, t < 8 → g (24 + t) = some (ae 0)) (PF : ∀ j, j < 6 → pf j = some (ae (2 + 2 * j))) (j0 : Nat) (hj0 : j0 < 6) (a0 : Int32) (a1 : Int32) (a2 : Int32) (hp0 : (¬ a0 < 0 ∧ ¬ 6 ≤ a0) → a0.toNatClampNeg = j0) : ∃ R1 R2, f_X11_shoes (ae (2 + 2 * j0)) 4000 a0 a1 a2 pf (-1) 0 0 = some R1 ∧ f_X12_shoes  4000 a0 a1 a2 0 0 0 0 0 0 0 0 0 0 0 0 0 0 0 0 0 ((fun _ => 0)) ((fun _ => 0)) ((fun _ => 0)) ((fun _ => 0)) ((upd (upd (upd (upd (upd (upd (fun _ => 0) ((0 : Int32)).toNatClampNeg (-1 : Int32)) ((1 : Int32)).toNatClampNeg (-1 : Int32)) ((2 : Int32)).toNatClampNeg (-1 : Int32)) ((3 : Int32)).toNatClampNeg (-1 : Int32)) ((4 : Int32)).toNatClampNeg (-1 : Int32)) ((5 : Int32)).toNatClampNeg (-1 : Int32))) ((fun _ => 0)) ((fun _ => 0)) = some R2 ∧ R1.1 = R2.1 := by
  have hh : ∀ x : Int32, (¬ x < 0 ∧ ¬ 6 ≤ x) → (upd (upd (upd (upd (upd (upd (fun _ => 0) ((0 : Int32)).toNatClampNeg (-1 : Int32)) ((1 : Int32)).toNatClampNeg (-1 : Int32)) ((2 : Int32)).toNatClampNeg (-1 : Int32)) ((3 : Int32)).toNatClampNeg (-1 : Int32)) ((4 : Int32)).toNatClampNeg (-1 : Int32)) ((5 : Int32)).toNatClampNeg (-1 : Int32)) x.toNatClampNeg = -1 := by
    intro x hx
    rcases zk_c6 x with rfl | rfl | rfl | rfl | rfl | rfl | h
    · rfl
    · rfl
    · rfl
    · rfl
    · rfl
    · rfl
    · exact absurd hx (fun z => h.elim z.1 z.2)
  generalize (upd (upd (upd (upd (upd (upd (fun _ => 0) ((0 : Int32)).toNatClampNeg (-1 : Int32)) ((1 : Int32)).toNatClampNeg (-1 : Int32)) ((2 : Int32)).toNatClampNeg (-1 : Int32)) ((3 : Int32)).toNatClampNeg (-1 : Int32)) ((4 : Int32)).toNatClampNeg (-1 : Int32)) ((5 : Int32)).toNatClampNeg (-1 : Int32)) = HO at hh ⊢
  have hpf0 : (¬ a0 < 0 ∧ ¬ 6 ≤ a0) → pf a0.toNatClampNeg = some (ae (2 + 2 * j0)) := fun h => by rw [hp0 h]; exact PF j0 hj0
  generalize ae (2 + 2 * j0) = A0 at *
  clear GF PF
  by_cases hA0 : ¬ a0 < 0 ∧ ¬ 6 ≤ a0
  · have e0 := hpf0 hA0
    have f0 := hh a0 hA0
    clear hh hpf0
    refine zk_go ?_
    simp only [f_X11_shoes, B_X11_shoes_0, f_X11_placeAt, B_X11_placeAt_0, B_X11_shoes_46, B_X11_shoes_64, B_X11_shoes_69, zk_b2, zk_b3, zk_b4, zk_b5, zk_b6, zk_let]
    repeat' (first
      | (with_reducible refine zk_kI ?_; first | rfl | decide | (simp only [f_X12_shoes, B_X12_shoes_0, f_X12_isShelf, B_X12_isShelf_0, f_X12_in, B_X12_in_0, B_X12_shoes_43, B_X12_shoes_58, f_X12_isPerson, B_X12_isPerson_0, f_X12_isDay, B_X12_isDay_0, zk_b2, zk_b3, zk_b4, zk_b5, zk_b6, zk_let]; done) | (simp only [f_X12_shoes, B_X12_shoes_0, f_X12_isShelf, B_X12_isShelf_0, f_X12_in, B_X12_in_0, B_X12_shoes_43, B_X12_shoes_58, f_X12_isPerson, B_X12_isPerson_0, f_X12_isDay, B_X12_isDay_0, zk_b2, zk_b3, zk_b4, zk_b5, zk_b6, zk_let]; with_reducible refine (?_ : zk_k _ _)) | with_reducible refine (?_ : zk_k _ _))
      | with_reducible refine zk_iteT (by assumption) ?_
      | with_reducible refine zk_iteF (by assumption) ?_
      | with_reducible refine zk_iteN (by assumption) ?_
      | with_reducible refine zk_iteT (by decide) ?_
      | with_reducible refine zk_iteF (by decide) ?_
      | with_reducible refine zk_biteT (by assumption) ?_
      | with_reducible refine zk_biteF (by assumption) ?_
      | with_reducible refine zk_biteN (by assumption) ?_
      | with_reducible refine zk_biteT (by decide) ?_
      | with_reducible refine zk_biteF (by decide) ?_
      | (with_reducible refine zk_bs ?_; try dsimp only)
      | with_reducible refine zk_bas ?_
      | with_reducible refine zk_ite (fun _ => ?_) (fun _ => ?_)
      | with_reducible refine zk_bite (fun _ => ?_) (fun _ => ?_)
      | (rw [zc_sh _ _ (by assumption)]) | (simp only [Option.bind_some, Option.bind_none, ↓reduceIte, reduceIte, eq_self, Bool.false_eq_true, or_true, true_or, or_false, false_or, or_self, and_true, true_and, and_false, false_and, not_true_eq_false, not_false_eq_true, e0, f0])
      | (exfalso; simp only [zs_01, zs_cl, Int32.lt_iff_toInt_lt, Int32.le_iff_toInt_le, ← Int32.toInt_inj, zt_m2000000000, zt_m100, zt_m15, zt_m14, zt_m13, zt_m12, zt_m11, zt_m10, zt_m9, zt_m8, zt_m7, zt_m6, zt_m5, zt_m4, zt_m3, zt_m2, zt_m1, zt_0, zt_1, zt_2, zt_3, zt_4, zt_5, zt_6, zt_7, zt_8, zt_9, zt_10, zt_11, zt_12, zt_13, zt_14, zt_15, zt_16, zt_17, zt_18, zt_19, zt_20, zt_21, zt_22, zt_23, zt_24, zt_25, zt_26, zt_27, zt_28, zt_29, zt_30, zt_31, zt_32, zt_33, zt_34, zt_35, zt_36, zt_37, zt_38, zt_39, zt_40, zt_41, zt_42, zt_43, zt_44, zt_45, zt_46, zt_47, zt_48, zt_49, zt_50, zt_51, zt_52, zt_53, zt_54, zt_55, zt_56, zt_57, zt_58, zt_59, zt_60, zt_61, zt_62, zt_63, zt_64, zt_65, zt_66, zt_67, zt_68, zt_69, zt_81, zt_82, zt_99, zt_100, zt_120, zt_1000, zt_9999, zt_10000] at *; omega)
      | (refine zk_bsE rfl ?_; try dsimp only)
      | (refine zk_kI ?_; first | rfl | decide | (simp only [f_X12_shoes, B_X12_shoes_0, f_X12_isShelf, B_X12_isShelf_0, f_X12_in, B_X12_in_0, B_X12_shoes_43, B_X12_shoes_58, f_X12_isPerson, B_X12_isPerson_0, f_X12_isDay, B_X12_isDay_0, zk_b2, zk_b3, zk_b4, zk_b5, zk_b6, zk_let]; with_reducible refine (?_ : zk_k _ _))))
  · clear hh hpf0
    refine zk_go ?_
    simp only [f_X11_shoes, B_X11_shoes_0, f_X11_placeAt, B_X11_placeAt_0, B_X11_shoes_46, B_X11_shoes_64, B_X11_shoes_69, zk_b2, zk_b3, zk_b4, zk_b5, zk_b6, zk_let]
    repeat' (first
      | (with_reducible refine zk_kI ?_; first | rfl | decide | (simp only [f_X12_shoes, B_X12_shoes_0, f_X12_isShelf, B_X12_isShelf_0, f_X12_in, B_X12_in_0, B_X12_shoes_43, B_X12_shoes_58, f_X12_isPerson, B_X12_isPerson_0, f_X12_isDay, B_X12_isDay_0, zk_b2, zk_b3, zk_b4, zk_b5, zk_b6, zk_let]; done) | (simp only [f_X12_shoes, B_X12_shoes_0, f_X12_isShelf, B_X12_isShelf_0, f_X12_in, B_X12_in_0, B_X12_shoes_43, B_X12_shoes_58, f_X12_isPerson, B_X12_isPerson_0, f_X12_isDay, B_X12_isDay_0, zk_b2, zk_b3, zk_b4, zk_b5, zk_b6, zk_let]; with_reducible refine (?_ : zk_k _ _)) | with_reducible refine (?_ : zk_k _ _))
      | with_reducible refine zk_iteT (by assumption) ?_
      | with_reducible refine zk_iteF (by assumption) ?_
      | with_reducible refine zk_iteN (by assumption) ?_
      | with_reducible refine zk_iteT (by decide) ?_
      | with_reducible refine zk_iteF (by decide) ?_
      | with_reducible refine zk_biteT (by assumption) ?_
      | with_reducible refine zk_biteF (by assumption) ?_
      | with_reducible refine zk_biteN (by assumption) ?_
      | with_reducible refine zk_biteT (by decide) ?_
      | with_reducible refine zk_biteF (by decide) ?_
      | (with_reducible refine zk_bs ?_; try dsimp only)
      | with_reducible refine zk_bas ?_
      | with_reducible refine zk_ite (fun _ => ?_) (fun _ => ?_)
      | with_reducible refine zk_bite (fun _ => ?_) (fun _ => ?_)
      | (rw [zc_sh _ _ (by assumption)]) | (simp only [Option.bind_some, Option.bind_none, ↓reduceIte, reduceIte, eq_self, Bool.false_eq_true, or_true, true_or, or_false, false_or, or_self, and_true, true_and, and_false, false_and, not_true_eq_false, not_false_eq_true])
      | (exfalso; simp only [zs_01, zs_cl, Int32.lt_iff_toInt_lt, Int32.le_iff_toInt_le, ← Int32.toInt_inj, zt_m2000000000, zt_m100, zt_m15, zt_m14, zt_m13, zt_m12, zt_m11, zt_m10, zt_m9, zt_m8, zt_m7, zt_m6, zt_m5, zt_m4, zt_m3, zt_m2, zt_m1, zt_0, zt_1, zt_2, zt_3, zt_4, zt_5, zt_6, zt_7, zt_8, zt_9, zt_10, zt_11, zt_12, zt_13, zt_14, zt_15, zt_16, zt_17, zt_18, zt_19, zt_20, zt_21, zt_22, zt_23, zt_24, zt_25, zt_26, zt_27, zt_28, zt_29, zt_30, zt_31, zt_32, zt_33, zt_34, zt_35, zt_36, zt_37, zt_38, zt_39, zt_40, zt_41, zt_42, zt_43, zt_44, zt_45, zt_46, zt_47, zt_48, zt_49, zt_50, zt_51, zt_52, zt_53, zt_54, zt_55, zt_56, zt_57, zt_58, zt_59, zt_60, zt_61, zt_62, zt_63, zt_64, zt_65, zt_66, zt_67, zt_68, zt_69, zt_81, zt_82, zt_99, zt_100, zt_120, zt_1000, zt_9999, zt_10000] at *; omega)
      | (refine zk_bsE rfl ?_; try dsimp only)
      | (refine zk_kI ?_; first | rfl | decide | (simp only [f_X12_shoes, B_X12_shoes_0, f_X12_isShelf, B_X12_isShelf_0, f_X12_in, B_X12_in_0, B_X12_shoes_43, B_X12_shoes_58, f_X12_isPerson, B_X12_isPerson_0, f_X12_isDay, B_X12_isDay_0, zk_b2, zk_b3, zk_b4, zk_b5, zk_b6, zk_let]; with_reducible refine (?_ : zk_k _ _))))
set_option maxHeartbeats 4000000 in
set_option maxRecDepth 100000 in
theorem pe_ofShoe {g pf : Nat → Option Nat} {ae : Nat → Nat} {wb : Nat} (GF : ∀ t, t < 8 → g (24 + t) = some (ae 0)) (PF : ∀ j, j < 6 → pf j = some (ae (2 + 2 * j))) (a0 : Int32) (a1 : Int32) : ∃ R1 R2, f_X11_ofShoe  a0 a1 0 0 0 (fun _ => 0) (fun _ => 0) (fun _ => 0) (fun _ => 0) = some R1 ∧ f_X12_ofShoe  a0 a1 0 0 0 0 0 0 0 0 0 0 0 0 0 0 0 0 0 ((fun _ => 0)) ((fun _ => 0)) ((fun _ => 0)) ((fun _ => 0)) = some R2 ∧ R1.1 = R2.1 := by
  refine zk_go ?_
  clear GF PF
  simp only [f_X11_ofShoe, B_X11_ofShoe_0, f_X11_isShoeNumber, B_X11_isShoeNumber_0, zk_b2, zk_b3, zk_b4, zk_b5, zk_b6, zk_let]
  repeat' (first
    | (with_reducible refine zk_kI ?_; first | rfl | decide | (simp only [f_X12_ofShoe, B_X12_ofShoe_0, f_X12_isShoe, B_X12_isShoe_0, f_X12_in, B_X12_in_0, zk_b2, zk_b3, zk_b4, zk_b5, zk_b6, zk_let]; done) | (simp only [f_X12_ofShoe, B_X12_ofShoe_0, f_X12_isShoe, B_X12_isShoe_0, f_X12_in, B_X12_in_0, zk_b2, zk_b3, zk_b4, zk_b5, zk_b6, zk_let]; with_reducible refine (?_ : zk_k _ _)) | with_reducible refine (?_ : zk_k _ _))
    | with_reducible refine zk_iteT (by assumption) ?_
    | with_reducible refine zk_iteF (by assumption) ?_
    | with_reducible refine zk_iteN (by assumption) ?_
    | with_reducible refine zk_iteT (by decide) ?_
    | with_reducible refine zk_iteF (by decide) ?_
    | with_reducible refine zk_biteT (by assumption) ?_
    | with_reducible refine zk_biteF (by assumption) ?_
    | with_reducible refine zk_biteN (by assumption) ?_
    | with_reducible refine zk_biteT (by decide) ?_
    | with_reducible refine zk_biteF (by decide) ?_
    | (with_reducible refine zk_bs ?_; try dsimp only)
    | with_reducible refine zk_bas ?_
    | with_reducible refine zk_ite (fun _ => ?_) (fun _ => ?_)
    | with_reducible refine zk_bite (fun _ => ?_) (fun _ => ?_)
    | (simp only [Option.bind_some, Option.bind_none, ↓reduceIte, reduceIte, eq_self, Bool.false_eq_true, or_true, true_or, or_false, false_or, or_self, and_true, true_and, and_false, false_and, not_true_eq_false, not_false_eq_true])
    | (exfalso; simp only [zs_01, zs_cl, Int32.lt_iff_toInt_lt, Int32.le_iff_toInt_le, ← Int32.toInt_inj, zt_m2000000000, zt_m100, zt_m15, zt_m14, zt_m13, zt_m12, zt_m11, zt_m10, zt_m9, zt_m8, zt_m7, zt_m6, zt_m5, zt_m4, zt_m3, zt_m2, zt_m1, zt_0, zt_1, zt_2, zt_3, zt_4, zt_5, zt_6, zt_7, zt_8, zt_9, zt_10, zt_11, zt_12, zt_13, zt_14, zt_15, zt_16, zt_17, zt_18, zt_19, zt_20, zt_21, zt_22, zt_23, zt_24, zt_25, zt_26, zt_27, zt_28, zt_29, zt_30, zt_31, zt_32, zt_33, zt_34, zt_35, zt_36, zt_37, zt_38, zt_39, zt_40, zt_41, zt_42, zt_43, zt_44, zt_45, zt_46, zt_47, zt_48, zt_49, zt_50, zt_51, zt_52, zt_53, zt_54, zt_55, zt_56, zt_57, zt_58, zt_59, zt_60, zt_61, zt_62, zt_63, zt_64, zt_65, zt_66, zt_67, zt_68, zt_69, zt_81, zt_82, zt_99, zt_100, zt_120, zt_1000, zt_9999, zt_10000] at *; omega)
    | (refine zk_bsE rfl ?_; try dsimp only)
    | (refine zk_kI ?_; first | rfl | decide | (simp only [f_X12_ofShoe, B_X12_ofShoe_0, f_X12_isShoe, B_X12_isShoe_0, f_X12_in, B_X12_in_0, zk_b2, zk_b3, zk_b4, zk_b5, zk_b6, zk_let]; with_reducible refine (?_ : zk_k _ _))))
set_option maxHeartbeats 4000000 in
set_option maxRecDepth 100000 in
theorem pe_moveShoe {g pf : Nat → Option Nat} {ae : Nat → Nat} {wb : Nat} (GF : ∀ t, t < 8 → g (24 + t) = some (ae 0)) (PF : ∀ j, j < 6 → pf j = some (ae (2 + 2 * j))) (a0 : Int32) (a1 : Int32) : ∃ R1 R2, f_X11_moveShoe  a0 a1 0 0 0 (fun _ => 0) = some R1 ∧ f_X12_moveShoe  a0 a1 0 0 0 0 0 0 0 0 0 0 0 0 0 0 0 0 0 ((fun _ => 0)) ((fun _ => 0)) ((fun _ => 0)) ((fun _ => 0)) ((fun _ => 0)) ((fun _ => 0)) ((fun _ => 0)) = some R2 ∧ R1.1 = R2.1 := by
  refine zk_go ?_
  clear GF PF
  simp only [f_X11_moveShoe, B_X11_moveShoe_0, f_X11_isShoeNumber, B_X11_isShoeNumber_0, f_X11_isDay, B_X11_isDay_0, zk_b2, zk_b3, zk_b4, zk_b5, zk_b6, zk_let]
  repeat' (first
    | (with_reducible refine zk_kI ?_; first | rfl | decide | (simp only [f_X12_moveShoe, B_X12_moveShoe_0, f_X12_isShoe, B_X12_isShoe_0, f_X12_in, B_X12_in_0, f_X12_isDay, B_X12_isDay_0, zk_b2, zk_b3, zk_b4, zk_b5, zk_b6, zk_let]; done) | (simp only [f_X12_moveShoe, B_X12_moveShoe_0, f_X12_isShoe, B_X12_isShoe_0, f_X12_in, B_X12_in_0, f_X12_isDay, B_X12_isDay_0, zk_b2, zk_b3, zk_b4, zk_b5, zk_b6, zk_let]; with_reducible refine (?_ : zk_k _ _)) | with_reducible refine (?_ : zk_k _ _))
    | with_reducible refine zk_iteT (by assumption) ?_
    | with_reducible refine zk_iteF (by assumption) ?_
    | with_reducible refine zk_iteN (by assumption) ?_
    | with_reducible refine zk_iteT (by decide) ?_
    | with_reducible refine zk_iteF (by decide) ?_
    | with_reducible refine zk_biteT (by assumption) ?_
    | with_reducible refine zk_biteF (by assumption) ?_
    | with_reducible refine zk_biteN (by assumption) ?_
    | with_reducible refine zk_biteT (by decide) ?_
    | with_reducible refine zk_biteF (by decide) ?_
    | (with_reducible refine zk_bs ?_; try dsimp only)
    | with_reducible refine zk_bas ?_
    | with_reducible refine zk_ite (fun _ => ?_) (fun _ => ?_)
    | with_reducible refine zk_bite (fun _ => ?_) (fun _ => ?_)
    | (simp only [Option.bind_some, Option.bind_none, ↓reduceIte, reduceIte, eq_self, Bool.false_eq_true, or_true, true_or, or_false, false_or, or_self, and_true, true_and, and_false, false_and, not_true_eq_false, not_false_eq_true])
    | (exfalso; simp only [zs_01, zs_cl, Int32.lt_iff_toInt_lt, Int32.le_iff_toInt_le, ← Int32.toInt_inj, zt_m2000000000, zt_m100, zt_m15, zt_m14, zt_m13, zt_m12, zt_m11, zt_m10, zt_m9, zt_m8, zt_m7, zt_m6, zt_m5, zt_m4, zt_m3, zt_m2, zt_m1, zt_0, zt_1, zt_2, zt_3, zt_4, zt_5, zt_6, zt_7, zt_8, zt_9, zt_10, zt_11, zt_12, zt_13, zt_14, zt_15, zt_16, zt_17, zt_18, zt_19, zt_20, zt_21, zt_22, zt_23, zt_24, zt_25, zt_26, zt_27, zt_28, zt_29, zt_30, zt_31, zt_32, zt_33, zt_34, zt_35, zt_36, zt_37, zt_38, zt_39, zt_40, zt_41, zt_42, zt_43, zt_44, zt_45, zt_46, zt_47, zt_48, zt_49, zt_50, zt_51, zt_52, zt_53, zt_54, zt_55, zt_56, zt_57, zt_58, zt_59, zt_60, zt_61, zt_62, zt_63, zt_64, zt_65, zt_66, zt_67, zt_68, zt_69, zt_81, zt_82, zt_99, zt_100, zt_120, zt_1000, zt_9999, zt_10000] at *; omega)
    | (refine zk_bsE rfl ?_; try dsimp only)
    | (refine zk_kI ?_; first | rfl | decide | (simp only [f_X12_moveShoe, B_X12_moveShoe_0, f_X12_isShoe, B_X12_isShoe_0, f_X12_in, B_X12_in_0, f_X12_isDay, B_X12_isDay_0, zk_b2, zk_b3, zk_b4, zk_b5, zk_b6, zk_let]; with_reducible refine (?_ : zk_k _ _))))
theorem zg0_G_X3_stepsTo   (court_shoeCount : Int32) (court_claimCount : Int32) (court_suitCount : Int32) (court_shoePerson : Nat → Int32) (court_shoeOther : Nat → Int32) (inq_day : Int32) (inq_land : Int32) (inq_shoeLeftOut : Int32) (n : Nat) (y0 : Int32) (y1 : Int32) (y2 : Int32) : (G_X3_stepsTo court_shoeCount court_claimCount court_suitCount court_shoePerson court_shoeOther inq_day inq_land inq_shoeLeftOut (n + 1)) y0 y1 y2 = B_X3_stepsTo_7   (G_X3_stepsTo court_shoeCount court_claimCount court_suitCount court_shoePerson court_shoeOther inq_day inq_land inq_shoeLeftOut n) court_shoeCount court_claimCount court_suitCount court_shoePerson court_shoeOther inq_day inq_land inq_shoeLeftOut y0 y1 y2 := rfl
theorem zc_nf (x k : Int32) (d l : Int32) : f_X3_nextFront 4000 x k 0 0 0 (fun _ => 0) (fun _ => 0) d l (-1) = some (0, ()) := rfl
theorem zc_shz (y : Int32) : (((0 : Int32) >>> (y &&& 31)) &&& 1) = 0 := by
  rw [Int32.zero_shiftRight, Int32.zero_and]
theorem zc_s1 (n : Nat) (y k k1 d l : Int32) (hk : ¬ (6 : Int32) < k) (hk2 : ¬ (6 : Int32) ≤ k) (e : k + 1 = k1) (f : Int32) (hf : ((f >>> (y &&& 31)) &&& 1) = 0) : (G_X3_stepsTo 0 0 0 (fun _ => 0) (fun _ => 0) d l (-1) (n + 1)) y f k = (G_X3_stepsTo 0 0 0 (fun _ => 0) (fun _ => 0) d l (-1) n) y 0 k1 := by
  rw [zg0_G_X3_stepsTo]
  unfold B_X3_stepsTo_7
  rw [if_neg hk, if_pos hf, if_neg hk2, zc_nf, zk_b2E, Option.bind_some]
  unfold B_X3_stepsTo_45
  rw [zk_letE, e]
theorem zc_st0 (x y d l : Int32) (hf : ((((1 : Int32) <<< (x &&& 31)) >>> (y &&& 31)) &&& 1) = 0) : f_X3_stepsTo 4000 x y 0 0 0 (fun _ => 0) (fun _ => 0) d l (-1) = some (-2, ()) := by
  unfold f_X3_stepsTo B_X3_stepsTo_0
  rw [zk_letE]
  have z := zc_shz y
  refine (zc_s1 3999 y 0 1 d l (by decide) (by decide) (by decide) _ hf).trans ?_
  refine (zc_s1 3998 y 1 2 d l (by decide) (by decide) (by decide) 0 z).trans ?_
  refine (zc_s1 3997 y 2 3 d l (by decide) (by decide) (by decide) 0 z).trans ?_
  refine (zc_s1 3996 y 3 4 d l (by decide) (by decide) (by decide) 0 z).trans ?_
  refine (zc_s1 3995 y 4 5 d l (by decide) (by decide) (by decide) 0 z).trans ?_
  refine (zc_s1 3994 y 5 6 d l (by decide) (by decide) (by decide) 0 z).trans ?_
  have e1 : (G_X3_stepsTo 0 0 0 (fun _ => 0) (fun _ => 0) d l (-1) (3993 + 1)) y 0 6 = (G_X3_stepsTo 0 0 0 (fun _ => 0) (fun _ => 0) d l (-1) 3993) y 0 7 := by
    rw [zg0_G_X3_stepsTo]
    unfold B_X3_stepsTo_7
    rw [if_neg (by decide), if_pos z, if_pos (by decide)]
    unfold B_X3_stepsTo_45
    rw [zk_letE, show (6 : Int32) + 1 = 7 from by decide]
  refine e1.trans ?_
  have e2 : (G_X3_stepsTo 0 0 0 (fun _ => 0) (fun _ => 0) d l (-1) (3992 + 1)) y 0 7 = some (-2, ()) := by
    rw [zg0_G_X3_stepsTo]
    unfold B_X3_stepsTo_7
    rw [if_pos (by decide)]
  exact e2
theorem zc_st1 (x y d l : Int32) (hf : ¬ ((((1 : Int32) <<< (x &&& 31)) >>> (y &&& 31)) &&& 1) = 0) : f_X3_stepsTo 4000 x y 0 0 0 (fun _ => 0) (fun _ => 0) d l (-1) = some (0, ()) := by
  unfold f_X3_stepsTo B_X3_stepsTo_0
  rw [zk_letE]
  have e2 : (G_X3_stepsTo 0 0 0 (fun _ => 0) (fun _ => 0) d l (-1) (3999 + 1)) y ((1 : Int32) <<< (x &&& 31)) 0 = some (0, ()) := by
    rw [zg0_G_X3_stepsTo]
    unfold B_X3_stepsTo_7
    rw [if_neg (by decide), if_neg hf]
  exact e2
theorem zc_fin : ∀ i j : Fin 20, ((((1 : Int32) <<< ((Int32.ofNat i.val) &&& 31)) >>> ((Int32.ofNat j.val) &&& 31)) &&& 1) = 0 ↔ ¬ i = j := by decide +kernel
theorem zc_of (x : Int32) (h : 0 ≤ x.toInt ∧ x.toInt < 20) : ∃ i : Fin 20, x = Int32.ofNat i.val := by
  refine ⟨⟨x.toInt.toNat, by omega⟩, ?_⟩
  apply Int32.toInt_inj.mp
  have e := Int32.toInt_ofNat_of_lt (n := x.toInt.toNat) (by omega)
  rw [e]
  omega
theorem zs_m100 (x : Int32) : ¬ x < 0 → 0 ≤ (x / 100).toInt ∧ 0 ≤ (x - x / 100 * 100).toInt := by
  intro h
  have h1 : (x / 100).toInt = x.toInt / 100 := by
    rw [Int32.lt_iff_toInt_lt, zt_0] at h
    have h2 := Int32.toInt_lt x
    rw [Int32.toInt_div, zt_100, Int.tdiv_eq_ediv_of_nonneg (by omega)]
    rw [Int.bmod_eq_of_le (by omega) (by omega)]
  rw [Int32.lt_iff_toInt_lt, zt_0] at h
  have h2 := Int32.toInt_lt x
  refine ⟨by omega, ?_⟩
  rw [Int32.toInt_sub, Int32.toInt_mul, h1, zt_100]
  rw [Int.bmod_eq_of_le (n := x.toInt / 100 * 100) (by omega) (by omega)]
  rw [Int.bmod_eq_of_le (by omega) (by omega)]
  omega
theorem zc_st (x y d l : Int32) (hx : 0 ≤ x.toInt ∧ x.toInt < 20) (hy : 0 ≤ y.toInt ∧ y.toInt < 20) : f_X3_stepsTo 4000 x y 0 0 0 (fun _ => 0) (fun _ => 0) d l (-1) = if x = y then some (0, ()) else some (-2, ()) := by
  obtain ⟨i, rfl⟩ := zc_of x hx
  obtain ⟨j, rfl⟩ := zc_of y hy
  by_cases c : i = j
  · rw [if_pos (by rw [c])]
    exact zc_st1 _ _ d l (fun h => (zc_fin i j).mp h c)
  · rw [if_neg, zc_st0 _ _ d l ((zc_fin i j).mpr c)]
    intro e
    have e2 : ∀ i j : Fin 20, Int32.ofNat i.val = Int32.ofNat j.val → i = j := by decide +kernel
    exact c (e2 i j e)

set_option maxHeartbeats 4000000 in
set_option maxRecDepth 100000 in
theorem zc_fb (d l : Int32) : ∃ R, f_X12_findBound 4000 d l (-1) 0 0 0 0 0 0 0 0 0 0 0 0 0 0 0 0 0 (fun _ => 0) (fun _ => 0) (fun _ => 0) (fun _ => 0) (fun _ => 0) (fun _ => 0) (fun _ => 0) (fun _ => 0) (fun _ => 0) (fun _ => 0) (fun _ => 0) (fun _ => 0) (fun _ => 0) = some R := ⟨_, rfl⟩
theorem zg0_G_X12_bound   (mod_code : Int32) (mod_shoes : Int32) (mod_claims : Int32) (mod_taped : Int32) (mod_here : Int32) (mod_fault : Int32) (mod_suits : Int32) (mod_doneMany : Int32) (mod_undoneMany : Int32) (mod_open : Int32) (mod_laid : Int32) (mod_isBoth : Int32) (mod_wished : Int32) (mod_bestMany : Int32) (mod_bestRow : Int32) (mod_ringDigits : Int32) (mod_traces : Int32) (mod_wearer : Nat → Int32) (mod_wornFor : Nat → Int32) (mod_shoeSort : Nat → Int32) (mod_shoeDay : Nat → Int32) (mod_act : Nat → Int32) (mod_with : Nat → Int32) (mod_lineMany : Nat → Int32) (mod_testEnd : Nat → Int32) (mod_lineEnd : Nat → Int32) (n : Nat) (y0 : Int32) (y1 : Int32) (y2 : Int32) (y3 : (Nat → Int32)) (y4 : (Nat → Int32)) (y5 : (Nat → Int32)) (y6 : (Nat → Int32)) (y7 : (Nat → Int32)) : (G_X12_bound mod_code mod_shoes mod_claims mod_taped mod_here mod_fault mod_suits mod_doneMany mod_undoneMany mod_open mod_laid mod_isBoth mod_wished mod_bestMany mod_bestRow mod_ringDigits mod_traces mod_wearer mod_wornFor mod_shoeSort mod_shoeDay mod_act mod_with mod_lineMany mod_testEnd mod_lineEnd (n + 1)) y0 y1 y2 y3 y4 y5 y6 y7 = B_X12_bound_56   (G_X12_bound mod_code mod_shoes mod_claims mod_taped mod_here mod_fault mod_suits mod_doneMany mod_undoneMany mod_open mod_laid mod_isBoth mod_wished mod_bestMany mod_bestRow mod_ringDigits mod_traces mod_wearer mod_wornFor mod_shoeSort mod_shoeDay mod_act mod_with mod_lineMany mod_testEnd mod_lineEnd n) mod_code mod_shoes mod_claims mod_taped mod_here mod_fault mod_suits mod_doneMany mod_undoneMany mod_open mod_laid mod_isBoth mod_wished mod_bestMany mod_bestRow mod_ringDigits mod_traces mod_wearer mod_wornFor mod_shoeSort mod_shoeDay mod_act mod_with mod_lineMany mod_testEnd mod_lineEnd y0 y1 y2 y3 y4 y5 y6 y7 := rfl
set_option maxHeartbeats 4000000 in
set_option maxRecDepth 100000 in
theorem zc_fs1 (p q : Int32) (D C : Nat → Int32) : ∃ R, f_X12_firstShoe 4000 p q 1 0 0 0 0 0 0 0 0 0 0 0 0 0 0 0 0 0 (fun _ => 0) (fun _ => 0) D C = some (-1, R) := ⟨_, rfl⟩
set_option maxHeartbeats 4000000 in
set_option maxRecDepth 100000 in
theorem zc_fs2 (p q : Int32) (D C : Nat → Int32) : ∃ R, f_X12_firstShoe 4000 p q 2 0 0 0 0 0 0 0 0 0 0 0 0 0 0 0 0 0 (fun _ => 0) (fun _ => 0) D C = some (-1, R) := ⟨_, rfl⟩
set_option maxHeartbeats 4000000 in
set_option maxRecDepth 100000 in
theorem zc_fs3 (p q : Int32) (D C : Nat → Int32) : ∃ R, f_X12_firstShoe 4000 p q 3 0 0 0 0 0 0 0 0 0 0 0 0 0 0 0 0 0 (fun _ => 0) (fun _ => 0) D C = some (-1, R) := ⟨_, rfl⟩
set_option maxHeartbeats 4000000 in
set_option maxRecDepth 100000 in
theorem zc_fs4 (p q : Int32) (D C : Nat → Int32) : ∃ R, f_X12_firstShoe 4000 p q 4 0 0 0 0 0 0 0 0 0 0 0 0 0 0 0 0 0 (fun _ => 0) (fun _ => 0) D C = some (-1, R) := ⟨_, rfl⟩
set_option maxHeartbeats 4000000 in
set_option maxRecDepth 100000 in
theorem zc_fs5 (p q : Int32) (D C : Nat → Int32) : ∃ R, f_X12_firstShoe 4000 p q 5 0 0 0 0 0 0 0 0 0 0 0 0 0 0 0 0 0 (fun _ => 0) (fun _ => 0) D C = some (-1, R) := ⟨_, rfl⟩
set_option maxHeartbeats 4000000 in
set_option maxRecDepth 100000 in
theorem zc_fs6 (p q : Int32) (D C : Nat → Int32) : ∃ R, f_X12_firstShoe 4000 p q 6 0 0 0 0 0 0 0 0 0 0 0 0 0 0 0 0 0 (fun _ => 0) (fun _ => 0) D C = some (-1, R) := ⟨_, rfl⟩
theorem zc_bs (n : Nat) (x1 x4 k k1 : Int32) (hk : ¬ (6 : Int32) < k) (e : k + 1 = k1) (F P D B C R : Nat → Int32) (h : f_X12_firstShoe 4000 (x1 / 100) (x1 - x1 / 100 * 100) k 0 0 0 0 0 0 0 0 0 0 0 0 0 0 0 0 0 (fun _ => 0) (fun _ => 0) D C = some (-1, R)) : (G_X12_bound 0 0 0 0 0 0 0 0 0 0 0 0 0 0 0 0 0 (fun _ => 0) (fun _ => 0) (fun _ => 0) (fun _ => 0) (fun _ => 0) (fun _ => 0) (fun _ => 0) (fun _ => 0) (fun _ => 0) (n + 1)) x1 x4 k F P D B C = (G_X12_bound 0 0 0 0 0 0 0 0 0 0 0 0 0 0 0 0 0 (fun _ => 0) (fun _ => 0) (fun _ => 0) (fun _ => 0) (fun _ => 0) (fun _ => 0) (fun _ => 0) (fun _ => 0) (fun _ => 0) n) x1 x4 k1 F P D B R := by
  rw [zg0_G_X12_bound]
  unfold B_X12_bound_56
  rw [if_neg hk, h, zk_b2E, Option.bind_some, if_pos (show (-1 : Int32) < 0 by decide), zk_letE, e]
theorem zc_bdk {x1 x4 : Int32} {F P D B : Nat → Int32} {Q : Int32 → Prop} (hq : Q (-2)) : zk_k ((G_X12_bound 0 0 0 0 0 0 0 0 0 0 0 0 0 0 0 0 0 (fun _ => 0) (fun _ => 0) (fun _ => 0) (fun _ => 0) (fun _ => 0) (fun _ => 0) (fun _ => 0) (fun _ => 0) (fun _ => 0) 4000) x1 x4 1 F P D B (fun _ => 0)) Q := by
  obtain ⟨R1, h1⟩ := zc_fs1 (x1 / 100) (x1 - x1 / 100 * 100) D (fun _ => 0)
  obtain ⟨R2, h2⟩ := zc_fs2 (x1 / 100) (x1 - x1 / 100 * 100) D R1
  obtain ⟨R3, h3⟩ := zc_fs3 (x1 / 100) (x1 - x1 / 100 * 100) D R2
  obtain ⟨R4, h4⟩ := zc_fs4 (x1 / 100) (x1 - x1 / 100 * 100) D R3
  obtain ⟨R5, h5⟩ := zc_fs5 (x1 / 100) (x1 - x1 / 100 * 100) D R4
  obtain ⟨R6, h6⟩ := zc_fs6 (x1 / 100) (x1 - x1 / 100 * 100) D R5
  have s1 := zc_bs 3999 x1 x4 1 2 (by decide) (by decide) F P D B (fun _ => 0) R1 h1
  have s2 := zc_bs 3998 x1 x4 2 3 (by decide) (by decide) F P D B R1 R2 h2
  have s3 := zc_bs 3997 x1 x4 3 4 (by decide) (by decide) F P D B R2 R3 h3
  have s4 := zc_bs 3996 x1 x4 4 5 (by decide) (by decide) F P D B R3 R4 h4
  have s5 := zc_bs 3995 x1 x4 5 6 (by decide) (by decide) F P D B R4 R5 h5
  have s6 := zc_bs 3994 x1 x4 6 7 (by decide) (by decide) F P D B R5 R6 h6
  have s7 : (G_X12_bound 0 0 0 0 0 0 0 0 0 0 0 0 0 0 0 0 0 (fun _ => 0) (fun _ => 0) (fun _ => 0) (fun _ => 0) (fun _ => 0) (fun _ => 0) (fun _ => 0) (fun _ => 0) (fun _ => 0) (3993 + 1)) x1 x4 7 F P D B R6 = some (-2, F, P, D, B, R6) := by
    rw [zg0_G_X12_bound]
    unfold B_X12_bound_56
    rw [if_pos (by decide)]
  have s8 := s1.trans (s2.trans (s3.trans (s4.trans (s5.trans (s6.trans s7)))))
  exact ⟨_, s8, hq⟩
set_option maxHeartbeats 4000000 in
set_option maxRecDepth 100000 in
theorem pe_bound {g pf : Nat → Option Nat} {ae : Nat → Nat} {wb : Nat} (GF : ∀ t, t < 8 → g (24 + t) = some (ae 0)) (PF : ∀ j, j < 6 → pf j = some (ae (2 + 2 * j))) (a0 : Int32) (a1 : Int32) (a2 : Int32) (a3 : Int32) : ∃ R1 R2, f_X11_bound  a0 a1 a2 a3 0 0 0 (fun _ => 0) (fun _ => 0) (fun _ => 0) 0 0 0 (fun _ => 0) (fun _ => 0) = some R1 ∧ f_X12_bound  4000 a0 a1 a2 a3 0 0 0 0 0 0 0 0 0 0 0 0 0 0 0 0 0 ((fun _ => 0)) ((fun _ => 0)) ((fun _ => 0)) ((fun _ => 0)) ((fun _ => 0)) ((fun _ => 0)) ((fun _ => 0)) ((fun _ => 0)) ((fun _ => 0)) ((fun _ => 0)) ((fun _ => 0)) ((fun _ => 0)) ((fun _ => 0)) ((fun _ => 0)) = some R2 ∧ R1.1 = R2.1 := by
  have hst := zc_st (a0 / 100) (a0 - a0 / 100 * 100) a1 a2
  have hm := zs_m100 a0
  obtain ⟨⟨v1, v2, v3, v4⟩, hfb⟩ := zc_fb a1 a2
  refine zk_go ?_
  clear GF PF
  simp only [f_X11_bound, B_X11_bound_0, f_X11_isPair, B_X11_isPair_0, f_X11_isDay, B_X11_isDay_0, f_X11_isLand, B_X11_isLand_0, f_X11_isChoice, B_X11_isChoice_0, B_X11_isChoice_9, zk_b2E, zk_b3E, zk_b4E, zk_b5E, zk_b6E, zk_letE]
  repeat' (first
    | (with_reducible refine zk_kI ?_; first | rfl | decide | (simp only [f_X12_bound, B_X12_bound_0, f_X12_isPair, B_X12_isPair_0, f_X12_isDay, B_X12_isDay_0, f_X12_in, B_X12_in_0, f_X12_isLand, B_X12_isLand_0, B_X12_bound_56, zk_b2E, zk_b3E, zk_b4E, zk_b5E, zk_b6E, zk_letE]; done) | (simp only [f_X12_bound, B_X12_bound_0, f_X12_isPair, B_X12_isPair_0, f_X12_isDay, B_X12_isDay_0, f_X12_in, B_X12_in_0, f_X12_isLand, B_X12_isLand_0, B_X12_bound_56, zk_b2E, zk_b3E, zk_b4E, zk_b5E, zk_b6E, zk_letE]; with_reducible refine (?_ : zk_k _ _)) | with_reducible refine (?_ : zk_k _ _))
    | with_reducible refine zk_iteT (by assumption) ?_
    | with_reducible refine zk_iteF (by assumption) ?_
    | with_reducible refine zk_iteN (by assumption) ?_
    | with_reducible refine zk_iteT (by decide) ?_
    | with_reducible refine zk_iteF (by decide) ?_
    | with_reducible refine zk_biteT (by assumption) ?_
    | with_reducible refine zk_biteF (by assumption) ?_
    | with_reducible refine zk_biteN (by assumption) ?_
    | with_reducible refine zk_biteT (by decide) ?_
    | with_reducible refine zk_biteF (by decide) ?_
    | (with_reducible refine zk_bs ?_; try dsimp only)
    | with_reducible refine zk_bas ?_
    | with_reducible refine zk_ite (fun _ => ?_) (fun _ => ?_)
    | with_reducible refine zk_bite (fun _ => ?_) (fun _ => ?_)
    | (with_reducible refine zc_bdk ?_; first | rfl | decide)
    | (rw [hst ⟨(hm (by assumption)).1, by clear hst hm; simp only [zs_01, zs_cl, Int32.lt_iff_toInt_lt, Int32.le_iff_toInt_le, ← Int32.toInt_inj, zt_m2000000000, zt_m100, zt_m15, zt_m14, zt_m13, zt_m12, zt_m11, zt_m10, zt_m9, zt_m8, zt_m7, zt_m6, zt_m5, zt_m4, zt_m3, zt_m2, zt_m1, zt_0, zt_1, zt_2, zt_3, zt_4, zt_5, zt_6, zt_7, zt_8, zt_9, zt_10, zt_11, zt_12, zt_13, zt_14, zt_15, zt_16, zt_17, zt_18, zt_19, zt_20, zt_21, zt_22, zt_23, zt_24, zt_25, zt_26, zt_27, zt_28, zt_29, zt_30, zt_31, zt_32, zt_33, zt_34, zt_35, zt_36, zt_37, zt_38, zt_39, zt_40, zt_41, zt_42, zt_43, zt_44, zt_45, zt_46, zt_47, zt_48, zt_49, zt_50, zt_51, zt_52, zt_53, zt_54, zt_55, zt_56, zt_57, zt_58, zt_59, zt_60, zt_61, zt_62, zt_63, zt_64, zt_65, zt_66, zt_67, zt_68, zt_69, zt_81, zt_82, zt_99, zt_100, zt_120, zt_1000, zt_9999, zt_10000] at *; omega⟩ ⟨(hm (by assumption)).2, by clear hst hm; simp only [zs_01, zs_cl, Int32.lt_iff_toInt_lt, Int32.le_iff_toInt_le, ← Int32.toInt_inj, zt_m2000000000, zt_m100, zt_m15, zt_m14, zt_m13, zt_m12, zt_m11, zt_m10, zt_m9, zt_m8, zt_m7, zt_m6, zt_m5, zt_m4, zt_m3, zt_m2, zt_m1, zt_0, zt_1, zt_2, zt_3, zt_4, zt_5, zt_6, zt_7, zt_8, zt_9, zt_10, zt_11, zt_12, zt_13, zt_14, zt_15, zt_16, zt_17, zt_18, zt_19, zt_20, zt_21, zt_22, zt_23, zt_24, zt_25, zt_26, zt_27, zt_28, zt_29, zt_30, zt_31, zt_32, zt_33, zt_34, zt_35, zt_36, zt_37, zt_38, zt_39, zt_40, zt_41, zt_42, zt_43, zt_44, zt_45, zt_46, zt_47, zt_48, zt_49, zt_50, zt_51, zt_52, zt_53, zt_54, zt_55, zt_56, zt_57, zt_58, zt_59, zt_60, zt_61, zt_62, zt_63, zt_64, zt_65, zt_66, zt_67, zt_68, zt_69, zt_81, zt_82, zt_99, zt_100, zt_120, zt_1000, zt_9999, zt_10000] at *; omega⟩]; with_reducible refine zk_bite (fun hxy => ?_) (fun hxy => ?_))
    | (simp only [Option.bind_some, Option.bind_none, ↓reduceIte, reduceIte, eq_self, Bool.false_eq_true, or_true, true_or, or_false, false_or, or_self, and_true, true_and, and_false, false_and, not_true_eq_false, not_false_eq_true, hfb])
    | (exfalso; simp only [zs_01, zs_cl, Int32.lt_iff_toInt_lt, Int32.le_iff_toInt_le, ← Int32.toInt_inj, zt_m2000000000, zt_m100, zt_m15, zt_m14, zt_m13, zt_m12, zt_m11, zt_m10, zt_m9, zt_m8, zt_m7, zt_m6, zt_m5, zt_m4, zt_m3, zt_m2, zt_m1, zt_0, zt_1, zt_2, zt_3, zt_4, zt_5, zt_6, zt_7, zt_8, zt_9, zt_10, zt_11, zt_12, zt_13, zt_14, zt_15, zt_16, zt_17, zt_18, zt_19, zt_20, zt_21, zt_22, zt_23, zt_24, zt_25, zt_26, zt_27, zt_28, zt_29, zt_30, zt_31, zt_32, zt_33, zt_34, zt_35, zt_36, zt_37, zt_38, zt_39, zt_40, zt_41, zt_42, zt_43, zt_44, zt_45, zt_46, zt_47, zt_48, zt_49, zt_50, zt_51, zt_52, zt_53, zt_54, zt_55, zt_56, zt_57, zt_58, zt_59, zt_60, zt_61, zt_62, zt_63, zt_64, zt_65, zt_66, zt_67, zt_68, zt_69, zt_81, zt_82, zt_99, zt_100, zt_120, zt_1000, zt_9999, zt_10000] at *; omega)
    | (refine zk_bsE rfl ?_; try dsimp only)
    | (refine zk_kI ?_; first | rfl | decide | (simp only [f_X12_bound, B_X12_bound_0, f_X12_isPair, B_X12_isPair_0, f_X12_isDay, B_X12_isDay_0, f_X12_in, B_X12_in_0, f_X12_isLand, B_X12_isLand_0, B_X12_bound_56, zk_b2E, zk_b3E, zk_b4E, zk_b5E, zk_b6E, zk_letE]; with_reducible refine (?_ : zk_k _ _))))
set_option maxHeartbeats 4000000 in
set_option maxRecDepth 100000 in
theorem pe_claim {g pf : Nat → Option Nat} {ae : Nat → Nat} {wb : Nat} (GF : ∀ t, t < 8 → g (24 + t) = some (ae 0)) (PF : ∀ j, j < 6 → pf j = some (ae (2 + 2 * j))) (a0 : Int32) (a1 : Int32) (a2 : Int32) : ∃ R1 R2, f_X11_claim  a0 a1 a2 0 0 0 (fun _ => 0) (fun _ => 0) (fun _ => 0) (fun _ => 0) = some R1 ∧ f_X12_claim  a0 a1 a2 0 0 0 0 0 0 0 0 0 0 0 0 0 0 0 0 0 ((fun _ => 0)) ((fun _ => 0)) ((fun _ => 0)) ((fun _ => 0)) = some R2 ∧ R1.1 = R2.1 := by
  refine zk_go ?_
  clear GF PF
  simp only [f_X11_claim, B_X11_claim_0, f_X11_isPair, B_X11_isPair_0, f_X2_addClaim, B_X2_addClaim_0, zk_b2, zk_b3, zk_b4, zk_b5, zk_b6, zk_let]
  repeat' (first
    | (with_reducible refine zk_kI ?_; first | rfl | decide | (simp only [f_X12_claim, B_X12_claim_0, f_X12_isPair, B_X12_isPair_0, f_X12_in, B_X12_in_0, zk_b2, zk_b3, zk_b4, zk_b5, zk_b6, zk_let]; done) | (simp only [f_X12_claim, B_X12_claim_0, f_X12_isPair, B_X12_isPair_0, f_X12_in, B_X12_in_0, zk_b2, zk_b3, zk_b4, zk_b5, zk_b6, zk_let]; with_reducible refine (?_ : zk_k _ _)) | with_reducible refine (?_ : zk_k _ _))
    | with_reducible refine zk_iteT (by assumption) ?_
    | with_reducible refine zk_iteF (by assumption) ?_
    | with_reducible refine zk_iteN (by assumption) ?_
    | with_reducible refine zk_iteT (by decide) ?_
    | with_reducible refine zk_iteF (by decide) ?_
    | with_reducible refine zk_biteT (by assumption) ?_
    | with_reducible refine zk_biteF (by assumption) ?_
    | with_reducible refine zk_biteN (by assumption) ?_
    | with_reducible refine zk_biteT (by decide) ?_
    | with_reducible refine zk_biteF (by decide) ?_
    | (with_reducible refine zk_bs ?_; try dsimp only)
    | with_reducible refine zk_bas ?_
    | with_reducible refine zk_ite (fun _ => ?_) (fun _ => ?_)
    | with_reducible refine zk_bite (fun _ => ?_) (fun _ => ?_)
    | (simp only [Option.bind_some, Option.bind_none, ↓reduceIte, reduceIte, eq_self, Bool.false_eq_true, or_true, true_or, or_false, false_or, or_self, and_true, true_and, and_false, false_and, not_true_eq_false, not_false_eq_true])
    | (exfalso; simp only [zs_01, zs_cl, Int32.lt_iff_toInt_lt, Int32.le_iff_toInt_le, ← Int32.toInt_inj, zt_m2000000000, zt_m100, zt_m15, zt_m14, zt_m13, zt_m12, zt_m11, zt_m10, zt_m9, zt_m8, zt_m7, zt_m6, zt_m5, zt_m4, zt_m3, zt_m2, zt_m1, zt_0, zt_1, zt_2, zt_3, zt_4, zt_5, zt_6, zt_7, zt_8, zt_9, zt_10, zt_11, zt_12, zt_13, zt_14, zt_15, zt_16, zt_17, zt_18, zt_19, zt_20, zt_21, zt_22, zt_23, zt_24, zt_25, zt_26, zt_27, zt_28, zt_29, zt_30, zt_31, zt_32, zt_33, zt_34, zt_35, zt_36, zt_37, zt_38, zt_39, zt_40, zt_41, zt_42, zt_43, zt_44, zt_45, zt_46, zt_47, zt_48, zt_49, zt_50, zt_51, zt_52, zt_53, zt_54, zt_55, zt_56, zt_57, zt_58, zt_59, zt_60, zt_61, zt_62, zt_63, zt_64, zt_65, zt_66, zt_67, zt_68, zt_69, zt_81, zt_82, zt_99, zt_100, zt_120, zt_1000, zt_9999, zt_10000] at *; omega)
    | (refine zk_bsE rfl ?_; try dsimp only)
    | (refine zk_kI ?_; first | rfl | decide | (simp only [f_X12_claim, B_X12_claim_0, f_X12_isPair, B_X12_isPair_0, f_X12_in, B_X12_in_0, zk_b2, zk_b3, zk_b4, zk_b5, zk_b6, zk_let]; with_reducible refine (?_ : zk_k _ _))))
set_option maxHeartbeats 4000000 in
set_option maxRecDepth 100000 in
theorem pe_ofClaim {g pf : Nat → Option Nat} {ae : Nat → Nat} {wb : Nat} (GF : ∀ t, t < 8 → g (24 + t) = some (ae 0)) (PF : ∀ j, j < 6 → pf j = some (ae (2 + 2 * j))) (a0 : Int32) (a1 : Int32) : ∃ R1 R2, f_X11_ofClaim  a0 a1 0 0 0 (fun _ => 0) (fun _ => 0) (fun _ => 0) (fun _ => 0) = some R1 ∧ f_X12_ofClaim  a0 a1 0 0 0 0 0 0 0 0 0 0 0 0 0 0 0 0 0 ((fun _ => 0)) ((fun _ => 0)) ((fun _ => 0)) ((fun _ => 0)) = some R2 ∧ R1.1 = R2.1 := by
  refine zk_go ?_
  clear GF PF
  simp only [f_X11_ofClaim, B_X11_ofClaim_0, f_X11_isClaim, B_X11_isClaim_0, zk_b2, zk_b3, zk_b4, zk_b5, zk_b6, zk_let]
  repeat' (first
    | (with_reducible refine zk_kI ?_; first | rfl | decide | (simp only [f_X12_ofClaim, B_X12_ofClaim_0, f_X12_isClaim, B_X12_isClaim_0, f_X12_in, B_X12_in_0, zk_b2, zk_b3, zk_b4, zk_b5, zk_b6, zk_let]; done) | (simp only [f_X12_ofClaim, B_X12_ofClaim_0, f_X12_isClaim, B_X12_isClaim_0, f_X12_in, B_X12_in_0, zk_b2, zk_b3, zk_b4, zk_b5, zk_b6, zk_let]; with_reducible refine (?_ : zk_k _ _)) | with_reducible refine (?_ : zk_k _ _))
    | with_reducible refine zk_iteT (by assumption) ?_
    | with_reducible refine zk_iteF (by assumption) ?_
    | with_reducible refine zk_iteN (by assumption) ?_
    | with_reducible refine zk_iteT (by decide) ?_
    | with_reducible refine zk_iteF (by decide) ?_
    | with_reducible refine zk_biteT (by assumption) ?_
    | with_reducible refine zk_biteF (by assumption) ?_
    | with_reducible refine zk_biteN (by assumption) ?_
    | with_reducible refine zk_biteT (by decide) ?_
    | with_reducible refine zk_biteF (by decide) ?_
    | (with_reducible refine zk_bs ?_; try dsimp only)
    | with_reducible refine zk_bas ?_
    | with_reducible refine zk_ite (fun _ => ?_) (fun _ => ?_)
    | with_reducible refine zk_bite (fun _ => ?_) (fun _ => ?_)
    | (simp only [Option.bind_some, Option.bind_none, ↓reduceIte, reduceIte, eq_self, Bool.false_eq_true, or_true, true_or, or_false, false_or, or_self, and_true, true_and, and_false, false_and, not_true_eq_false, not_false_eq_true])
    | (exfalso; simp only [zs_01, zs_cl, Int32.lt_iff_toInt_lt, Int32.le_iff_toInt_le, ← Int32.toInt_inj, zt_m2000000000, zt_m100, zt_m15, zt_m14, zt_m13, zt_m12, zt_m11, zt_m10, zt_m9, zt_m8, zt_m7, zt_m6, zt_m5, zt_m4, zt_m3, zt_m2, zt_m1, zt_0, zt_1, zt_2, zt_3, zt_4, zt_5, zt_6, zt_7, zt_8, zt_9, zt_10, zt_11, zt_12, zt_13, zt_14, zt_15, zt_16, zt_17, zt_18, zt_19, zt_20, zt_21, zt_22, zt_23, zt_24, zt_25, zt_26, zt_27, zt_28, zt_29, zt_30, zt_31, zt_32, zt_33, zt_34, zt_35, zt_36, zt_37, zt_38, zt_39, zt_40, zt_41, zt_42, zt_43, zt_44, zt_45, zt_46, zt_47, zt_48, zt_49, zt_50, zt_51, zt_52, zt_53, zt_54, zt_55, zt_56, zt_57, zt_58, zt_59, zt_60, zt_61, zt_62, zt_63, zt_64, zt_65, zt_66, zt_67, zt_68, zt_69, zt_81, zt_82, zt_99, zt_100, zt_120, zt_1000, zt_9999, zt_10000] at *; omega)
    | (refine zk_bsE rfl ?_; try dsimp only)
    | (refine zk_kI ?_; first | rfl | decide | (simp only [f_X12_ofClaim, B_X12_ofClaim_0, f_X12_isClaim, B_X12_isClaim_0, f_X12_in, B_X12_in_0, zk_b2, zk_b3, zk_b4, zk_b5, zk_b6, zk_let]; with_reducible refine (?_ : zk_k _ _))))
set_option maxHeartbeats 4000000 in
set_option maxRecDepth 100000 in
theorem pe_feed {g pf : Nat → Option Nat} {ae : Nat → Nat} {wb : Nat} (GF : ∀ t, t < 8 → g (24 + t) = some (ae 0)) (PF : ∀ j, j < 6 → pf j = some (ae (2 + 2 * j))) (a0 : Int32) (a1 : Int32) : ∃ R1 R2, f_X11_feed  4000 a0 a1 0 zw_3.2 = some R1 ∧ f_X12_feed  4000 a0 a1 0 0 0 0 0 0 0 0 0 0 0 0 0 0 0 0 0 ((fun _ => 0)) = some R2 ∧ R1.1 = R2.1 := by
  rcases zk_c14 a0 with rfl | rfl | rfl | rfl | h14
  · exact ⟨_, _, rfl, rfl, rfl⟩
  · exact ⟨_, _, rfl, rfl, rfl⟩
  · exact ⟨_, _, rfl, rfl, rfl⟩
  · exact ⟨_, _, rfl, rfl, rfl⟩
  refine zk_go ?_
  clear GF PF
  simp only [f_X11_feed, B_X11_feed_0, B_X11_feed_31, zk_b2, zk_b3, zk_b4, zk_b5, zk_b6, zk_let]
  repeat' (first
    | (with_reducible refine zk_kI ?_; first | rfl | decide | (simp only [f_X12_feed, B_X12_feed_0, f_X12_in, B_X12_in_0, B_X12_feed_27, zk_b2, zk_b3, zk_b4, zk_b5, zk_b6, zk_let]; done) | (simp only [f_X12_feed, B_X12_feed_0, f_X12_in, B_X12_in_0, B_X12_feed_27, zk_b2, zk_b3, zk_b4, zk_b5, zk_b6, zk_let]; with_reducible refine (?_ : zk_k _ _)) | with_reducible refine (?_ : zk_k _ _))
    | with_reducible refine zk_iteT (by assumption) ?_
    | with_reducible refine zk_iteF (by assumption) ?_
    | with_reducible refine zk_iteN (by assumption) ?_
    | with_reducible refine zk_iteT (by decide) ?_
    | with_reducible refine zk_iteF (by decide) ?_
    | with_reducible refine zk_biteT (by assumption) ?_
    | with_reducible refine zk_biteF (by assumption) ?_
    | with_reducible refine zk_biteN (by assumption) ?_
    | with_reducible refine zk_biteT (by decide) ?_
    | with_reducible refine zk_biteF (by decide) ?_
    | (with_reducible refine zk_bs ?_; try dsimp only)
    | with_reducible refine zk_bas ?_
    | with_reducible refine zk_ite (fun _ => ?_) (fun _ => ?_)
    | with_reducible refine zk_bite (fun _ => ?_) (fun _ => ?_)
    | (simp only [Option.bind_some, Option.bind_none, ↓reduceIte, reduceIte, eq_self, Bool.false_eq_true, or_true, true_or, or_false, false_or, or_self, and_true, true_and, and_false, false_and, not_true_eq_false, not_false_eq_true])
    | (exfalso; simp only [zs_01, zs_cl, Int32.lt_iff_toInt_lt, Int32.le_iff_toInt_le, ← Int32.toInt_inj, zt_m2000000000, zt_m100, zt_m15, zt_m14, zt_m13, zt_m12, zt_m11, zt_m10, zt_m9, zt_m8, zt_m7, zt_m6, zt_m5, zt_m4, zt_m3, zt_m2, zt_m1, zt_0, zt_1, zt_2, zt_3, zt_4, zt_5, zt_6, zt_7, zt_8, zt_9, zt_10, zt_11, zt_12, zt_13, zt_14, zt_15, zt_16, zt_17, zt_18, zt_19, zt_20, zt_21, zt_22, zt_23, zt_24, zt_25, zt_26, zt_27, zt_28, zt_29, zt_30, zt_31, zt_32, zt_33, zt_34, zt_35, zt_36, zt_37, zt_38, zt_39, zt_40, zt_41, zt_42, zt_43, zt_44, zt_45, zt_46, zt_47, zt_48, zt_49, zt_50, zt_51, zt_52, zt_53, zt_54, zt_55, zt_56, zt_57, zt_58, zt_59, zt_60, zt_61, zt_62, zt_63, zt_64, zt_65, zt_66, zt_67, zt_68, zt_69, zt_81, zt_82, zt_99, zt_100, zt_120, zt_1000, zt_9999, zt_10000] at *; omega)
    | (refine zk_bsE rfl ?_; try dsimp only)
    | (refine zk_kI ?_; first | rfl | decide | (simp only [f_X12_feed, B_X12_feed_0, f_X12_in, B_X12_in_0, B_X12_feed_27, zk_b2, zk_b3, zk_b4, zk_b5, zk_b6, zk_let]; with_reducible refine (?_ : zk_k _ _))))
set_option maxHeartbeats 4000000 in
set_option maxRecDepth 100000 in
theorem pe_suit {g pf : Nat → Option Nat} {ae : Nat → Nat} {wb : Nat} (GF : ∀ t, t < 8 → g (24 + t) = some (ae 0)) (PF : ∀ j, j < 6 → pf j = some (ae (2 + 2 * j)))  : ∃ R1 R2, f_X11_suitB    = some R1 ∧ f_X12_suit  4000  0 0 0 0 0 0 0 0 0 0 0 0 0 0 0 0 0 ((fun _ => 0)) ((fun _ => 0)) ((fun _ => 0)) ((fun _ => 0)) ((fun _ => 0)) ((fun _ => 0)) ((fun _ => 0)) ((fun _ => 0)) ((fun _ => 0)) ((fun _ => 0)) ((fun _ => 0)) ((fun _ => 0)) = some R2 ∧ R1.1 = R2.1 := by
  exact ⟨_, _, rfl, rfl, rfl⟩
set_option maxHeartbeats 4000000 in
set_option maxRecDepth 100000 in
theorem pe_ofSuit {g pf : Nat → Option Nat} {ae : Nat → Nat} {wb : Nat} (GF : ∀ t, t < 8 → g (24 + t) = some (ae 0)) (PF : ∀ j, j < 6 → pf j = some (ae (2 + 2 * j))) (a0 : Int32) (a1 : Int32) : ∃ R1 R2, f_X11_ofSuit  a0 a1 0 0 0 = some R1 ∧ f_X12_ofSuit  4000 a0 a1 0 0 0 0 0 0 0 0 0 0 0 0 0 0 0 0 0 ((fun _ => 0)) ((fun _ => 0)) ((fun _ => 0)) ((fun _ => 0)) ((fun _ => 0)) ((fun _ => 0)) ((fun _ => 0)) ((fun _ => 0)) ((fun _ => 0)) ((fun _ => 0)) = some R2 ∧ R1.1 = R2.1 := by
  refine zk_go ?_
  clear GF PF
  simp only [f_X11_ofSuit, B_X11_ofSuit_0, f_X2_suitAt, B_X2_suitAt_0, zk_b2, zk_b3, zk_b4, zk_b5, zk_b6, zk_let]
  repeat' (first
    | (with_reducible refine zk_kI ?_; first | rfl | decide | (simp only [f_X12_ofSuit, B_X12_ofSuit_0, f_X12_isSuit, B_X12_isSuit_0, f_X12_in, B_X12_in_0, B_X12_ofSuit_77, B_X12_ofSuit_105, zk_b2, zk_b3, zk_b4, zk_b5, zk_b6, zk_let]; done) | (simp only [f_X12_ofSuit, B_X12_ofSuit_0, f_X12_isSuit, B_X12_isSuit_0, f_X12_in, B_X12_in_0, B_X12_ofSuit_77, B_X12_ofSuit_105, zk_b2, zk_b3, zk_b4, zk_b5, zk_b6, zk_let]; with_reducible refine (?_ : zk_k _ _)) | with_reducible refine (?_ : zk_k _ _))
    | with_reducible refine zk_iteT (by assumption) ?_
    | with_reducible refine zk_iteF (by assumption) ?_
    | with_reducible refine zk_iteN (by assumption) ?_
    | with_reducible refine zk_iteT (by decide) ?_
    | with_reducible refine zk_iteF (by decide) ?_
    | with_reducible refine zk_biteT (by assumption) ?_
    | with_reducible refine zk_biteF (by assumption) ?_
    | with_reducible refine zk_biteN (by assumption) ?_
    | with_reducible refine zk_biteT (by decide) ?_
    | with_reducible refine zk_biteF (by decide) ?_
    | (with_reducible refine zk_bs ?_; try dsimp only)
    | with_reducible refine zk_bas ?_
    | with_reducible refine zk_ite (fun _ => ?_) (fun _ => ?_)
    | with_reducible refine zk_bite (fun _ => ?_) (fun _ => ?_)
    | (simp only [Option.bind_some, Option.bind_none, ↓reduceIte, reduceIte, eq_self, Bool.false_eq_true, or_true, true_or, or_false, false_or, or_self, and_true, true_and, and_false, false_and, not_true_eq_false, not_false_eq_true])
    | (exfalso; simp only [zs_01, zs_cl, Int32.lt_iff_toInt_lt, Int32.le_iff_toInt_le, ← Int32.toInt_inj, zt_m2000000000, zt_m100, zt_m15, zt_m14, zt_m13, zt_m12, zt_m11, zt_m10, zt_m9, zt_m8, zt_m7, zt_m6, zt_m5, zt_m4, zt_m3, zt_m2, zt_m1, zt_0, zt_1, zt_2, zt_3, zt_4, zt_5, zt_6, zt_7, zt_8, zt_9, zt_10, zt_11, zt_12, zt_13, zt_14, zt_15, zt_16, zt_17, zt_18, zt_19, zt_20, zt_21, zt_22, zt_23, zt_24, zt_25, zt_26, zt_27, zt_28, zt_29, zt_30, zt_31, zt_32, zt_33, zt_34, zt_35, zt_36, zt_37, zt_38, zt_39, zt_40, zt_41, zt_42, zt_43, zt_44, zt_45, zt_46, zt_47, zt_48, zt_49, zt_50, zt_51, zt_52, zt_53, zt_54, zt_55, zt_56, zt_57, zt_58, zt_59, zt_60, zt_61, zt_62, zt_63, zt_64, zt_65, zt_66, zt_67, zt_68, zt_69, zt_81, zt_82, zt_99, zt_100, zt_120, zt_1000, zt_9999, zt_10000] at *; omega)
    | (refine zk_bsE rfl ?_; try dsimp only)
    | (refine zk_kI ?_; first | rfl | decide | (simp only [f_X12_ofSuit, B_X12_ofSuit_0, f_X12_isSuit, B_X12_isSuit_0, f_X12_in, B_X12_in_0, B_X12_ofSuit_77, B_X12_ofSuit_105, zk_b2, zk_b3, zk_b4, zk_b5, zk_b6, zk_let]; with_reducible refine (?_ : zk_k _ _))))
set_option maxHeartbeats 4000000 in
set_option maxRecDepth 100000 in
theorem pe_won {g pf : Nat → Option Nat} {ae : Nat → Nat} {wb : Nat} (GF : ∀ t, t < 8 → g (24 + t) = some (ae 0)) (PF : ∀ j, j < 6 → pf j = some (ae (2 + 2 * j))) (a0 : Int32) (a1 : Int32) : ∃ R1 R2, f_X11_won  a0 a1 0 0 0 = some R1 ∧ f_X12_won  a0 a1 0 0 0 0 0 0 0 0 0 0 0 0 0 0 0 0 0 ((fun _ => 0)) ((fun _ => 0)) ((fun _ => 0)) ((fun _ => 0)) ((fun _ => 0)) ((fun _ => 0)) ((fun _ => 0)) = some R2 ∧ R1.1 = R2.1 := by
  refine zk_go ?_
  clear GF PF
  simp only [f_X11_won, B_X11_won_0, f_X2_suitAt, B_X2_suitAt_0, zk_b2, zk_b3, zk_b4, zk_b5, zk_b6, zk_let]
  repeat' (first
    | (with_reducible refine zk_kI ?_; first | rfl | decide | (simp only [f_X12_won, B_X12_won_0, f_X12_isSuit, B_X12_isSuit_0, f_X12_in, B_X12_in_0, zk_b2, zk_b3, zk_b4, zk_b5, zk_b6, zk_let]; done) | (simp only [f_X12_won, B_X12_won_0, f_X12_isSuit, B_X12_isSuit_0, f_X12_in, B_X12_in_0, zk_b2, zk_b3, zk_b4, zk_b5, zk_b6, zk_let]; with_reducible refine (?_ : zk_k _ _)) | with_reducible refine (?_ : zk_k _ _))
    | with_reducible refine zk_iteT (by assumption) ?_
    | with_reducible refine zk_iteF (by assumption) ?_
    | with_reducible refine zk_iteN (by assumption) ?_
    | with_reducible refine zk_iteT (by decide) ?_
    | with_reducible refine zk_iteF (by decide) ?_
    | with_reducible refine zk_biteT (by assumption) ?_
    | with_reducible refine zk_biteF (by assumption) ?_
    | with_reducible refine zk_biteN (by assumption) ?_
    | with_reducible refine zk_biteT (by decide) ?_
    | with_reducible refine zk_biteF (by decide) ?_
    | (with_reducible refine zk_bs ?_; try dsimp only)
    | with_reducible refine zk_bas ?_
    | with_reducible refine zk_ite (fun _ => ?_) (fun _ => ?_)
    | with_reducible refine zk_bite (fun _ => ?_) (fun _ => ?_)
    | (simp only [Option.bind_some, Option.bind_none, ↓reduceIte, reduceIte, eq_self, Bool.false_eq_true, or_true, true_or, or_false, false_or, or_self, and_true, true_and, and_false, false_and, not_true_eq_false, not_false_eq_true])
    | (exfalso; simp only [zs_01, zs_cl, Int32.lt_iff_toInt_lt, Int32.le_iff_toInt_le, ← Int32.toInt_inj, zt_m2000000000, zt_m100, zt_m15, zt_m14, zt_m13, zt_m12, zt_m11, zt_m10, zt_m9, zt_m8, zt_m7, zt_m6, zt_m5, zt_m4, zt_m3, zt_m2, zt_m1, zt_0, zt_1, zt_2, zt_3, zt_4, zt_5, zt_6, zt_7, zt_8, zt_9, zt_10, zt_11, zt_12, zt_13, zt_14, zt_15, zt_16, zt_17, zt_18, zt_19, zt_20, zt_21, zt_22, zt_23, zt_24, zt_25, zt_26, zt_27, zt_28, zt_29, zt_30, zt_31, zt_32, zt_33, zt_34, zt_35, zt_36, zt_37, zt_38, zt_39, zt_40, zt_41, zt_42, zt_43, zt_44, zt_45, zt_46, zt_47, zt_48, zt_49, zt_50, zt_51, zt_52, zt_53, zt_54, zt_55, zt_56, zt_57, zt_58, zt_59, zt_60, zt_61, zt_62, zt_63, zt_64, zt_65, zt_66, zt_67, zt_68, zt_69, zt_81, zt_82, zt_99, zt_100, zt_120, zt_1000, zt_9999, zt_10000] at *; omega)
    | (refine zk_bsE rfl ?_; try dsimp only)
    | (refine zk_kI ?_; first | rfl | decide | (simp only [f_X12_won, B_X12_won_0, f_X12_isSuit, B_X12_isSuit_0, f_X12_in, B_X12_in_0, zk_b2, zk_b3, zk_b4, zk_b5, zk_b6, zk_let]; with_reducible refine (?_ : zk_k _ _))))
set_option maxHeartbeats 4000000 in
set_option maxRecDepth 100000 in
theorem pe_undone {g pf : Nat → Option Nat} {ae : Nat → Nat} {wb : Nat} (GF : ∀ t, t < 8 → g (24 + t) = some (ae 0)) (PF : ∀ j, j < 6 → pf j = some (ae (2 + 2 * j))) (a0 : Int32) (a1 : Int32) : ∃ R1 R2, f_X11_undone  a0 a1 0 0 0 = some R1 ∧ f_X12_undone  a0 a1 0 0 0 0 0 0 0 0 0 0 0 0 0 0 0 0 0 ((fun _ => 0)) ((fun _ => 0)) ((fun _ => 0)) ((fun _ => 0)) ((fun _ => 0)) ((fun _ => 0)) ((fun _ => 0)) ((fun _ => 0)) = some R2 ∧ R1.1 = R2.1 := by
  refine zk_go ?_
  clear GF PF
  simp only [f_X11_undone, B_X11_undone_0, f_X2_suitAt, B_X2_suitAt_0, zk_b2, zk_b3, zk_b4, zk_b5, zk_b6, zk_let]
  repeat' (first
    | (with_reducible refine zk_kI ?_; first | rfl | decide | (simp only [f_X12_undone, B_X12_undone_0, f_X12_isSuit, B_X12_isSuit_0, f_X12_in, B_X12_in_0, zk_b2, zk_b3, zk_b4, zk_b5, zk_b6, zk_let]; done) | (simp only [f_X12_undone, B_X12_undone_0, f_X12_isSuit, B_X12_isSuit_0, f_X12_in, B_X12_in_0, zk_b2, zk_b3, zk_b4, zk_b5, zk_b6, zk_let]; with_reducible refine (?_ : zk_k _ _)) | with_reducible refine (?_ : zk_k _ _))
    | with_reducible refine zk_iteT (by assumption) ?_
    | with_reducible refine zk_iteF (by assumption) ?_
    | with_reducible refine zk_iteN (by assumption) ?_
    | with_reducible refine zk_iteT (by decide) ?_
    | with_reducible refine zk_iteF (by decide) ?_
    | with_reducible refine zk_biteT (by assumption) ?_
    | with_reducible refine zk_biteF (by assumption) ?_
    | with_reducible refine zk_biteN (by assumption) ?_
    | with_reducible refine zk_biteT (by decide) ?_
    | with_reducible refine zk_biteF (by decide) ?_
    | (with_reducible refine zk_bs ?_; try dsimp only)
    | with_reducible refine zk_bas ?_
    | with_reducible refine zk_ite (fun _ => ?_) (fun _ => ?_)
    | with_reducible refine zk_bite (fun _ => ?_) (fun _ => ?_)
    | (simp only [Option.bind_some, Option.bind_none, ↓reduceIte, reduceIte, eq_self, Bool.false_eq_true, or_true, true_or, or_false, false_or, or_self, and_true, true_and, and_false, false_and, not_true_eq_false, not_false_eq_true])
    | (exfalso; simp only [zs_01, zs_cl, Int32.lt_iff_toInt_lt, Int32.le_iff_toInt_le, ← Int32.toInt_inj, zt_m2000000000, zt_m100, zt_m15, zt_m14, zt_m13, zt_m12, zt_m11, zt_m10, zt_m9, zt_m8, zt_m7, zt_m6, zt_m5, zt_m4, zt_m3, zt_m2, zt_m1, zt_0, zt_1, zt_2, zt_3, zt_4, zt_5, zt_6, zt_7, zt_8, zt_9, zt_10, zt_11, zt_12, zt_13, zt_14, zt_15, zt_16, zt_17, zt_18, zt_19, zt_20, zt_21, zt_22, zt_23, zt_24, zt_25, zt_26, zt_27, zt_28, zt_29, zt_30, zt_31, zt_32, zt_33, zt_34, zt_35, zt_36, zt_37, zt_38, zt_39, zt_40, zt_41, zt_42, zt_43, zt_44, zt_45, zt_46, zt_47, zt_48, zt_49, zt_50, zt_51, zt_52, zt_53, zt_54, zt_55, zt_56, zt_57, zt_58, zt_59, zt_60, zt_61, zt_62, zt_63, zt_64, zt_65, zt_66, zt_67, zt_68, zt_69, zt_81, zt_82, zt_99, zt_100, zt_120, zt_1000, zt_9999, zt_10000] at *; omega)
    | (refine zk_bsE rfl ?_; try dsimp only)
    | (refine zk_kI ?_; first | rfl | decide | (simp only [f_X12_undone, B_X12_undone_0, f_X12_isSuit, B_X12_isSuit_0, f_X12_in, B_X12_in_0, zk_b2, zk_b3, zk_b4, zk_b5, zk_b6, zk_let]; with_reducible refine (?_ : zk_k _ _))))
set_option maxHeartbeats 4000000 in
set_option maxRecDepth 100000 in
theorem pe_law {g pf : Nat → Option Nat} {ae : Nat → Nat} {wb : Nat} (GF : ∀ t, t < 8 → g (24 + t) = some (ae 0)) (PF : ∀ j, j < 6 → pf j = some (ae (2 + 2 * j))) (a0 : Int32) : ∃ R1 R2, f_X11_law  a0 0 0 0 0 zw_3.2 zr_3.2.1 zr_3.2.2.1 zr_3.2.2.2.1 zr_3.2.2.2.2 = some R1 ∧ f_X12_law  4000 a0 0 0 0 0 0 0 0 0 0 0 0 0 0 0 0 0 0 ((fun _ => 0)) ((fun _ => 0)) ((fun _ => 0)) ((fun _ => 0)) ((fun _ => 0)) ((fun _ => 0)) = some R2 ∧ R1.1 = R2.1 := by
  have hm10 := zs_m10 a0
  refine zk_go ?_
  clear GF PF
  simp only [f_X11_law, B_X11_law_0, zk_b2E, zk_b3E, zk_b4E, zk_b5E, zk_b6E, zk_letE]
  repeat' (first
    | (with_reducible refine zk_kI ?_; first | rfl | decide | (simp only [f_X12_law, B_X12_law_0, f_X12_isLand, B_X12_isLand_0, f_X12_in, B_X12_in_0, B_X12_law_56, B_X12_law_89, B_X12_law_111, B_X12_law_146, B_X12_law_219, zk_b2E, zk_b3E, zk_b4E, zk_b5E, zk_b6E, zk_letE]; done) | (simp only [f_X12_law, B_X12_law_0, f_X12_isLand, B_X12_isLand_0, f_X12_in, B_X12_in_0, B_X12_law_56, B_X12_law_89, B_X12_law_111, B_X12_law_146, B_X12_law_219, zk_b2E, zk_b3E, zk_b4E, zk_b5E, zk_b6E, zk_letE]; with_reducible refine (?_ : zk_k _ _)) | with_reducible refine (?_ : zk_k _ _))
    | with_reducible refine zk_iteT (by assumption) ?_
    | with_reducible refine zk_iteF (by assumption) ?_
    | with_reducible refine zk_iteN (by assumption) ?_
    | with_reducible refine zk_iteT (by decide) ?_
    | with_reducible refine zk_iteF (by decide) ?_
    | with_reducible refine zk_biteT (by assumption) ?_
    | with_reducible refine zk_biteF (by assumption) ?_
    | with_reducible refine zk_biteN (by assumption) ?_
    | with_reducible refine zk_biteT (by decide) ?_
    | with_reducible refine zk_biteF (by decide) ?_
    | (with_reducible refine zk_bs ?_; try dsimp only)
    | with_reducible refine zk_bas ?_
    | with_reducible refine zk_ite (fun _ => ?_) (fun _ => ?_)
    | with_reducible refine zk_bite (fun _ => ?_) (fun _ => ?_)
    | (simp only [Option.bind_some, Option.bind_none, ↓reduceIte, reduceIte, eq_self, Bool.false_eq_true, or_true, true_or, or_false, false_or, or_self, and_true, true_and, and_false, false_and, not_true_eq_false, not_false_eq_true])
    | (exfalso; simp only [zs_01, zs_cl, Int32.lt_iff_toInt_lt, Int32.le_iff_toInt_le, ← Int32.toInt_inj, zt_m2000000000, zt_m100, zt_m15, zt_m14, zt_m13, zt_m12, zt_m11, zt_m10, zt_m9, zt_m8, zt_m7, zt_m6, zt_m5, zt_m4, zt_m3, zt_m2, zt_m1, zt_0, zt_1, zt_2, zt_3, zt_4, zt_5, zt_6, zt_7, zt_8, zt_9, zt_10, zt_11, zt_12, zt_13, zt_14, zt_15, zt_16, zt_17, zt_18, zt_19, zt_20, zt_21, zt_22, zt_23, zt_24, zt_25, zt_26, zt_27, zt_28, zt_29, zt_30, zt_31, zt_32, zt_33, zt_34, zt_35, zt_36, zt_37, zt_38, zt_39, zt_40, zt_41, zt_42, zt_43, zt_44, zt_45, zt_46, zt_47, zt_48, zt_49, zt_50, zt_51, zt_52, zt_53, zt_54, zt_55, zt_56, zt_57, zt_58, zt_59, zt_60, zt_61, zt_62, zt_63, zt_64, zt_65, zt_66, zt_67, zt_68, zt_69, zt_81, zt_82, zt_99, zt_100, zt_120, zt_1000, zt_9999, zt_10000] at *; omega)
    | (refine zk_kI ?_; first | rfl | decide | (simp only [f_X12_law, B_X12_law_0, f_X12_isLand, B_X12_isLand_0, f_X12_in, B_X12_in_0, B_X12_law_56, B_X12_law_89, B_X12_law_111, B_X12_law_146, B_X12_law_219, zk_b2E, zk_b3E, zk_b4E, zk_b5E, zk_b6E, zk_letE]; with_reducible refine (?_ : zk_k _ _))))
set_option maxHeartbeats 4000000 in
set_option maxRecDepth 100000 in
theorem pe_counts {g pf : Nat → Option Nat} {ae : Nat → Nat} {wb : Nat} (GF : ∀ t, t < 8 → g (24 + t) = some (ae 0)) (PF : ∀ j, j < 6 → pf j = some (ae (2 + 2 * j))) (a0 : Int32) (a1 : Int32) (a2 : Int32) : ∃ R1 R2, f_X11_counts  a0 a1 a2 0 0 0 0 0 0 (fun _ => 0) (fun _ => 0) = some R1 ∧ f_X12_counts  a0 a1 a2 0 0 0 0 0 0 0 0 0 0 0 0 0 0 0 0 0 ((fun _ => 0)) ((fun _ => 0)) ((fun _ => 0)) ((fun _ => 0)) ((fun _ => 0)) ((fun _ => 0)) ((fun _ => 0)) ((fun _ => 0)) ((fun _ => 0)) ((fun _ => 0)) ((fun _ => 0)) ((fun _ => 0)) = some R2 ∧ R1.1 = R2.1 := by
  refine zk_go ?_
  clear GF PF
  simp only [f_X11_counts, B_X11_counts_0, f_X2_suitAt, B_X2_suitAt_0, zk_b2, zk_b3, zk_b4, zk_b5, zk_b6, zk_let]
  repeat' (first
    | (with_reducible refine zk_kI ?_; first | rfl | decide | (simp only [f_X12_counts, B_X12_counts_0, f_X12_isSuit, B_X12_isSuit_0, f_X12_in, B_X12_in_0, f_X12_isDay, B_X12_isDay_0, f_X12_isLand, B_X12_isLand_0, zk_b2, zk_b3, zk_b4, zk_b5, zk_b6, zk_let]; done) | (simp only [f_X12_counts, B_X12_counts_0, f_X12_isSuit, B_X12_isSuit_0, f_X12_in, B_X12_in_0, f_X12_isDay, B_X12_isDay_0, f_X12_isLand, B_X12_isLand_0, zk_b2, zk_b3, zk_b4, zk_b5, zk_b6, zk_let]; with_reducible refine (?_ : zk_k _ _)) | with_reducible refine (?_ : zk_k _ _))
    | with_reducible refine zk_iteT (by assumption) ?_
    | with_reducible refine zk_iteF (by assumption) ?_
    | with_reducible refine zk_iteN (by assumption) ?_
    | with_reducible refine zk_iteT (by decide) ?_
    | with_reducible refine zk_iteF (by decide) ?_
    | with_reducible refine zk_biteT (by assumption) ?_
    | with_reducible refine zk_biteF (by assumption) ?_
    | with_reducible refine zk_biteN (by assumption) ?_
    | with_reducible refine zk_biteT (by decide) ?_
    | with_reducible refine zk_biteF (by decide) ?_
    | (with_reducible refine zk_bs ?_; try dsimp only)
    | with_reducible refine zk_bas ?_
    | with_reducible refine zk_ite (fun _ => ?_) (fun _ => ?_)
    | with_reducible refine zk_bite (fun _ => ?_) (fun _ => ?_)
    | (simp only [Option.bind_some, Option.bind_none, ↓reduceIte, reduceIte, eq_self, Bool.false_eq_true, or_true, true_or, or_false, false_or, or_self, and_true, true_and, and_false, false_and, not_true_eq_false, not_false_eq_true])
    | (exfalso; simp only [zs_01, zs_cl, Int32.lt_iff_toInt_lt, Int32.le_iff_toInt_le, ← Int32.toInt_inj, zt_m2000000000, zt_m100, zt_m15, zt_m14, zt_m13, zt_m12, zt_m11, zt_m10, zt_m9, zt_m8, zt_m7, zt_m6, zt_m5, zt_m4, zt_m3, zt_m2, zt_m1, zt_0, zt_1, zt_2, zt_3, zt_4, zt_5, zt_6, zt_7, zt_8, zt_9, zt_10, zt_11, zt_12, zt_13, zt_14, zt_15, zt_16, zt_17, zt_18, zt_19, zt_20, zt_21, zt_22, zt_23, zt_24, zt_25, zt_26, zt_27, zt_28, zt_29, zt_30, zt_31, zt_32, zt_33, zt_34, zt_35, zt_36, zt_37, zt_38, zt_39, zt_40, zt_41, zt_42, zt_43, zt_44, zt_45, zt_46, zt_47, zt_48, zt_49, zt_50, zt_51, zt_52, zt_53, zt_54, zt_55, zt_56, zt_57, zt_58, zt_59, zt_60, zt_61, zt_62, zt_63, zt_64, zt_65, zt_66, zt_67, zt_68, zt_69, zt_81, zt_82, zt_99, zt_100, zt_120, zt_1000, zt_9999, zt_10000] at *; omega)
    | (refine zk_bsE rfl ?_; try dsimp only)
    | (refine zk_kI ?_; first | rfl | decide | (simp only [f_X12_counts, B_X12_counts_0, f_X12_isSuit, B_X12_isSuit_0, f_X12_in, B_X12_in_0, f_X12_isDay, B_X12_isDay_0, f_X12_isLand, B_X12_isLand_0, zk_b2, zk_b3, zk_b4, zk_b5, zk_b6, zk_let]; with_reducible refine (?_ : zk_k _ _))))
set_option maxHeartbeats 4000000 in
set_option maxRecDepth 100000 in
theorem pe_met {g pf : Nat → Option Nat} {ae : Nat → Nat} {wb : Nat} (GF : ∀ t, t < 8 → g (24 + t) = some (ae 0)) (PF : ∀ j, j < 6 → pf j = some (ae (2 + 2 * j))) (a0 : Int32) (a1 : Int32) (a2 : Int32) : ∃ R1 R2, f_X11_met  a0 a1 a2 0 0 0 (fun _ => 0) (fun _ => 0) 0 0 0 (fun _ => 0) (fun _ => 0) (fun _ => 0) (fun _ => 0) (fun _ => 0) = some R1 ∧ f_X12_met  a0 a1 a2 0 0 0 0 0 0 0 0 0 0 0 0 0 0 0 0 0 ((fun _ => 0)) ((fun _ => 0)) ((fun _ => 0)) ((fun _ => 0)) ((fun _ => 0)) ((fun _ => 0)) ((fun _ => 0)) ((fun _ => 0)) ((fun _ => 0)) ((fun _ => 0)) ((fun _ => 0)) ((fun _ => 0)) ((fun _ => 0)) ((fun _ => 0)) ((fun _ => 0)) ((fun _ => 0)) ((fun _ => 0)) ((fun _ => 0)) ((fun _ => 0)) ((fun _ => 0)) ((fun _ => 0)) ((fun _ => 0)) ((fun _ => 0)) ((fun _ => 0)) ((fun _ => 0)) ((fun _ => 0)) ((fun _ => 0)) = some R2 ∧ R1.1 = R2.1 := by
  refine zk_go ?_
  clear GF PF
  simp only [f_X11_met, B_X11_met_0, f_X11_isClaimOf, B_X11_isClaimOf_0, f_X11_isClaim, B_X11_isClaim_0, B_X11_isClaimOf_20, f_X11_isPair, B_X11_isPair_0, f_X11_isWhen, B_X11_isWhen_0, f_X11_isDay, B_X11_isDay_0, f_X11_isLand, B_X11_isLand_0, zk_b2, zk_b3, zk_b4, zk_b5, zk_b6, zk_let]
  repeat' (first
    | (with_reducible refine zk_kI ?_; first | rfl | decide | (simp only [f_X12_met, B_X12_met_0, f_X12_isAsk, B_X12_isAsk_0, f_X12_isClaim, B_X12_isClaim_0, f_X12_in, B_X12_in_0, B_X12_isAsk_20, f_X12_isWhen, B_X12_isWhen_0, f_X12_isDay, B_X12_isDay_0, f_X12_isLand, B_X12_isLand_0, f_X12_isPair, B_X12_isPair_0, f_X12_sideBy, B_X12_sideBy_0, f_X12_sideOn, B_X12_sideOn_0, zk_b2, zk_b3, zk_b4, zk_b5, zk_b6, zk_let]; done) | (simp only [f_X12_met, B_X12_met_0, f_X12_isAsk, B_X12_isAsk_0, f_X12_isClaim, B_X12_isClaim_0, f_X12_in, B_X12_in_0, B_X12_isAsk_20, f_X12_isWhen, B_X12_isWhen_0, f_X12_isDay, B_X12_isDay_0, f_X12_isLand, B_X12_isLand_0, f_X12_isPair, B_X12_isPair_0, f_X12_sideBy, B_X12_sideBy_0, f_X12_sideOn, B_X12_sideOn_0, zk_b2, zk_b3, zk_b4, zk_b5, zk_b6, zk_let]; with_reducible refine (?_ : zk_k _ _)) | with_reducible refine (?_ : zk_k _ _))
    | with_reducible refine zk_iteT (by assumption) ?_
    | with_reducible refine zk_iteF (by assumption) ?_
    | with_reducible refine zk_iteN (by assumption) ?_
    | with_reducible refine zk_iteT (by decide) ?_
    | with_reducible refine zk_iteF (by decide) ?_
    | with_reducible refine zk_biteT (by assumption) ?_
    | with_reducible refine zk_biteF (by assumption) ?_
    | with_reducible refine zk_biteN (by assumption) ?_
    | with_reducible refine zk_biteT (by decide) ?_
    | with_reducible refine zk_biteF (by decide) ?_
    | (with_reducible refine zk_bs ?_; try dsimp only)
    | with_reducible refine zk_bas ?_
    | with_reducible refine zk_ite (fun _ => ?_) (fun _ => ?_)
    | with_reducible refine zk_bite (fun _ => ?_) (fun _ => ?_)
    | (simp only [Option.bind_some, Option.bind_none, ↓reduceIte, reduceIte, eq_self, Bool.false_eq_true, or_true, true_or, or_false, false_or, or_self, and_true, true_and, and_false, false_and, not_true_eq_false, not_false_eq_true])
    | (exfalso; simp only [zs_01, zs_cl, Int32.lt_iff_toInt_lt, Int32.le_iff_toInt_le, ← Int32.toInt_inj, zt_m2000000000, zt_m100, zt_m15, zt_m14, zt_m13, zt_m12, zt_m11, zt_m10, zt_m9, zt_m8, zt_m7, zt_m6, zt_m5, zt_m4, zt_m3, zt_m2, zt_m1, zt_0, zt_1, zt_2, zt_3, zt_4, zt_5, zt_6, zt_7, zt_8, zt_9, zt_10, zt_11, zt_12, zt_13, zt_14, zt_15, zt_16, zt_17, zt_18, zt_19, zt_20, zt_21, zt_22, zt_23, zt_24, zt_25, zt_26, zt_27, zt_28, zt_29, zt_30, zt_31, zt_32, zt_33, zt_34, zt_35, zt_36, zt_37, zt_38, zt_39, zt_40, zt_41, zt_42, zt_43, zt_44, zt_45, zt_46, zt_47, zt_48, zt_49, zt_50, zt_51, zt_52, zt_53, zt_54, zt_55, zt_56, zt_57, zt_58, zt_59, zt_60, zt_61, zt_62, zt_63, zt_64, zt_65, zt_66, zt_67, zt_68, zt_69, zt_81, zt_82, zt_99, zt_100, zt_120, zt_1000, zt_9999, zt_10000] at *; omega)
    | (refine zk_bsE rfl ?_; try dsimp only)
    | (refine zk_kI ?_; first | rfl | decide | (simp only [f_X12_met, B_X12_met_0, f_X12_isAsk, B_X12_isAsk_0, f_X12_isClaim, B_X12_isClaim_0, f_X12_in, B_X12_in_0, B_X12_isAsk_20, f_X12_isWhen, B_X12_isWhen_0, f_X12_isDay, B_X12_isDay_0, f_X12_isLand, B_X12_isLand_0, f_X12_isPair, B_X12_isPair_0, f_X12_sideBy, B_X12_sideBy_0, f_X12_sideOn, B_X12_sideOn_0, zk_b2, zk_b3, zk_b4, zk_b5, zk_b6, zk_let]; with_reducible refine (?_ : zk_k _ _))))
set_option maxHeartbeats 4000000 in
set_option maxRecDepth 100000 in
theorem pe_point {g pf : Nat → Option Nat} {ae : Nat → Nat} {wb : Nat} (GF : ∀ t, t < 8 → g (24 + t) = some (ae 0)) (PF : ∀ j, j < 6 → pf j = some (ae (2 + 2 * j))) (a0 : Int32) (a1 : Int32) (a2 : Int32) (a3 : Int32) : ∃ R1 R2, f_X11_point  a0 a1 a2 a3 0 0 0 (fun _ => 0) (fun _ => 0) 0 0 0 (fun _ => 0) (fun _ => 0) (fun _ => 0) (fun _ => 0) (fun _ => 0) = some R1 ∧ f_X12_point  a0 a1 a2 a3 0 0 0 0 0 0 0 0 0 0 0 0 0 0 0 0 0 ((fun _ => 0)) ((fun _ => 0)) ((fun _ => 0)) ((fun _ => 0)) ((fun _ => 0)) ((fun _ => 0)) ((fun _ => 0)) ((fun _ => 0)) ((fun _ => 0)) ((fun _ => 0)) ((fun _ => 0)) ((fun _ => 0)) ((fun _ => 0)) ((fun _ => 0)) ((fun _ => 0)) ((fun _ => 0)) ((fun _ => 0)) ((fun _ => 0)) ((fun _ => 0)) ((fun _ => 0)) ((fun _ => 0)) = some R2 ∧ R1.1 = R2.1 := by
  refine zk_go ?_
  clear GF PF
  simp only [f_X11_point, B_X11_point_0, f_X11_isPoint, B_X11_isPoint_0, f_X11_isPair, B_X11_isPair_0, f_X11_isWhen, B_X11_isWhen_0, f_X11_isDay, B_X11_isDay_0, f_X11_isLand, B_X11_isLand_0, f_X11_isChoice, B_X11_isChoice_0, B_X11_isChoice_9, zk_b2, zk_b3, zk_b4, zk_b5, zk_b6, zk_let]
  repeat' (first
    | (with_reducible refine zk_kI ?_; first | rfl | decide | (simp only [f_X12_point, B_X12_point_0, f_X12_isPoint, B_X12_isPoint_0, f_X12_in, B_X12_in_0, f_X12_isPair, B_X12_isPair_0, f_X12_isWhen, B_X12_isWhen_0, f_X12_isDay, B_X12_isDay_0, f_X12_isLand, B_X12_isLand_0, zk_b2, zk_b3, zk_b4, zk_b5, zk_b6, zk_let]; done) | (simp only [f_X12_point, B_X12_point_0, f_X12_isPoint, B_X12_isPoint_0, f_X12_in, B_X12_in_0, f_X12_isPair, B_X12_isPair_0, f_X12_isWhen, B_X12_isWhen_0, f_X12_isDay, B_X12_isDay_0, f_X12_isLand, B_X12_isLand_0, zk_b2, zk_b3, zk_b4, zk_b5, zk_b6, zk_let]; with_reducible refine (?_ : zk_k _ _)) | with_reducible refine (?_ : zk_k _ _))
    | with_reducible refine zk_iteT (by assumption) ?_
    | with_reducible refine zk_iteF (by assumption) ?_
    | with_reducible refine zk_iteN (by assumption) ?_
    | with_reducible refine zk_iteT (by decide) ?_
    | with_reducible refine zk_iteF (by decide) ?_
    | with_reducible refine zk_biteT (by assumption) ?_
    | with_reducible refine zk_biteF (by assumption) ?_
    | with_reducible refine zk_biteN (by assumption) ?_
    | with_reducible refine zk_biteT (by decide) ?_
    | with_reducible refine zk_biteF (by decide) ?_
    | (with_reducible refine zk_bs ?_; try dsimp only)
    | with_reducible refine zk_bas ?_
    | with_reducible refine zk_ite (fun _ => ?_) (fun _ => ?_)
    | with_reducible refine zk_bite (fun _ => ?_) (fun _ => ?_)
    | (simp only [Option.bind_some, Option.bind_none, ↓reduceIte, reduceIte, eq_self, Bool.false_eq_true, or_true, true_or, or_false, false_or, or_self, and_true, true_and, and_false, false_and, not_true_eq_false, not_false_eq_true])
    | (exfalso; simp only [zs_01, zs_cl, Int32.lt_iff_toInt_lt, Int32.le_iff_toInt_le, ← Int32.toInt_inj, zt_m2000000000, zt_m100, zt_m15, zt_m14, zt_m13, zt_m12, zt_m11, zt_m10, zt_m9, zt_m8, zt_m7, zt_m6, zt_m5, zt_m4, zt_m3, zt_m2, zt_m1, zt_0, zt_1, zt_2, zt_3, zt_4, zt_5, zt_6, zt_7, zt_8, zt_9, zt_10, zt_11, zt_12, zt_13, zt_14, zt_15, zt_16, zt_17, zt_18, zt_19, zt_20, zt_21, zt_22, zt_23, zt_24, zt_25, zt_26, zt_27, zt_28, zt_29, zt_30, zt_31, zt_32, zt_33, zt_34, zt_35, zt_36, zt_37, zt_38, zt_39, zt_40, zt_41, zt_42, zt_43, zt_44, zt_45, zt_46, zt_47, zt_48, zt_49, zt_50, zt_51, zt_52, zt_53, zt_54, zt_55, zt_56, zt_57, zt_58, zt_59, zt_60, zt_61, zt_62, zt_63, zt_64, zt_65, zt_66, zt_67, zt_68, zt_69, zt_81, zt_82, zt_99, zt_100, zt_120, zt_1000, zt_9999, zt_10000] at *; omega)
    | (refine zk_bsE rfl ?_; try dsimp only)
    | (refine zk_kI ?_; first | rfl | decide | (simp only [f_X12_point, B_X12_point_0, f_X12_isPoint, B_X12_isPoint_0, f_X12_in, B_X12_in_0, f_X12_isPair, B_X12_isPair_0, f_X12_isWhen, B_X12_isWhen_0, f_X12_isDay, B_X12_isDay_0, f_X12_isLand, B_X12_isLand_0, zk_b2, zk_b3, zk_b4, zk_b5, zk_b6, zk_let]; with_reducible refine (?_ : zk_k _ _))))
theorem zg0_G_X11_left   (court_shoeCount : Int32) (court_claimCount : Int32) (court_suitCount : Int32) (court_shoePerson : Nat → Int32) (court_shoeOther : Nat → Int32) (n : Nat) (y0 : Int32) (y1 : Int64) (y2 : Int32) (y3 : Int32) (y4 : Int32) (y5 : Int32) (y6 : (Nat → Int64)) (y7 : (Nat → Int64)) (y8 : (Nat → Int32)) (y9 : (Nat → Int32)) (y10 : (Nat → Int32)) : (G_X11_left court_shoeCount court_claimCount court_suitCount court_shoePerson court_shoeOther (n + 1)) y0 y1 y2 y3 y4 y5 y6 y7 y8 y9 y10 = B_X11_left_34   (G_X11_left court_shoeCount court_claimCount court_suitCount court_shoePerson court_shoeOther n) court_shoeCount court_claimCount court_suitCount court_shoePerson court_shoeOther y0 y1 y2 y3 y4 y5 y6 y7 y8 y9 y10 := rfl
theorem zg0_G_X12_left   (mod_code : Int32) (mod_shoes : Int32) (mod_claims : Int32) (mod_taped : Int32) (mod_here : Int32) (mod_fault : Int32) (mod_suits : Int32) (mod_doneMany : Int32) (mod_undoneMany : Int32) (mod_open : Int32) (mod_laid : Int32) (mod_isBoth : Int32) (mod_wished : Int32) (mod_bestMany : Int32) (mod_bestRow : Int32) (mod_ringDigits : Int32) (mod_traces : Int32) (mod_wearer : Nat → Int32) (mod_wornFor : Nat → Int32) (mod_shoeSort : Nat → Int32) (mod_shoeDay : Nat → Int32) (mod_claimBy : Nat → Int32) (mod_claimOn : Nat → Int32) (mod_factOf : Nat → Int32) (mod_pleaOf : Nat → Int32) (mod_suedBy : Nat → Int32) (mod_suedOn : Nat → Int32) (mod_endKind : Nat → Int32) (mod_isWon : Nat → Int32) (mod_suitDay : Nat → Int32) (mod_suitLand : Nat → Int32) (mod_undoneFrom : Nat → Int32) (mod_askedMany : Nat → Int32) (mod_firstMany : Nat → Int32) (mod_asked : Nat → Int32) (mod_act : Nat → Int32) (mod_with : Nat → Int32) (mod_lineMany : Nat → Int32) (mod_testEnd : Nat → Int32) (mod_lineEnd : Nat → Int32) (n : Nat) (y0 : Int32) (y1 : Int32) (y2 : Int32) (y3 : Int32) (y4 : (Nat → Int32)) (y5 : (Nat → Int32)) (y6 : (Nat → Int32)) (y7 : (Nat → Int32)) : (G_X12_left mod_code mod_shoes mod_claims mod_taped mod_here mod_fault mod_suits mod_doneMany mod_undoneMany mod_open mod_laid mod_isBoth mod_wished mod_bestMany mod_bestRow mod_ringDigits mod_traces mod_wearer mod_wornFor mod_shoeSort mod_shoeDay mod_claimBy mod_claimOn mod_factOf mod_pleaOf mod_suedBy mod_suedOn mod_endKind mod_isWon mod_suitDay mod_suitLand mod_undoneFrom mod_askedMany mod_firstMany mod_asked mod_act mod_with mod_lineMany mod_testEnd mod_lineEnd (n + 1)) y0 y1 y2 y3 y4 y5 y6 y7 = B_X12_left_32   (G_X12_left mod_code mod_shoes mod_claims mod_taped mod_here mod_fault mod_suits mod_doneMany mod_undoneMany mod_open mod_laid mod_isBoth mod_wished mod_bestMany mod_bestRow mod_ringDigits mod_traces mod_wearer mod_wornFor mod_shoeSort mod_shoeDay mod_claimBy mod_claimOn mod_factOf mod_pleaOf mod_suedBy mod_suedOn mod_endKind mod_isWon mod_suitDay mod_suitLand mod_undoneFrom mod_askedMany mod_firstMany mod_asked mod_act mod_with mod_lineMany mod_testEnd mod_lineEnd n) mod_code mod_shoes mod_claims mod_taped mod_here mod_fault mod_suits mod_doneMany mod_undoneMany mod_open mod_laid mod_isBoth mod_wished mod_bestMany mod_bestRow mod_ringDigits mod_traces mod_wearer mod_wornFor mod_shoeSort mod_shoeDay mod_claimBy mod_claimOn mod_factOf mod_pleaOf mod_suedBy mod_suedOn mod_endKind mod_isWon mod_suitDay mod_suitLand mod_undoneFrom mod_askedMany mod_firstMany mod_asked mod_act mod_with mod_lineMany mod_testEnd mod_lineEnd y0 y1 y2 y3 y4 y5 y6 y7 := rfl
set_option maxHeartbeats 4000000 in
set_option maxRecDepth 100000 in
theorem zc_bos (a1 : Int32) : f_X11_bitOrSize 4000 0 a1 = (if 0 ≤ a1 then some (-1, ()) else some (0, ())) := rfl
set_option maxHeartbeats 4000000 in
set_option maxRecDepth 100000 in
theorem zc_open (d l : Int32) : ∃ R, f_X3_open d l 0 0 0 (fun _ => 0) (fun _ => 0) 0 0 0 (fun _ => 0) (fun _ => 0) (fun _ => 0) (fun _ => 0) (fun _ => 0) = some R := ⟨_, rfl⟩
set_option maxHeartbeats 4000000 in
set_option maxRecDepth 100000 in
theorem pe_left {g pf : Nat → Option Nat} {ae : Nat → Nat} {wb : Nat} (GF : ∀ t, t < 8 → g (24 + t) = some (ae 0)) (PF : ∀ j, j < 6 → pf j = some (ae (2 + 2 * j))) (a0 : Int32) (a1 : Int32) : ∃ R1 R2, f_X11_left  4000 a0 a1 0 0 0 (fun _ => 0) (fun _ => 0) 0 0 0 (fun _ => 0) (fun _ => 0) (fun _ => 0) (fun _ => 0) (fun _ => 0) = some R1 ∧ f_X12_left  4000 a0 a1 0 0 0 0 0 0 0 0 0 0 0 0 0 0 0 0 0 ((fun _ => 0)) ((fun _ => 0)) ((fun _ => 0)) ((fun _ => 0)) ((fun _ => 0)) ((fun _ => 0)) ((fun _ => 0)) ((fun _ => 0)) ((fun _ => 0)) ((fun _ => 0)) ((fun _ => 0)) ((fun _ => 0)) ((fun _ => 0)) ((fun _ => 0)) ((fun _ => 0)) ((fun _ => 0)) ((fun _ => 0)) ((fun _ => 0)) ((fun _ => 0)) ((fun _ => 0)) ((fun _ => 0)) ((fun _ => 0)) ((fun _ => 0)) ((fun _ => 0)) ((fun _ => 0)) ((fun _ => 0)) ((fun _ => 0)) = some R2 ∧ R1.1 = R2.1 := by
  have hm10 := zs_m10 a0
  obtain ⟨⟨u1, u2, u3, u4, u5, u6, u7, u8⟩, hop⟩ := zc_open (a0 / 10) (a0 - a0 / 10 * 10)
  obtain ⟨⟨v1, v2, v3, v4⟩, hfb⟩ := zc_fb (a0 / 10) (a0 - a0 / 10 * 10)
  refine zk_go ?_
  clear GF PF
  simp only [f_X11_left, B_X11_left_0, f_X11_isWhen, B_X11_isWhen_0, f_X11_isDay, B_X11_isDay_0, f_X11_isLand, B_X11_isLand_0, B_X11_left_34, B_X11_left_67, zk_b2E, zk_b3E, zk_b4E, zk_b5E, zk_b6E, zk_letE]
  repeat' (first
    | (with_reducible refine zk_kI ?_; first | rfl | decide | (simp only [f_X12_left, B_X12_left_0, f_X12_isWhen, B_X12_isWhen_0, f_X12_isDay, B_X12_isDay_0, f_X12_in, B_X12_in_0, f_X12_isLand, B_X12_isLand_0, B_X12_left_32, B_X12_left_88, zk_b2E, zk_b3E, zk_b4E, zk_b5E, zk_b6E, zk_letE]; done) | (simp only [f_X12_left, B_X12_left_0, f_X12_isWhen, B_X12_isWhen_0, f_X12_isDay, B_X12_isDay_0, f_X12_in, B_X12_in_0, f_X12_isLand, B_X12_isLand_0, B_X12_left_32, B_X12_left_88, zk_b2E, zk_b3E, zk_b4E, zk_b5E, zk_b6E, zk_letE]; with_reducible refine (?_ : zk_k _ _)) | with_reducible refine (?_ : zk_k _ _))
    | with_reducible refine zk_iteT (by assumption) ?_
    | with_reducible refine zk_iteF (by assumption) ?_
    | with_reducible refine zk_iteN (by assumption) ?_
    | with_reducible refine zk_iteT (by decide) ?_
    | with_reducible refine zk_iteF (by decide) ?_
    | with_reducible refine zk_biteT (by assumption) ?_
    | with_reducible refine zk_biteF (by assumption) ?_
    | with_reducible refine zk_biteN (by assumption) ?_
    | with_reducible refine zk_biteT (by decide) ?_
    | with_reducible refine zk_biteF (by decide) ?_
    | (with_reducible refine zk_bs ?_; try dsimp only)
    | with_reducible refine zk_bas ?_
    | with_reducible refine zk_ite (fun _ => ?_) (fun _ => ?_)
    | with_reducible refine zk_bite (fun _ => ?_) (fun _ => ?_)
    | (simp only [Option.bind_some, Option.bind_none, ↓reduceIte, reduceIte, eq_self, Bool.false_eq_true, or_true, true_or, or_false, false_or, or_self, and_true, true_and, and_false, false_and, not_true_eq_false, not_false_eq_true, hop, hfb, zk_b8E, zc_bos, zg0_G_X11_left, B_X11_left_34, zg0_G_X12_left, B_X12_left_32, zk_b2E, zk_b3E, zk_b4E, zk_b5E, zk_b6E, zk_letE])
    | (exfalso; simp only [zs_01, zs_cl, Int32.lt_iff_toInt_lt, Int32.le_iff_toInt_le, ← Int32.toInt_inj, zt_m2000000000, zt_m100, zt_m15, zt_m14, zt_m13, zt_m12, zt_m11, zt_m10, zt_m9, zt_m8, zt_m7, zt_m6, zt_m5, zt_m4, zt_m3, zt_m2, zt_m1, zt_0, zt_1, zt_2, zt_3, zt_4, zt_5, zt_6, zt_7, zt_8, zt_9, zt_10, zt_11, zt_12, zt_13, zt_14, zt_15, zt_16, zt_17, zt_18, zt_19, zt_20, zt_21, zt_22, zt_23, zt_24, zt_25, zt_26, zt_27, zt_28, zt_29, zt_30, zt_31, zt_32, zt_33, zt_34, zt_35, zt_36, zt_37, zt_38, zt_39, zt_40, zt_41, zt_42, zt_43, zt_44, zt_45, zt_46, zt_47, zt_48, zt_49, zt_50, zt_51, zt_52, zt_53, zt_54, zt_55, zt_56, zt_57, zt_58, zt_59, zt_60, zt_61, zt_62, zt_63, zt_64, zt_65, zt_66, zt_67, zt_68, zt_69, zt_81, zt_82, zt_99, zt_100, zt_120, zt_1000, zt_9999, zt_10000] at *; omega)
    | (refine zk_kI ?_; first | rfl | decide | (simp only [f_X12_left, B_X12_left_0, f_X12_isWhen, B_X12_isWhen_0, f_X12_isDay, B_X12_isDay_0, f_X12_in, B_X12_in_0, f_X12_isLand, B_X12_isLand_0, B_X12_left_32, B_X12_left_88, zk_b2E, zk_b3E, zk_b4E, zk_b5E, zk_b6E, zk_letE]; with_reducible refine (?_ : zk_k _ _))))
set_option maxHeartbeats 4000000 in
set_option maxRecDepth 100000 in
theorem pe_lost {g pf : Nat → Option Nat} {ae : Nat → Nat} {wb : Nat} (GF : ∀ t, t < 8 → g (24 + t) = some (ae 0)) (PF : ∀ j, j < 6 → pf j = some (ae (2 + 2 * j))) (a0 : Int32) (a1 : Int32) : ∃ R1 R2, f_X11_lost  4000 a0 a1 0 0 0 (fun _ => 0) (fun _ => 0) 0 0 0 (fun _ => 0) (fun _ => 0) (fun _ => 0) (fun _ => 0) (fun _ => 0) = some R1 ∧ f_X12_lost  4000 a0 a1 0 0 0 0 0 0 0 0 0 0 0 0 0 0 0 0 0 ((fun _ => 0)) ((fun _ => 0)) ((fun _ => 0)) ((fun _ => 0)) ((fun _ => 0)) ((fun _ => 0)) ((fun _ => 0)) ((fun _ => 0)) ((fun _ => 0)) ((fun _ => 0)) ((fun _ => 0)) ((fun _ => 0)) ((fun _ => 0)) ((fun _ => 0)) ((fun _ => 0)) ((fun _ => 0)) ((fun _ => 0)) ((fun _ => 0)) ((fun _ => 0)) ((fun _ => 0)) ((fun _ => 0)) ((fun _ => 0)) ((fun _ => 0)) ((fun _ => 0)) ((fun _ => 0)) ((fun _ => 0)) ((fun _ => 0)) = some R2 ∧ R1.1 = R2.1 := by
  refine zk_go ?_
  clear GF PF
  simp only [f_X11_lost, B_X11_lost_0, f_X2_suitAt, B_X2_suitAt_0, B_X11_lost_41, zk_b2, zk_b3, zk_b4, zk_b5, zk_b6, zk_let]
  repeat' (first
    | (with_reducible refine zk_kI ?_; first | rfl | decide | (simp only [f_X12_lost, B_X12_lost_0, f_X12_isSuit, B_X12_isSuit_0, f_X12_in, B_X12_in_0, B_X12_lost_37, B_X12_lost_106, zk_b2, zk_b3, zk_b4, zk_b5, zk_b6, zk_let]; done) | (simp only [f_X12_lost, B_X12_lost_0, f_X12_isSuit, B_X12_isSuit_0, f_X12_in, B_X12_in_0, B_X12_lost_37, B_X12_lost_106, zk_b2, zk_b3, zk_b4, zk_b5, zk_b6, zk_let]; with_reducible refine (?_ : zk_k _ _)) | with_reducible refine (?_ : zk_k _ _))
    | with_reducible refine zk_iteT (by assumption) ?_
    | with_reducible refine zk_iteF (by assumption) ?_
    | with_reducible refine zk_iteN (by assumption) ?_
    | with_reducible refine zk_iteT (by decide) ?_
    | with_reducible refine zk_iteF (by decide) ?_
    | with_reducible refine zk_biteT (by assumption) ?_
    | with_reducible refine zk_biteF (by assumption) ?_
    | with_reducible refine zk_biteN (by assumption) ?_
    | with_reducible refine zk_biteT (by decide) ?_
    | with_reducible refine zk_biteF (by decide) ?_
    | (with_reducible refine zk_bs ?_; try dsimp only)
    | with_reducible refine zk_bas ?_
    | with_reducible refine zk_ite (fun _ => ?_) (fun _ => ?_)
    | with_reducible refine zk_bite (fun _ => ?_) (fun _ => ?_)
    | (simp only [Option.bind_some, Option.bind_none, ↓reduceIte, reduceIte, eq_self, Bool.false_eq_true, or_true, true_or, or_false, false_or, or_self, and_true, true_and, and_false, false_and, not_true_eq_false, not_false_eq_true])
    | (exfalso; simp only [zs_01, zs_cl, Int32.lt_iff_toInt_lt, Int32.le_iff_toInt_le, ← Int32.toInt_inj, zt_m2000000000, zt_m100, zt_m15, zt_m14, zt_m13, zt_m12, zt_m11, zt_m10, zt_m9, zt_m8, zt_m7, zt_m6, zt_m5, zt_m4, zt_m3, zt_m2, zt_m1, zt_0, zt_1, zt_2, zt_3, zt_4, zt_5, zt_6, zt_7, zt_8, zt_9, zt_10, zt_11, zt_12, zt_13, zt_14, zt_15, zt_16, zt_17, zt_18, zt_19, zt_20, zt_21, zt_22, zt_23, zt_24, zt_25, zt_26, zt_27, zt_28, zt_29, zt_30, zt_31, zt_32, zt_33, zt_34, zt_35, zt_36, zt_37, zt_38, zt_39, zt_40, zt_41, zt_42, zt_43, zt_44, zt_45, zt_46, zt_47, zt_48, zt_49, zt_50, zt_51, zt_52, zt_53, zt_54, zt_55, zt_56, zt_57, zt_58, zt_59, zt_60, zt_61, zt_62, zt_63, zt_64, zt_65, zt_66, zt_67, zt_68, zt_69, zt_81, zt_82, zt_99, zt_100, zt_120, zt_1000, zt_9999, zt_10000] at *; omega)
    | (refine zk_bsE rfl ?_; try dsimp only)
    | (refine zk_kI ?_; first | rfl | decide | (simp only [f_X12_lost, B_X12_lost_0, f_X12_isSuit, B_X12_isSuit_0, f_X12_in, B_X12_in_0, B_X12_lost_37, B_X12_lost_106, zk_b2, zk_b3, zk_b4, zk_b5, zk_b6, zk_let]; with_reducible refine (?_ : zk_k _ _))))
set_option maxHeartbeats 4000000 in
set_option maxRecDepth 100000 in
theorem pe_opens {g pf : Nat → Option Nat} {ae : Nat → Nat} {wb : Nat} (GF : ∀ t, t < 8 → g (24 + t) = some (ae 0)) (PF : ∀ j, j < 6 → pf j = some (ae (2 + 2 * j))) (a0 : Int32) (a1 : Int32) : ∃ R1 R2, f_X11_opens  4000 a0 a1 0 0 0 (fun _ => 0) (fun _ => 0) 0 0 0 (fun _ => 0) (fun _ => 0) (fun _ => 0) (fun _ => 0) (fun _ => 0) = some R1 ∧ f_X12_opens  4000 a0 a1 0 0 0 0 0 0 0 0 0 0 0 0 0 0 0 0 0 ((fun _ => 0)) ((fun _ => 0)) ((fun _ => 0)) ((fun _ => 0)) ((fun _ => 0)) ((fun _ => 0)) ((fun _ => 0)) ((fun _ => 0)) ((fun _ => 0)) ((fun _ => 0)) ((fun _ => 0)) ((fun _ => 0)) ((fun _ => 0)) ((fun _ => 0)) ((fun _ => 0)) ((fun _ => 0)) ((fun _ => 0)) ((fun _ => 0)) ((fun _ => 0)) ((fun _ => 0)) ((fun _ => 0)) ((fun _ => 0)) ((fun _ => 0)) ((fun _ => 0)) ((fun _ => 0)) ((fun _ => 0)) ((fun _ => 0)) = some R2 ∧ R1.1 = R2.1 := by
  refine zk_go ?_
  clear GF PF
  simp only [f_X11_opens, B_X11_opens_0, f_X2_suitAt, B_X2_suitAt_0, B_X11_opens_45, zk_b2, zk_b3, zk_b4, zk_b5, zk_b6, zk_let]
  repeat' (first
    | (with_reducible refine zk_kI ?_; first | rfl | decide | (simp only [f_X12_opens, B_X12_opens_0, f_X12_isSuit, B_X12_isSuit_0, f_X12_in, B_X12_in_0, f_X12_isWhen, B_X12_isWhen_0, f_X12_isDay, B_X12_isDay_0, f_X12_isLand, B_X12_isLand_0, B_X12_opens_37, B_X12_opens_122, zk_b2, zk_b3, zk_b4, zk_b5, zk_b6, zk_let]; done) | (simp only [f_X12_opens, B_X12_opens_0, f_X12_isSuit, B_X12_isSuit_0, f_X12_in, B_X12_in_0, f_X12_isWhen, B_X12_isWhen_0, f_X12_isDay, B_X12_isDay_0, f_X12_isLand, B_X12_isLand_0, B_X12_opens_37, B_X12_opens_122, zk_b2, zk_b3, zk_b4, zk_b5, zk_b6, zk_let]; with_reducible refine (?_ : zk_k _ _)) | with_reducible refine (?_ : zk_k _ _))
    | with_reducible refine zk_iteT (by assumption) ?_
    | with_reducible refine zk_iteF (by assumption) ?_
    | with_reducible refine zk_iteN (by assumption) ?_
    | with_reducible refine zk_iteT (by decide) ?_
    | with_reducible refine zk_iteF (by decide) ?_
    | with_reducible refine zk_biteT (by assumption) ?_
    | with_reducible refine zk_biteF (by assumption) ?_
    | with_reducible refine zk_biteN (by assumption) ?_
    | with_reducible refine zk_biteT (by decide) ?_
    | with_reducible refine zk_biteF (by decide) ?_
    | (with_reducible refine zk_bs ?_; try dsimp only)
    | with_reducible refine zk_bas ?_
    | with_reducible refine zk_ite (fun _ => ?_) (fun _ => ?_)
    | with_reducible refine zk_bite (fun _ => ?_) (fun _ => ?_)
    | (simp only [Option.bind_some, Option.bind_none, ↓reduceIte, reduceIte, eq_self, Bool.false_eq_true, or_true, true_or, or_false, false_or, or_self, and_true, true_and, and_false, false_and, not_true_eq_false, not_false_eq_true])
    | (exfalso; simp only [zs_01, zs_cl, Int32.lt_iff_toInt_lt, Int32.le_iff_toInt_le, ← Int32.toInt_inj, zt_m2000000000, zt_m100, zt_m15, zt_m14, zt_m13, zt_m12, zt_m11, zt_m10, zt_m9, zt_m8, zt_m7, zt_m6, zt_m5, zt_m4, zt_m3, zt_m2, zt_m1, zt_0, zt_1, zt_2, zt_3, zt_4, zt_5, zt_6, zt_7, zt_8, zt_9, zt_10, zt_11, zt_12, zt_13, zt_14, zt_15, zt_16, zt_17, zt_18, zt_19, zt_20, zt_21, zt_22, zt_23, zt_24, zt_25, zt_26, zt_27, zt_28, zt_29, zt_30, zt_31, zt_32, zt_33, zt_34, zt_35, zt_36, zt_37, zt_38, zt_39, zt_40, zt_41, zt_42, zt_43, zt_44, zt_45, zt_46, zt_47, zt_48, zt_49, zt_50, zt_51, zt_52, zt_53, zt_54, zt_55, zt_56, zt_57, zt_58, zt_59, zt_60, zt_61, zt_62, zt_63, zt_64, zt_65, zt_66, zt_67, zt_68, zt_69, zt_81, zt_82, zt_99, zt_100, zt_120, zt_1000, zt_9999, zt_10000] at *; omega)
    | (refine zk_bsE rfl ?_; try dsimp only)
    | (refine zk_kI ?_; first | rfl | decide | (simp only [f_X12_opens, B_X12_opens_0, f_X12_isSuit, B_X12_isSuit_0, f_X12_in, B_X12_in_0, f_X12_isWhen, B_X12_isWhen_0, f_X12_isDay, B_X12_isDay_0, f_X12_isLand, B_X12_isLand_0, B_X12_opens_37, B_X12_opens_122, zk_b2, zk_b3, zk_b4, zk_b5, zk_b6, zk_let]; with_reducible refine (?_ : zk_k _ _))))
set_option maxHeartbeats 4000000 in
set_option maxRecDepth 100000 in
theorem zc_c11 (a0 : Int32) : f_X11_clash  4000 a0 0 0 0 = (if (-1 : Int32) ≤ a0 then (if 0 ≤ a0 then some (-1, ()) else some (0, ())) else some (-1, ())) := rfl
set_option maxHeartbeats 4000000 in
set_option maxRecDepth 100000 in
theorem zc_c12 (a0 : Int32) : f_X12_clash  4000 a0 0 0 0 0 0 0 0 0 0 0 0 0 0 0 0 0 0 ((fun _ => 0)) = (if (-1 : Int32) ≤ a0 then (if 0 ≤ a0 then some (-1, ()) else some (0, ())) else some (-1, ())) := rfl
set_option maxHeartbeats 4000000 in
set_option maxRecDepth 100000 in
theorem pe_clash {g pf : Nat → Option Nat} {ae : Nat → Nat} {wb : Nat} (GF : ∀ t, t < 8 → g (24 + t) = some (ae 0)) (PF : ∀ j, j < 6 → pf j = some (ae (2 + 2 * j))) (a0 : Int32) : ∃ R1 R2, f_X11_clash  4000 a0 0 0 0 = some R1 ∧ f_X12_clash  4000 a0 0 0 0 0 0 0 0 0 0 0 0 0 0 0 0 0 0 ((fun _ => 0)) = some R2 ∧ R1.1 = R2.1 := by
  rw [zc_c11, zc_c12]
  refine zk_go ?_
  clear GF PF
  repeat' (first
    | (with_reducible refine zk_kI ?_; first | rfl | decide | (simp only [zc_c11, zk_b2, zk_b3, zk_b4, zk_b5, zk_b6, zk_let]; done) | (simp only [zc_c11, zk_b2, zk_b3, zk_b4, zk_b5, zk_b6, zk_let]; with_reducible refine (?_ : zk_k _ _)) | with_reducible refine (?_ : zk_k _ _))
    | with_reducible refine zk_iteT (by assumption) ?_
    | with_reducible refine zk_iteF (by assumption) ?_
    | with_reducible refine zk_iteN (by assumption) ?_
    | with_reducible refine zk_iteT (by decide) ?_
    | with_reducible refine zk_iteF (by decide) ?_
    | with_reducible refine zk_biteT (by assumption) ?_
    | with_reducible refine zk_biteF (by assumption) ?_
    | with_reducible refine zk_biteN (by assumption) ?_
    | with_reducible refine zk_biteT (by decide) ?_
    | with_reducible refine zk_biteF (by decide) ?_
    | (with_reducible refine zk_bs ?_; try dsimp only)
    | with_reducible refine zk_bas ?_
    | with_reducible refine zk_ite (fun _ => ?_) (fun _ => ?_)
    | with_reducible refine zk_bite (fun _ => ?_) (fun _ => ?_)
    | (simp only [Option.bind_some, Option.bind_none, ↓reduceIte, reduceIte, eq_self, Bool.false_eq_true, or_true, true_or, or_false, false_or, or_self, and_true, true_and, and_false, false_and, not_true_eq_false, not_false_eq_true])
    | (exfalso; simp only [zs_01, zs_cl, Int32.lt_iff_toInt_lt, Int32.le_iff_toInt_le, ← Int32.toInt_inj, zt_m2000000000, zt_m100, zt_m15, zt_m14, zt_m13, zt_m12, zt_m11, zt_m10, zt_m9, zt_m8, zt_m7, zt_m6, zt_m5, zt_m4, zt_m3, zt_m2, zt_m1, zt_0, zt_1, zt_2, zt_3, zt_4, zt_5, zt_6, zt_7, zt_8, zt_9, zt_10, zt_11, zt_12, zt_13, zt_14, zt_15, zt_16, zt_17, zt_18, zt_19, zt_20, zt_21, zt_22, zt_23, zt_24, zt_25, zt_26, zt_27, zt_28, zt_29, zt_30, zt_31, zt_32, zt_33, zt_34, zt_35, zt_36, zt_37, zt_38, zt_39, zt_40, zt_41, zt_42, zt_43, zt_44, zt_45, zt_46, zt_47, zt_48, zt_49, zt_50, zt_51, zt_52, zt_53, zt_54, zt_55, zt_56, zt_57, zt_58, zt_59, zt_60, zt_61, zt_62, zt_63, zt_64, zt_65, zt_66, zt_67, zt_68, zt_69, zt_81, zt_82, zt_99, zt_100, zt_120, zt_1000, zt_9999, zt_10000] at *; omega)
    | (refine zk_kI ?_; first | rfl | decide | (simp only [zc_c11, zk_b2, zk_b3, zk_b4, zk_b5, zk_b6, zk_let]; with_reducible refine (?_ : zk_k _ _))))
set_option maxHeartbeats 4000000 in
set_option maxRecDepth 100000 in
theorem pe_wish {g pf : Nat → Option Nat} {ae : Nat → Nat} {wb : Nat} (GF : ∀ t, t < 8 → g (24 + t) = some (ae 0)) (PF : ∀ j, j < 6 → pf j = some (ae (2 + 2 * j))) (a0 : Int32) (a1 : Int32) : ∃ R1 R2, f_X11_wish  a0 a1 0 0 0 0 (.ref wb) 0 0 (fun _ => 0) (fun _ => 0) = some R1 ∧ f_X12_wish  4000 a0 a1 0 0 0 0 0 0 0 0 0 0 0 0 0 0 0 0 0 ((fun _ => 0)) ((fun _ => 0)) = some R2 ∧ R1.1 = R2.1 := by
  refine zk_go ?_
  clear GF PF
  simp only [f_X11_wish, B_X11_wish_0, f_X11_isClaim, B_X11_isClaim_0, f_X11_isChoice, B_X11_isChoice_0, B_X11_isChoice_9, zk_b2, zk_b3, zk_b4, zk_b5, zk_b6, zk_let]
  repeat' (first
    | (with_reducible refine zk_kI ?_; first | rfl | decide | (simp only [f_X12_wish, B_X12_wish_0, f_X12_isClaim, B_X12_isClaim_0, f_X12_in, B_X12_in_0, B_X12_wish_21, zk_b2, zk_b3, zk_b4, zk_b5, zk_b6, zk_let]; done) | (simp only [f_X12_wish, B_X12_wish_0, f_X12_isClaim, B_X12_isClaim_0, f_X12_in, B_X12_in_0, B_X12_wish_21, zk_b2, zk_b3, zk_b4, zk_b5, zk_b6, zk_let]; with_reducible refine (?_ : zk_k _ _)) | with_reducible refine (?_ : zk_k _ _))
    | with_reducible refine zk_iteT (by assumption) ?_
    | with_reducible refine zk_iteF (by assumption) ?_
    | with_reducible refine zk_iteN (by assumption) ?_
    | with_reducible refine zk_iteT (by decide) ?_
    | with_reducible refine zk_iteF (by decide) ?_
    | with_reducible refine zk_biteT (by assumption) ?_
    | with_reducible refine zk_biteF (by assumption) ?_
    | with_reducible refine zk_biteN (by assumption) ?_
    | with_reducible refine zk_biteT (by decide) ?_
    | with_reducible refine zk_biteF (by decide) ?_
    | (with_reducible refine zk_bs ?_; try dsimp only)
    | with_reducible refine zk_bas ?_
    | with_reducible refine zk_ite (fun _ => ?_) (fun _ => ?_)
    | with_reducible refine zk_bite (fun _ => ?_) (fun _ => ?_)
    | (simp only [Option.bind_some, Option.bind_none, ↓reduceIte, reduceIte, eq_self, Bool.false_eq_true, or_true, true_or, or_false, false_or, or_self, and_true, true_and, and_false, false_and, not_true_eq_false, not_false_eq_true])
    | (exfalso; simp only [zs_01, zs_cl, Int32.lt_iff_toInt_lt, Int32.le_iff_toInt_le, ← Int32.toInt_inj, zt_m2000000000, zt_m100, zt_m15, zt_m14, zt_m13, zt_m12, zt_m11, zt_m10, zt_m9, zt_m8, zt_m7, zt_m6, zt_m5, zt_m4, zt_m3, zt_m2, zt_m1, zt_0, zt_1, zt_2, zt_3, zt_4, zt_5, zt_6, zt_7, zt_8, zt_9, zt_10, zt_11, zt_12, zt_13, zt_14, zt_15, zt_16, zt_17, zt_18, zt_19, zt_20, zt_21, zt_22, zt_23, zt_24, zt_25, zt_26, zt_27, zt_28, zt_29, zt_30, zt_31, zt_32, zt_33, zt_34, zt_35, zt_36, zt_37, zt_38, zt_39, zt_40, zt_41, zt_42, zt_43, zt_44, zt_45, zt_46, zt_47, zt_48, zt_49, zt_50, zt_51, zt_52, zt_53, zt_54, zt_55, zt_56, zt_57, zt_58, zt_59, zt_60, zt_61, zt_62, zt_63, zt_64, zt_65, zt_66, zt_67, zt_68, zt_69, zt_81, zt_82, zt_99, zt_100, zt_120, zt_1000, zt_9999, zt_10000] at *; omega)
    | (refine zk_bsE rfl ?_; try dsimp only)
    | (refine zk_kI ?_; first | rfl | decide | (simp only [f_X12_wish, B_X12_wish_0, f_X12_isClaim, B_X12_isClaim_0, f_X12_in, B_X12_in_0, B_X12_wish_21, zk_b2, zk_b3, zk_b4, zk_b5, zk_b6, zk_let]; with_reducible refine (?_ : zk_k _ _))))
set_option maxHeartbeats 4000000 in
set_option maxRecDepth 100000 in
theorem pe_order {g pf : Nat → Option Nat} {ae : Nat → Nat} {wb : Nat} (GF : ∀ t, t < 8 → g (24 + t) = some (ae 0)) (PF : ∀ j, j < 6 → pf j = some (ae (2 + 2 * j))) (a0 : Int32) (a1 : Int32) : ∃ R1 R2, f_X11_order  a0 a1 0 (.ref wb) 0 0 = some R1 ∧ f_X12_order  a0 a1 0 0 0 0 0 0 0 0 0 0 0 0 0 0 0 0 0 ((fun _ => 0)) ((fun _ => 0)) ((fun _ => 0)) ((fun _ => 0)) ((fun _ => 0)) ((fun _ => 0)) ((fun _ => 0)) ((fun _ => 0)) ((fun _ => 0)) ((fun _ => 0)) ((fun _ => 0)) ((fun _ => 0)) ((fun _ => 0)) ((fun _ => 0)) ((fun _ => 0)) ((fun _ => 0)) ((fun _ => 0)) ((fun _ => 0)) ((fun _ => 0)) ((fun _ => 0)) ((fun _ => 0)) ((fun _ => 0)) ((fun _ => 0)) ((fun _ => 0)) ((fun _ => 0)) ((fun _ => 0)) ((fun _ => 0)) ((fun _ => 0)) ((fun _ => 0)) = some R2 ∧ R1.1 = R2.1 := by
  refine zk_go ?_
  clear GF PF
  simp only [f_X11_order, B_X11_order_0, f_X11_isWhen, B_X11_isWhen_0, f_X11_isDay, B_X11_isDay_0, f_X11_isLand, B_X11_isLand_0, f_X11_isChoice, B_X11_isChoice_0, B_X11_isChoice_9, zk_b2, zk_b3, zk_b4, zk_b5, zk_b6, zk_let]
  repeat' (first
    | (with_reducible refine zk_kI ?_; first | rfl | decide | (simp only [f_X12_order, B_X12_order_0, f_X12_isWhen, B_X12_isWhen_0, f_X12_isDay, B_X12_isDay_0, f_X12_in, B_X12_in_0, f_X12_isLand, B_X12_isLand_0, zk_b2, zk_b3, zk_b4, zk_b5, zk_b6, zk_let]; done) | (simp only [f_X12_order, B_X12_order_0, f_X12_isWhen, B_X12_isWhen_0, f_X12_isDay, B_X12_isDay_0, f_X12_in, B_X12_in_0, f_X12_isLand, B_X12_isLand_0, zk_b2, zk_b3, zk_b4, zk_b5, zk_b6, zk_let]; with_reducible refine (?_ : zk_k _ _)) | with_reducible refine (?_ : zk_k _ _))
    | with_reducible refine zk_iteT (by assumption) ?_
    | with_reducible refine zk_iteF (by assumption) ?_
    | with_reducible refine zk_iteN (by assumption) ?_
    | with_reducible refine zk_iteT (by decide) ?_
    | with_reducible refine zk_iteF (by decide) ?_
    | with_reducible refine zk_biteT (by assumption) ?_
    | with_reducible refine zk_biteF (by assumption) ?_
    | with_reducible refine zk_biteN (by assumption) ?_
    | with_reducible refine zk_biteT (by decide) ?_
    | with_reducible refine zk_biteF (by decide) ?_
    | (with_reducible refine zk_bs ?_; try dsimp only)
    | with_reducible refine zk_bas ?_
    | with_reducible refine zk_ite (fun _ => ?_) (fun _ => ?_)
    | with_reducible refine zk_bite (fun _ => ?_) (fun _ => ?_)
    | (simp only [Option.bind_some, Option.bind_none, ↓reduceIte, reduceIte, eq_self, Bool.false_eq_true, or_true, true_or, or_false, false_or, or_self, and_true, true_and, and_false, false_and, not_true_eq_false, not_false_eq_true])
    | (exfalso; simp only [zs_01, zs_cl, Int32.lt_iff_toInt_lt, Int32.le_iff_toInt_le, ← Int32.toInt_inj, zt_m2000000000, zt_m100, zt_m15, zt_m14, zt_m13, zt_m12, zt_m11, zt_m10, zt_m9, zt_m8, zt_m7, zt_m6, zt_m5, zt_m4, zt_m3, zt_m2, zt_m1, zt_0, zt_1, zt_2, zt_3, zt_4, zt_5, zt_6, zt_7, zt_8, zt_9, zt_10, zt_11, zt_12, zt_13, zt_14, zt_15, zt_16, zt_17, zt_18, zt_19, zt_20, zt_21, zt_22, zt_23, zt_24, zt_25, zt_26, zt_27, zt_28, zt_29, zt_30, zt_31, zt_32, zt_33, zt_34, zt_35, zt_36, zt_37, zt_38, zt_39, zt_40, zt_41, zt_42, zt_43, zt_44, zt_45, zt_46, zt_47, zt_48, zt_49, zt_50, zt_51, zt_52, zt_53, zt_54, zt_55, zt_56, zt_57, zt_58, zt_59, zt_60, zt_61, zt_62, zt_63, zt_64, zt_65, zt_66, zt_67, zt_68, zt_69, zt_81, zt_82, zt_99, zt_100, zt_120, zt_1000, zt_9999, zt_10000] at *; omega)
    | (refine zk_bsE rfl ?_; try dsimp only)
    | (refine zk_kI ?_; first | rfl | decide | (simp only [f_X12_order, B_X12_order_0, f_X12_isWhen, B_X12_isWhen_0, f_X12_isDay, B_X12_isDay_0, f_X12_in, B_X12_in_0, f_X12_isLand, B_X12_isLand_0, zk_b2, zk_b3, zk_b4, zk_b5, zk_b6, zk_let]; with_reducible refine (?_ : zk_k _ _))))
set_option maxHeartbeats 4000000 in
set_option maxRecDepth 100000 in
theorem pe_unwish {g pf : Nat → Option Nat} {ae : Nat → Nat} {wb : Nat} (GF : ∀ t, t < 8 → g (24 + t) = some (ae 0)) (PF : ∀ j, j < 6 → pf j = some (ae (2 + 2 * j)))  : ∃ R1 R2, f_X11_unwish   0 (.ref wb) 0 0 = some R1 ∧ f_X12_unwish   0 0 0 0 0 0 0 0 0 0 0 0 0 0 0 0 0 = some R2 ∧ R1.1 = R2.1 := by
  refine zk_go ?_
  clear GF PF
  simp only [f_X11_unwish, B_X11_unwish_0, zk_b2, zk_b3, zk_b4, zk_b5, zk_b6, zk_let]
  repeat' (first
    | (with_reducible refine zk_kI ?_; first | rfl | decide | (simp only [f_X12_unwish, B_X12_unwish_0, zk_b2, zk_b3, zk_b4, zk_b5, zk_b6, zk_let]; done) | (simp only [f_X12_unwish, B_X12_unwish_0, zk_b2, zk_b3, zk_b4, zk_b5, zk_b6, zk_let]; with_reducible refine (?_ : zk_k _ _)) | with_reducible refine (?_ : zk_k _ _))
    | with_reducible refine zk_iteT (by assumption) ?_
    | with_reducible refine zk_iteF (by assumption) ?_
    | with_reducible refine zk_iteN (by assumption) ?_
    | with_reducible refine zk_iteT (by decide) ?_
    | with_reducible refine zk_iteF (by decide) ?_
    | with_reducible refine zk_biteT (by assumption) ?_
    | with_reducible refine zk_biteF (by assumption) ?_
    | with_reducible refine zk_biteN (by assumption) ?_
    | with_reducible refine zk_biteT (by decide) ?_
    | with_reducible refine zk_biteF (by decide) ?_
    | (with_reducible refine zk_bs ?_; try dsimp only)
    | with_reducible refine zk_bas ?_
    | with_reducible refine zk_ite (fun _ => ?_) (fun _ => ?_)
    | with_reducible refine zk_bite (fun _ => ?_) (fun _ => ?_)
    | (simp only [Option.bind_some, Option.bind_none, ↓reduceIte, reduceIte, eq_self, Bool.false_eq_true, or_true, true_or, or_false, false_or, or_self, and_true, true_and, and_false, false_and, not_true_eq_false, not_false_eq_true])
    | (exfalso; simp only [zs_01, zs_cl, Int32.lt_iff_toInt_lt, Int32.le_iff_toInt_le, ← Int32.toInt_inj, zt_m2000000000, zt_m100, zt_m15, zt_m14, zt_m13, zt_m12, zt_m11, zt_m10, zt_m9, zt_m8, zt_m7, zt_m6, zt_m5, zt_m4, zt_m3, zt_m2, zt_m1, zt_0, zt_1, zt_2, zt_3, zt_4, zt_5, zt_6, zt_7, zt_8, zt_9, zt_10, zt_11, zt_12, zt_13, zt_14, zt_15, zt_16, zt_17, zt_18, zt_19, zt_20, zt_21, zt_22, zt_23, zt_24, zt_25, zt_26, zt_27, zt_28, zt_29, zt_30, zt_31, zt_32, zt_33, zt_34, zt_35, zt_36, zt_37, zt_38, zt_39, zt_40, zt_41, zt_42, zt_43, zt_44, zt_45, zt_46, zt_47, zt_48, zt_49, zt_50, zt_51, zt_52, zt_53, zt_54, zt_55, zt_56, zt_57, zt_58, zt_59, zt_60, zt_61, zt_62, zt_63, zt_64, zt_65, zt_66, zt_67, zt_68, zt_69, zt_81, zt_82, zt_99, zt_100, zt_120, zt_1000, zt_9999, zt_10000] at *; omega)
    | (refine zk_bsE rfl ?_; try dsimp only)
    | (refine zk_kI ?_; first | rfl | decide | (simp only [f_X12_unwish, B_X12_unwish_0, zk_b2, zk_b3, zk_b4, zk_b5, zk_b6, zk_let]; with_reducible refine (?_ : zk_k _ _))))
theorem zg0_G_X12_bitsOf    (n : Nat) (y0 : Int32) (y1 : Int32) : (G_X12_bitsOf  (n + 1)) y0 y1 = B_X12_bitsOf_4   (G_X12_bitsOf  n)  y0 y1 := rfl
theorem zc_bit (x k : Nat) (h : x % 2 ^ k = 0) (h0 : 0 < x) : (x &&& (x - 1)) % 2 ^ (k + 1) = 0 := by
  obtain ⟨y, rfl⟩ := Nat.dvd_of_mod_eq_zero h
  have hp : 0 < 2 ^ k := Nat.two_pow_pos k
  have hy : 0 < y := by
    rcases Nat.eq_zero_or_pos y with e | e
    · rw [e, Nat.mul_zero] at h0
      exact absurd h0 (Nat.lt_irrefl 0)
    · exact e
  obtain ⟨z, rfl⟩ : ∃ z, y = z + 1 := ⟨y - 1, by omega⟩
  have e : 2 ^ k * (z + 1) - 1 = 2 ^ k * z + (2 ^ k - 1) := by
    rw [Nat.mul_add, Nat.mul_one]
    omega
  apply Nat.eq_of_testBit_eq
  intro j
  rw [Nat.testBit_mod_two_pow, Nat.testBit_and, e, Nat.testBit_two_pow_mul_add z (by omega), Nat.testBit_two_pow_mul, Nat.zero_testBit]
  by_cases hj : j < k
  · have : ¬ (j ≥ k) := by omega
    simp [this]
  · by_cases hj2 : j = k
    · subst hj2
      rw [if_neg (by omega), Nat.sub_self]
      have : ((z + 1).testBit 0 && z.testBit 0) = false := by
        rw [Nat.testBit_zero, Nat.testBit_zero]
        rcases Nat.mod_two_eq_zero_or_one z with h2 | h2
        · simp [h2]
        · have : (z + 1) % 2 = 0 := by omega
          simp [this]
      rw [Bool.and_assoc, this]
      simp
    · have : ¬ (j < k + 1) := by omega
      simp [this]
theorem zc_bitI (x : Int32) (h : ¬ x = 0) (k : Nat) (hk : x.toBitVec.toNat % 2 ^ k = 0) : (x &&& (x - 1)).toBitVec.toNat % 2 ^ (k + 1) = 0 := by
  have h1 : 0 < x.toBitVec.toNat := by
    rcases Nat.eq_zero_or_pos x.toBitVec.toNat with e | e
    · exact absurd (Int32.toBitVec_inj.mp (BitVec.eq_of_toNat_eq e)) h
    · exact e
  have h2 : (x - 1).toBitVec.toNat = x.toBitVec.toNat - 1 := by
    have h3 := x.toBitVec.isLt
    rw [Int32.toBitVec_sub, BitVec.toNat_sub]
    show (2 ^ 32 - 1 + x.toBitVec.toNat) % 2 ^ 32 = _
    omega
  rw [Int32.toBitVec_and, BitVec.toNat_and, h2]
  exact zc_bit _ k hk h1
theorem zc_bitG : ∀ (k n : Nat) (c x : Int32), k ≤ 32 → x.toBitVec.toNat % 2 ^ (32 - k) = 0 → ∃ R, (G_X12_bitsOf (k + n + 1)) c x = some R := by
  intro k
  induction k with
  | zero =>
    intro n c x _ h
    have h3 := x.toBitVec.isLt
    have h4 : x.toBitVec.toNat = 0 := by
      rw [Nat.mod_eq_of_lt h3] at h
      exact h
    have h5 : x = 0 := Int32.toBitVec_inj.mp (BitVec.eq_of_toNat_eq h4)
    rw [zg0_G_X12_bitsOf]
    unfold B_X12_bitsOf_4
    rw [if_pos h5]
    exact ⟨_, rfl⟩
  | succ k ih =>
    intro n c x hk h
    rw [zg0_G_X12_bitsOf]
    unfold B_X12_bitsOf_4
    by_cases h5 : x = 0
    · rw [if_pos h5]
      exact ⟨_, rfl⟩
    · rw [if_neg h5, zk_letE, zk_letE]
      have h6 := zc_bitI x h5 _ h
      have e : 32 - (k + 1) + 1 = 32 - k := by omega
      rw [e] at h6
      have e2 : k + 1 + n = k + n + 1 := by omega
      rw [e2]
      exact ih n (c + 1) (x &&& (x - 1)) (by omega) h6
theorem zc_bits (x : Int32) : ∃ R, f_X12_bitsOf 4000 x = some R := by
  unfold f_X12_bitsOf B_X12_bitsOf_0
  exact zc_bitG 32 3967 0 x (by omega) (by simp [Nat.mod_one])

set_option maxHeartbeats 4000000 in
set_option maxRecDepth 100000 in
theorem pe_joined {g pf : Nat → Option Nat} {ae : Nat → Nat} {wb : Nat} (GF : ∀ t, t < 8 → g (24 + t) = some (ae 0)) (PF : ∀ j, j < 6 → pf j = some (ae (2 + 2 * j))) (a0 : Int32) (a1 : Int32) (a2 : Int32) : ∃ R1 R2, f_X11_joined  a0 a1 a2 0 0 0 (fun _ => 0) (fun _ => 0) 0 0 0 (fun _ => 0) (fun _ => 0) (fun _ => 0) (fun _ => 0) (fun _ => 0) = some R1 ∧ f_X12_joined  4000 a0 a1 a2 0 0 0 0 0 0 0 0 0 0 0 0 0 0 0 0 0 ((fun _ => 0)) ((fun _ => 0)) ((fun _ => 0)) ((fun _ => 0)) ((fun _ => 0)) ((fun _ => 0)) ((fun _ => 0)) ((fun _ => 0)) ((fun _ => 0)) ((fun _ => 0)) ((fun _ => 0)) ((fun _ => 0)) ((fun _ => 0)) ((fun _ => 0)) ((fun _ => 0)) ((fun _ => 0)) ((fun _ => 0)) = some R2 ∧ R1.1 = R2.1 := by
  obtain ⟨⟨r1, r2⟩, hb⟩ := zc_bits a1
  refine zk_go ?_
  clear GF PF
  simp only [f_X11_joined, B_X11_joined_0, f_X2_suitAt, B_X2_suitAt_0, zk_b2, zk_b3, zk_b4, zk_b5, zk_b6, zk_let]
  repeat' (first
    | (with_reducible refine zk_kI ?_; first | rfl | decide | (simp only [f_X12_joined, B_X12_joined_0, f_X12_isSuit, B_X12_isSuit_0, f_X12_in, B_X12_in_0, B_X12_joined_63, B_X12_joined_84, B_X12_joined_131, B_X12_joined_128, B_X12_joined_146, B_X12_joined_171, B_X12_joined_181, B_X12_joined_191, B_X12_joined_274, B_X12_joined_331, B_X12_joined_384, zk_b2, zk_b3, zk_b4, zk_b5, zk_b6, zk_let]; done) | (simp only [f_X12_joined, B_X12_joined_0, f_X12_isSuit, B_X12_isSuit_0, f_X12_in, B_X12_in_0, B_X12_joined_63, B_X12_joined_84, B_X12_joined_131, B_X12_joined_128, B_X12_joined_146, B_X12_joined_171, B_X12_joined_181, B_X12_joined_191, B_X12_joined_274, B_X12_joined_331, B_X12_joined_384, zk_b2, zk_b3, zk_b4, zk_b5, zk_b6, zk_let]; with_reducible refine (?_ : zk_k _ _)) | with_reducible refine (?_ : zk_k _ _))
    | with_reducible refine zk_iteT (by assumption) ?_
    | with_reducible refine zk_iteF (by assumption) ?_
    | with_reducible refine zk_iteN (by assumption) ?_
    | with_reducible refine zk_iteT (by decide) ?_
    | with_reducible refine zk_iteF (by decide) ?_
    | with_reducible refine zk_biteT (by assumption) ?_
    | with_reducible refine zk_biteF (by assumption) ?_
    | with_reducible refine zk_biteN (by assumption) ?_
    | with_reducible refine zk_biteT (by decide) ?_
    | with_reducible refine zk_biteF (by decide) ?_
    | (with_reducible refine zk_bs ?_; try dsimp only)
    | with_reducible refine zk_bas ?_
    | with_reducible refine zk_ite (fun _ => ?_) (fun _ => ?_)
    | with_reducible refine zk_bite (fun _ => ?_) (fun _ => ?_)
    | (simp only [Option.bind_some, Option.bind_none, ↓reduceIte, reduceIte, eq_self, Bool.false_eq_true, or_true, true_or, or_false, false_or, or_self, and_true, true_and, and_false, false_and, not_true_eq_false, not_false_eq_true, hb])
    | (exfalso; simp only [zs_01, zs_cl, Int32.lt_iff_toInt_lt, Int32.le_iff_toInt_le, ← Int32.toInt_inj, zt_m2000000000, zt_m100, zt_m15, zt_m14, zt_m13, zt_m12, zt_m11, zt_m10, zt_m9, zt_m8, zt_m7, zt_m6, zt_m5, zt_m4, zt_m3, zt_m2, zt_m1, zt_0, zt_1, zt_2, zt_3, zt_4, zt_5, zt_6, zt_7, zt_8, zt_9, zt_10, zt_11, zt_12, zt_13, zt_14, zt_15, zt_16, zt_17, zt_18, zt_19, zt_20, zt_21, zt_22, zt_23, zt_24, zt_25, zt_26, zt_27, zt_28, zt_29, zt_30, zt_31, zt_32, zt_33, zt_34, zt_35, zt_36, zt_37, zt_38, zt_39, zt_40, zt_41, zt_42, zt_43, zt_44, zt_45, zt_46, zt_47, zt_48, zt_49, zt_50, zt_51, zt_52, zt_53, zt_54, zt_55, zt_56, zt_57, zt_58, zt_59, zt_60, zt_61, zt_62, zt_63, zt_64, zt_65, zt_66, zt_67, zt_68, zt_69, zt_81, zt_82, zt_99, zt_100, zt_120, zt_1000, zt_9999, zt_10000] at *; omega)
    | (refine zk_bsE rfl ?_; try dsimp only)
    | (refine zk_kI ?_; first | rfl | decide | (simp only [f_X12_joined, B_X12_joined_0, f_X12_isSuit, B_X12_isSuit_0, f_X12_in, B_X12_in_0, B_X12_joined_63, B_X12_joined_84, B_X12_joined_131, B_X12_joined_128, B_X12_joined_146, B_X12_joined_171, B_X12_joined_181, B_X12_joined_191, B_X12_joined_274, B_X12_joined_331, B_X12_joined_384, zk_b2, zk_b3, zk_b4, zk_b5, zk_b6, zk_let]; with_reducible refine (?_ : zk_k _ _))))
theorem zg0_G_X4_value   (arI_a : Nat → Int32) (arI_a_n : Nat) (arK_a_n : Nat) (la_code : Nat → Int32) (la_code_n : Nat) (n : Nat) (y0 : Int32) (y1 : Int32) (y2 : (Nat → Int32)) : (G_X4_value arI_a arI_a_n arK_a_n la_code la_code_n (n + 1)) y0 y1 y2 = B_X4_value_5   (G_X4_value arI_a arI_a_n arK_a_n la_code la_code_n n) arI_a arI_a_n arK_a_n la_code la_code_n y0 y1 y2 := rfl
theorem zg0_G_X3_landsHeeded (h_la : Nat)  (court_shoeCount : Int32) (court_claimCount : Int32) (court_suitCount : Int32) (court_laws : Nat → Option Nat) (inq_day : Int32) (inq_shoeLeftOut : Int32) (la_code : Nat → Int32) (la_code_n : Nat) (n : Nat) (y0 : Int32) (y1 : Int32) (y2 : Int32) (y3 : (Nat → Int32)) (y4 : (Nat → Int32)) : (G_X3_landsHeeded h_la court_shoeCount court_claimCount court_suitCount court_laws inq_day inq_shoeLeftOut la_code la_code_n (n + 1)) y0 y1 y2 y3 y4 = B_X3_landsHeeded_38 h_la  (G_X3_landsHeeded h_la court_shoeCount court_claimCount court_suitCount court_laws inq_day inq_shoeLeftOut la_code la_code_n n) court_shoeCount court_claimCount court_suitCount court_laws inq_day inq_shoeLeftOut la_code la_code_n y0 y1 y2 y3 y4 := rfl
theorem zg0_G_X11_ring (h_la : Nat)  (court_shoeCount : Int32) (court_claimCount : Int32) (court_suitCount : Int32) (court_laws : Nat → Option Nat) (inq_day : Int32) (inq_shoeLeftOut : Int32) (la_code : Nat → Int32) (la_code_n : Nat) (n : Nat) (y0 : Int32) (y1 : Int32) (y2 : (Nat → Int32)) (y3 : Int32) (y4 : (Nat → Int32)) (y5 : (Nat → Int32)) : (G_X11_ring h_la court_shoeCount court_claimCount court_suitCount court_laws inq_day inq_shoeLeftOut la_code la_code_n (n + 1)).1 y0 y1 y2 y3 y4 y5 = B_X11_ring_11 h_la  (G_X11_ring h_la court_shoeCount court_claimCount court_suitCount court_laws inq_day inq_shoeLeftOut la_code la_code_n n).1 (G_X11_ring h_la court_shoeCount court_claimCount court_suitCount court_laws inq_day inq_shoeLeftOut la_code la_code_n n).2 court_shoeCount court_claimCount court_suitCount court_laws inq_day inq_shoeLeftOut la_code la_code_n y0 y1 y2 y3 y4 y5 := rfl
theorem zg1_G_X11_ring (h_la : Nat)  (court_shoeCount : Int32) (court_claimCount : Int32) (court_suitCount : Int32) (court_laws : Nat → Option Nat) (inq_day : Int32) (inq_shoeLeftOut : Int32) (la_code : Nat → Int32) (la_code_n : Nat) (n : Nat) (y0 : Int32) (y1 : Int32) (y2 : (Nat → Int32)) (y3 : Int32) (y4 : (Nat → Int32)) (y5 : (Nat → Int32)) : (G_X11_ring h_la court_shoeCount court_claimCount court_suitCount court_laws inq_day inq_shoeLeftOut la_code la_code_n (n + 1)).2 y0 y1 y2 y3 y4 y5 = B_X11_ring_39 h_la  (G_X11_ring h_la court_shoeCount court_claimCount court_suitCount court_laws inq_day inq_shoeLeftOut la_code la_code_n n).1 (G_X11_ring h_la court_shoeCount court_claimCount court_suitCount court_laws inq_day inq_shoeLeftOut la_code la_code_n n).2 court_shoeCount court_claimCount court_suitCount court_laws inq_day inq_shoeLeftOut la_code la_code_n y0 y1 y2 y3 y4 y5 := rfl
theorem zq_val (names stack code : Nat → Int32) (h0 : code 0 = 32) (h1 : code 1 = 2) : f_X4_value 4000 names 11 stack 36 code 2 = some (1, upd stack 0 1) := by
  have e0 : code (0 : Int32).toNatClampNeg = 32 := h0
  have e1 : code ((0 : Int32) + 1).toNatClampNeg = 2 := h1
  have k0 : (32 : Int32) &&& 31 = 0 := by decide
  have k1 : (32 : Int32) >>> ((5 : Int32) &&& 31) = 1 := by decide
  have k2 : (2 : Int32) &&& 31 = 2 := by decide
  have k3 : (2 : Int32) >>> ((5 : Int32) &&& 31) = 0 := by decide
  have key : ∀ n : Nat, (G_X4_value names 11 36 code 2 (n + 1 + 1)) 0 0 stack = some (1, upd stack 0 1) := by
    intro n
    rw [zg0_G_X4_value]
    unfold B_X4_value_5
    rw [if_neg (by decide), if_neg (by decide), e0, k0, zk_letE, if_neg (by decide), k1, zk_letE, if_neg (by decide), if_pos (by decide), if_pos (by decide)]
    unfold B_X4_value_79 B_X4_value_214
    rw [if_neg (by decide), zk_letE, zk_letE, zk_letE, zg0_G_X4_value]
    unfold B_X4_value_5
    rw [if_neg (by decide), if_neg (by decide), e1, k2, zk_letE, if_neg (by decide), k3, zk_letE, if_pos (by decide), if_pos (by decide), if_pos (by decide), if_neg (by decide)]
    rfl
  unfold f_X4_value B_X4_value_0
  exact key 3998
theorem zq_lg {h : Nat} {g : Nat → Option Nat} {land d s : Int32} (names stack code : Nat → Int32) (h0 : code 0 = 32) (h1 : code 1 = 2) (b1 : ¬ ((((3 : Int32) * 8) + land) < 0 ∨ 32 ≤ (((3 : Int32) * 8) + land).toNatClampNeg)) (b2 : g (((3 : Int32) * 8) + land).toNatClampNeg = some h) : f_X3_lawGives h 3 0 0 0 g d land s names stack code 2 = some (1, upd stack 0 1) := by
  unfold f_X3_lawGives B_X3_lawGives_0
  rw [if_neg b1, if_neg (fun n => n b2), zq_val names stack code h0 h1, zk_b2E, Option.bind_some]
theorem zq_st {h : Nat} {g : Nat → Option Nat} {land d s : Int32} (code : Nat → Int32) (h0 : code 0 = 32) (h1 : code 1 = 2) (b1 : ¬ ((((3 : Int32) * 8) + land) < 0 ∨ 32 ≤ (((3 : Int32) * 8) + land).toNatClampNeg)) (b2 : g (((3 : Int32) * 8) + land).toNatClampNeg = some h) (n : Nat) (x2 x3 : Int32) (hx : ¬ (8 : Int32) ≤ x3) (y2 y3 : Int32) (e2 : x2 ||| ((1 : Int32) <<< (x3 &&& 31)) = y2) (e3 : x3 + 1 = y3) (names stack : Nat → Int32) : ∃ N S, (G_X3_landsHeeded h 0 0 0 g d s code 2 (n + 1)) x2 x3 land names stack = (G_X3_landsHeeded h 0 0 0 g d s code 2 n) y2 y3 land N S := by
  refine ⟨upd names (3 : Int32).toNatClampNeg x3, upd stack 0 1, ?_⟩
  rw [zg0_G_X3_landsHeeded]
  unfold B_X3_landsHeeded_38
  rw [if_neg hx, zk_letE, zq_lg (upd names (3 : Int32).toNatClampNeg x3) stack code h0 h1 b1 b2, zk_b2E, Option.bind_some]
  rw [if_neg (show ¬ ((1 : Int32) = 0) by decide)]
  unfold B_X3_landsHeeded_67
  rw [zk_letE, zk_letE, e2, e3]
theorem zq_fill (names : Nat → Int32) : ∃ u, f_J7_fill_53178 4000 0 names 11 = some u := ⟨_, rfl⟩
theorem zq_he {h : Nat} {g : Nat → Option Nat} {land d s : Int32} (code : Nat → Int32) (h0 : code 0 = 32) (h1 : code 1 = 2) (b1 : ¬ ((((3 : Int32) * 8) + land) < 0 ∨ 32 ≤ (((3 : Int32) * 8) + land).toNatClampNeg)) (b2 : g (((3 : Int32) * 8) + land).toNatClampNeg = some h) (l0 : Int32) (names stack : Nat → Int32) : ∃ N S, f_X3_landsHeeded h 4000 land 0 0 0 g d l0 s names stack code 2 = some (255, land, N, S) := by
  obtain ⟨u, hu⟩ := zq_fill names
  have st := zq_st (h := h) (g := g) (land := land) (s := s) (d := d) code h0 h1 b1 b2
  obtain ⟨N1, S1, q1⟩ := st 3999 0 0 (by decide) 1 1 (by decide) (by decide) (upd (upd (upd u (0 : Int32).toNatClampNeg 1) (1 : Int32).toNatClampNeg 1) (4 : Int32).toNatClampNeg land) stack
  obtain ⟨N2, S2, q2⟩ := st 3998 1 1 (by decide) 3 2 (by decide) (by decide) N1 S1
  obtain ⟨N3, S3, q3⟩ := st 3997 3 2 (by decide) 7 3 (by decide) (by decide) N2 S2
  obtain ⟨N4, S4, q4⟩ := st 3996 7 3 (by decide) 15 4 (by decide) (by decide) N3 S3
  obtain ⟨N5, S5, q5⟩ := st 3995 15 4 (by decide) 31 5 (by decide) (by decide) N4 S4
  obtain ⟨N6, S6, q6⟩ := st 3994 31 5 (by decide) 63 6 (by decide) (by decide) N5 S5
  obtain ⟨N7, S7, q7⟩ := st 3993 63 6 (by decide) 127 7 (by decide) (by decide) N6 S6
  obtain ⟨N8, S8, q8⟩ := st 3992 127 7 (by decide) 255 8 (by decide) (by decide) N7 S7
  refine ⟨N8, S8, ?_⟩
  unfold f_X3_landsHeeded B_X3_landsHeeded_0
  rw [hu, zk_b1E, Option.bind_some, zk_letE, zk_letE, zk_letE]
  refine Eq.trans (Eq.trans q1 (Eq.trans q2 (Eq.trans q3 (Eq.trans q4 (Eq.trans q5 (Eq.trans q6 (Eq.trans q7 q8))))))) ?_
  show (G_X3_landsHeeded h 0 0 0 g d s code 2 (3991 + 1)) 255 8 land N8 S8 = _
  rw [zg0_G_X3_landsHeeded]
  unfold B_X3_landsHeeded_38
  rw [if_pos (by decide)]
theorem zq_r {h : Nat} {g : Nat → Option Nat} {d s : Int32} (code : Nat → Int32) (h0 : code 0 = 32) (h1 : code 1 = 2) (n : Nat) (x1 x2 y2 : Int32) (hx : ¬ (8 : Int32) ≤ x2) (hb : ¬ (x2 < 0 ∨ 8 ≤ x2.toNatClampNeg)) (e : x2 + 1 = y2) (b1 : ¬ ((((3 : Int32) * 8) + x2) < 0 ∨ 32 ≤ (((3 : Int32) * 8) + x2).toNatClampNeg)) (b2 : g (((3 : Int32) * 8) + x2).toNatClampNeg = some h) (he : Nat → Int32) (l0 : Int32) (names stack : Nat → Int32) : ∃ L N S, (G_X11_ring h 0 0 0 g d s code 2 (n + 1)).1 x1 x2 he l0 names stack = (G_X11_ring h 0 0 0 g d s code 2 n).1 x1 y2 (upd he x2.toNatClampNeg 255) L N S := by
  obtain ⟨N, S, q⟩ := zq_he (h := h) (g := g) (land := x2) (s := s) (d := d) code h0 h1 b1 b2 l0 names stack
  refine ⟨x2, N, S, ?_⟩
  rw [zg0_G_X11_ring]
  unfold B_X11_ring_11
  rw [if_neg hx, q, zk_b4E, Option.bind_some, if_neg hb, zk_letE, zk_letE, e]
theorem zq_fr : f_X11_firstRing 4000 2 (upd (upd (upd (upd (upd (upd (upd (upd (fun _ => 0) (0 : Int32).toNatClampNeg 255) (1 : Int32).toNatClampNeg 255) (2 : Int32).toNatClampNeg 255) (3 : Int32).toNatClampNeg 255) (4 : Int32).toNatClampNeg 255) (5 : Int32).toNatClampNeg 255) (6 : Int32).toNatClampNeg 255) (7 : Int32).toNatClampNeg 255) = some (12, ()) := rfl
theorem zq_ring {h : Nat} {g : Nat → Option Nat} (GF : ∀ t, t < 8 → g (24 + t) = some h) (code : Nat → Int32) (h0 : code 0 = 32) (h1 : code 1 = 2) (x1 : Int32) (names stack : Nat → Int32) : ∃ U, (G_X11_ring h 0 0 0 g 0 0 code 2 4000).1 x1 0 (fun _ => 0) 0 names stack = some (if x1 = 0 then 2 else 12, U) := by
  have st := zq_r (h := h) (g := g) (d := 0) (s := 0) code h0 h1
  obtain ⟨L1, N1, S1, q1⟩ := st 3999 x1 0 1 (by decide) (by decide) (by decide) (by decide) (GF 0 (by decide)) (fun _ => 0) 0 names stack
  obtain ⟨L2, N2, S2, q2⟩ := st 3998 x1 1 2 (by decide) (by decide) (by decide) (by decide) (GF 1 (by decide)) _ L1 N1 S1
  obtain ⟨L3, N3, S3, q3⟩ := st 3997 x1 2 3 (by decide) (by decide) (by decide) (by decide) (GF 2 (by decide)) _ L2 N2 S2
  obtain ⟨L4, N4, S4, q4⟩ := st 3996 x1 3 4 (by decide) (by decide) (by decide) (by decide) (GF 3 (by decide)) _ L3 N3 S3
  obtain ⟨L5, N5, S5, q5⟩ := st 3995 x1 4 5 (by decide) (by decide) (by decide) (by decide) (GF 4 (by decide)) _ L4 N4 S4
  obtain ⟨L6, N6, S6, q6⟩ := st 3994 x1 5 6 (by decide) (by decide) (by decide) (by decide) (GF 5 (by decide)) _ L5 N5 S5
  obtain ⟨L7, N7, S7, q7⟩ := st 3993 x1 6 7 (by decide) (by decide) (by decide) (by decide) (GF 6 (by decide)) _ L6 N6 S6
  obtain ⟨L8, N8, S8, q8⟩ := st 3992 x1 7 8 (by decide) (by decide) (by decide) (by decide) (GF 7 (by decide)) _ L7 N7 S7
  refine ⟨(upd (upd (upd (upd (upd (upd (upd (upd (fun _ => 0) (0 : Int32).toNatClampNeg 255) (1 : Int32).toNatClampNeg 255) (2 : Int32).toNatClampNeg 255) (3 : Int32).toNatClampNeg 255) (4 : Int32).toNatClampNeg 255) (5 : Int32).toNatClampNeg 255) (6 : Int32).toNatClampNeg 255) (7 : Int32).toNatClampNeg 255, L8, N8, S8), Eq.trans (Eq.trans q1 (Eq.trans q2 (Eq.trans q3 (Eq.trans q4 (Eq.trans q5 (Eq.trans q6 (Eq.trans q7 q8))))))) ?_⟩
  show (G_X11_ring h 0 0 0 g 0 0 code 2 (3990 + 1 + 1)).1 x1 8 _ L8 N8 S8 = _
  rw [zg0_G_X11_ring]
  unfold B_X11_ring_11
  rw [if_pos (by decide), zg1_G_X11_ring]
  unfold B_X11_ring_39
  rw [if_neg (by decide), zq_fr, zk_b2E, Option.bind_some, if_neg (show ¬ ((12 : Int32) ≤ 0) by decide)]
  by_cases c : x1 = 0
  · rw [if_pos c, if_pos c]
  · rw [if_neg c, if_neg c]

set_option maxHeartbeats 4000000 in
set_option maxRecDepth 100000 in
theorem pe_ring {g pf : Nat → Option Nat} {ae : Nat → Nat} {wb : Nat} (GF : ∀ t, t < 8 → g (24 + t) = some (ae 0)) (PF : ∀ j, j < 6 → pf j = some (ae (2 + 2 * j))) (a0 : Int32) : ∃ R1 R2, f_X11_ring (ae 0) 4000 a0 (fun _ => 0) 0 0 0 g 0 0 0 (fun _ => 0) (fun _ => 0) (va_cpy zr_3.2.2.2.2 (fun _ => 0) 0 0 2) 2 = some R1 ∧ f_X12_ring  4000 a0 0 0 0 0 0 0 0 0 0 0 0 0 0 0 0 0 0 ((fun _ => 0)) ((fun _ => 0)) ((fun _ => 0)) ((fun _ => 0)) ((fun _ => 0)) ((fun _ => 0)) ((fun _ => 0)) = some R2 ∧ R1.1 = R2.1 := by
  obtain ⟨h0, h1⟩ := zrc_3
  generalize va_cpy zr_3.2.2.2.2 (fun _ => 0) 0 0 2 = code at h0 h1 ⊢
  obtain ⟨U, hU⟩ := zq_ring GF code h0 h1 a0 (fun _ => 0) (fun _ => 0)
  rcases zk_c2 a0 with rfl | rfl | hn
  · refine ⟨_, _, hU, rfl, rfl⟩
  · refine ⟨_, _, hU, rfl, rfl⟩
  · have k1 : f_X11_isChoice a0 = some (0, ()) := by
      unfold f_X11_isChoice B_X11_isChoice_0
      rw [if_neg hn.1, if_neg hn.2]
    have k2 : ¬ (0 ≤ a0 ∧ a0 ≤ 1) := by
      obtain ⟨n0, n1⟩ := hn
      simp only [zs_01, zs_cl, Int32.lt_iff_toInt_lt, Int32.le_iff_toInt_le, ← Int32.toInt_inj, zt_m2000000000, zt_m100, zt_m15, zt_m14, zt_m13, zt_m12, zt_m11, zt_m10, zt_m9, zt_m8, zt_m7, zt_m6, zt_m5, zt_m4, zt_m3, zt_m2, zt_m1, zt_0, zt_1, zt_2, zt_3, zt_4, zt_5, zt_6, zt_7, zt_8, zt_9, zt_10, zt_11, zt_12, zt_13, zt_14, zt_15, zt_16, zt_17, zt_18, zt_19, zt_20, zt_21, zt_22, zt_23, zt_24, zt_25, zt_26, zt_27, zt_28, zt_29, zt_30, zt_31, zt_32, zt_33, zt_34, zt_35, zt_36, zt_37, zt_38, zt_39, zt_40, zt_41, zt_42, zt_43, zt_44, zt_45, zt_46, zt_47, zt_48, zt_49, zt_50, zt_51, zt_52, zt_53, zt_54, zt_55, zt_56, zt_57, zt_58, zt_59, zt_60, zt_61, zt_62, zt_63, zt_64, zt_65, zt_66, zt_67, zt_68, zt_69, zt_81, zt_82, zt_99, zt_100, zt_120, zt_1000, zt_9999, zt_10000] at *
      omega
    refine ⟨(-1, (fun _ => 0, 0, fun _ => 0, fun _ => 0)), (-1, (0, fun _ => 0, fun _ => 0)), ?_, ?_, rfl⟩
    · unfold f_X11_ring B_X11_ring_0
      rw [k1, zk_b2E, Option.bind_some, if_pos rfl]
    · unfold f_X12_ring B_X12_ring_0
      rw [zi_in, if_neg k2, zk_b2E, Option.bind_some, if_pos rfl]
set_option maxHeartbeats 4000000 in
set_option maxRecDepth 100000 in
theorem pe_hangs {g pf : Nat → Option Nat} {ae : Nat → Nat} {wb : Nat} (GF : ∀ t, t < 8 → g (24 + t) = some (ae 0)) (PF : ∀ j, j < 6 → pf j = some (ae (2 + 2 * j))) (a0 : Int32) (a1 : Int32) (a2 : Int32) : ∃ R1 R2, f_X11_hangs  a0 a1 a2 0 0 0 (fun _ => 0) (fun _ => 0) 0 0 0 (fun _ => 0) (fun _ => 0) (fun _ => 0) (fun _ => 0) (fun _ => 0) = some R1 ∧ f_X12_hangs  4000 a0 a1 a2 0 0 0 0 0 0 0 0 0 0 0 0 0 0 0 0 0 ((fun _ => 0)) ((fun _ => 0)) ((fun _ => 0)) ((fun _ => 0)) ((fun _ => 0)) ((fun _ => 0)) ((fun _ => 0)) ((fun _ => 0)) ((fun _ => 0)) ((fun _ => 0)) ((fun _ => 0)) ((fun _ => 0)) ((fun _ => 0)) ((fun _ => 0)) ((fun _ => 0)) ((fun _ => 0)) ((fun _ => 0)) ((fun _ => 0)) ((fun _ => 0)) ((fun _ => 0)) ((fun _ => 0)) ((fun _ => 0)) ((fun _ => 0)) ((fun _ => 0)) ((fun _ => 0)) ((fun _ => 0)) ((fun _ => 0)) = some R2 ∧ R1.1 = R2.1 := by
  refine zk_go ?_
  clear GF PF
  simp only [f_X11_hangs, B_X11_hangs_0, f_X11_isClaimOf, B_X11_isClaimOf_0, f_X11_isClaim, B_X11_isClaim_0, B_X11_isClaimOf_20, f_X11_isPair, B_X11_isPair_0, f_X11_isWhen, B_X11_isWhen_0, f_X11_isDay, B_X11_isDay_0, f_X11_isLand, B_X11_isLand_0, zk_b2, zk_b3, zk_b4, zk_b5, zk_b6, zk_let]
  repeat' (first
    | (with_reducible refine zk_kI ?_; first | rfl | decide | (simp only [f_X12_hangs, B_X12_hangs_0, f_X12_isAsk, B_X12_isAsk_0, f_X12_isClaim, B_X12_isClaim_0, f_X12_in, B_X12_in_0, B_X12_isAsk_20, f_X12_isWhen, B_X12_isWhen_0, f_X12_isDay, B_X12_isDay_0, f_X12_isLand, B_X12_isLand_0, f_X12_isPair, B_X12_isPair_0, f_X12_sideBy, B_X12_sideBy_0, f_X12_sideOn, B_X12_sideOn_0, B_X12_hangs_68, zk_b2, zk_b3, zk_b4, zk_b5, zk_b6, zk_let]; done) | (simp only [f_X12_hangs, B_X12_hangs_0, f_X12_isAsk, B_X12_isAsk_0, f_X12_isClaim, B_X12_isClaim_0, f_X12_in, B_X12_in_0, B_X12_isAsk_20, f_X12_isWhen, B_X12_isWhen_0, f_X12_isDay, B_X12_isDay_0, f_X12_isLand, B_X12_isLand_0, f_X12_isPair, B_X12_isPair_0, f_X12_sideBy, B_X12_sideBy_0, f_X12_sideOn, B_X12_sideOn_0, B_X12_hangs_68, zk_b2, zk_b3, zk_b4, zk_b5, zk_b6, zk_let]; with_reducible refine (?_ : zk_k _ _)) | with_reducible refine (?_ : zk_k _ _))
    | with_reducible refine zk_iteT (by assumption) ?_
    | with_reducible refine zk_iteF (by assumption) ?_
    | with_reducible refine zk_iteN (by assumption) ?_
    | with_reducible refine zk_iteT (by decide) ?_
    | with_reducible refine zk_iteF (by decide) ?_
    | with_reducible refine zk_biteT (by assumption) ?_
    | with_reducible refine zk_biteF (by assumption) ?_
    | with_reducible refine zk_biteN (by assumption) ?_
    | with_reducible refine zk_biteT (by decide) ?_
    | with_reducible refine zk_biteF (by decide) ?_
    | (with_reducible refine zk_bs ?_; try dsimp only)
    | with_reducible refine zk_bas ?_
    | with_reducible refine zk_ite (fun _ => ?_) (fun _ => ?_)
    | with_reducible refine zk_bite (fun _ => ?_) (fun _ => ?_)
    | (simp only [Option.bind_some, Option.bind_none, ↓reduceIte, reduceIte, eq_self, Bool.false_eq_true, or_true, true_or, or_false, false_or, or_self, and_true, true_and, and_false, false_and, not_true_eq_false, not_false_eq_true])
    | (exfalso; simp only [zs_01, zs_cl, Int32.lt_iff_toInt_lt, Int32.le_iff_toInt_le, ← Int32.toInt_inj, zt_m2000000000, zt_m100, zt_m15, zt_m14, zt_m13, zt_m12, zt_m11, zt_m10, zt_m9, zt_m8, zt_m7, zt_m6, zt_m5, zt_m4, zt_m3, zt_m2, zt_m1, zt_0, zt_1, zt_2, zt_3, zt_4, zt_5, zt_6, zt_7, zt_8, zt_9, zt_10, zt_11, zt_12, zt_13, zt_14, zt_15, zt_16, zt_17, zt_18, zt_19, zt_20, zt_21, zt_22, zt_23, zt_24, zt_25, zt_26, zt_27, zt_28, zt_29, zt_30, zt_31, zt_32, zt_33, zt_34, zt_35, zt_36, zt_37, zt_38, zt_39, zt_40, zt_41, zt_42, zt_43, zt_44, zt_45, zt_46, zt_47, zt_48, zt_49, zt_50, zt_51, zt_52, zt_53, zt_54, zt_55, zt_56, zt_57, zt_58, zt_59, zt_60, zt_61, zt_62, zt_63, zt_64, zt_65, zt_66, zt_67, zt_68, zt_69, zt_81, zt_82, zt_99, zt_100, zt_120, zt_1000, zt_9999, zt_10000] at *; omega)
    | (refine zk_bsE rfl ?_; try dsimp only)
    | (refine zk_kI ?_; first | rfl | decide | (simp only [f_X12_hangs, B_X12_hangs_0, f_X12_isAsk, B_X12_isAsk_0, f_X12_isClaim, B_X12_isClaim_0, f_X12_in, B_X12_in_0, B_X12_isAsk_20, f_X12_isWhen, B_X12_isWhen_0, f_X12_isDay, B_X12_isDay_0, f_X12_isLand, B_X12_isLand_0, f_X12_isPair, B_X12_isPair_0, f_X12_sideBy, B_X12_sideBy_0, f_X12_sideOn, B_X12_sideOn_0, B_X12_hangs_68, zk_b2, zk_b3, zk_b4, zk_b5, zk_b6, zk_let]; with_reducible refine (?_ : zk_k _ _))))
set_option maxHeartbeats 4000000 in
set_option maxRecDepth 100000 in
theorem pe_need {g pf : Nat → Option Nat} {ae : Nat → Nat} {wb : Nat} (GF : ∀ t, t < 8 → g (24 + t) = some (ae 0)) (PF : ∀ j, j < 6 → pf j = some (ae (2 + 2 * j))) (a0 : Int32) (a1 : Int32) (a2 : Int32) : ∃ R1 R2, f_X11_need  4000 a0 a1 a2 0 0 0 (fun _ => 0) (fun _ => 0) 0 0 0 (fun _ => 0) (fun _ => 0) (fun _ => 0) (fun _ => 0) (fun _ => 0) = some R1 ∧ f_X12_need  4000 a0 a1 a2 0 0 0 0 0 0 0 0 0 0 0 0 0 0 0 0 0 ((fun _ => 0)) ((fun _ => 0)) ((fun _ => 0)) ((fun _ => 0)) ((fun _ => 0)) ((fun _ => 0)) ((fun _ => 0)) ((fun _ => 0)) ((fun _ => 0)) ((fun _ => 0)) ((fun _ => 0)) ((fun _ => 0)) ((fun _ => 0)) ((fun _ => 0)) ((fun _ => 0)) ((fun _ => 0)) ((fun _ => 0)) ((fun _ => 0)) ((fun _ => 0)) ((fun _ => 0)) ((fun _ => 0)) = some R2 ∧ R1.1 = R2.1 := by
  refine zk_go ?_
  clear GF PF
  simp only [f_X11_need, B_X11_need_0, f_X11_isPoint, B_X11_isPoint_0, f_X11_isPair, B_X11_isPair_0, f_X11_isWhen, B_X11_isWhen_0, f_X11_isDay, B_X11_isDay_0, f_X11_isLand, B_X11_isLand_0, B_X11_need_69, zk_b2, zk_b3, zk_b4, zk_b5, zk_b6, zk_let]
  repeat' (first
    | (with_reducible refine zk_kI ?_; first | rfl | decide | (simp only [f_X12_need, B_X12_need_0, f_X12_isPoint, B_X12_isPoint_0, f_X12_in, B_X12_in_0, f_X12_isPair, B_X12_isPair_0, f_X12_isWhen, B_X12_isWhen_0, f_X12_isDay, B_X12_isDay_0, f_X12_isLand, B_X12_isLand_0, B_X12_need_70, zk_b2, zk_b3, zk_b4, zk_b5, zk_b6, zk_let]; done) | (simp only [f_X12_need, B_X12_need_0, f_X12_isPoint, B_X12_isPoint_0, f_X12_in, B_X12_in_0, f_X12_isPair, B_X12_isPair_0, f_X12_isWhen, B_X12_isWhen_0, f_X12_isDay, B_X12_isDay_0, f_X12_isLand, B_X12_isLand_0, B_X12_need_70, zk_b2, zk_b3, zk_b4, zk_b5, zk_b6, zk_let]; with_reducible refine (?_ : zk_k _ _)) | with_reducible refine (?_ : zk_k _ _))
    | with_reducible refine zk_iteT (by assumption) ?_
    | with_reducible refine zk_iteF (by assumption) ?_
    | with_reducible refine zk_iteN (by assumption) ?_
    | with_reducible refine zk_iteT (by decide) ?_
    | with_reducible refine zk_iteF (by decide) ?_
    | with_reducible refine zk_biteT (by assumption) ?_
    | with_reducible refine zk_biteF (by assumption) ?_
    | with_reducible refine zk_biteN (by assumption) ?_
    | with_reducible refine zk_biteT (by decide) ?_
    | with_reducible refine zk_biteF (by decide) ?_
    | (with_reducible refine zk_bs ?_; try dsimp only)
    | with_reducible refine zk_bas ?_
    | with_reducible refine zk_ite (fun _ => ?_) (fun _ => ?_)
    | with_reducible refine zk_bite (fun _ => ?_) (fun _ => ?_)
    | (simp only [Option.bind_some, Option.bind_none, ↓reduceIte, reduceIte, eq_self, Bool.false_eq_true, or_true, true_or, or_false, false_or, or_self, and_true, true_and, and_false, false_and, not_true_eq_false, not_false_eq_true])
    | (exfalso; simp only [zs_01, zs_cl, Int32.lt_iff_toInt_lt, Int32.le_iff_toInt_le, ← Int32.toInt_inj, zt_m2000000000, zt_m100, zt_m15, zt_m14, zt_m13, zt_m12, zt_m11, zt_m10, zt_m9, zt_m8, zt_m7, zt_m6, zt_m5, zt_m4, zt_m3, zt_m2, zt_m1, zt_0, zt_1, zt_2, zt_3, zt_4, zt_5, zt_6, zt_7, zt_8, zt_9, zt_10, zt_11, zt_12, zt_13, zt_14, zt_15, zt_16, zt_17, zt_18, zt_19, zt_20, zt_21, zt_22, zt_23, zt_24, zt_25, zt_26, zt_27, zt_28, zt_29, zt_30, zt_31, zt_32, zt_33, zt_34, zt_35, zt_36, zt_37, zt_38, zt_39, zt_40, zt_41, zt_42, zt_43, zt_44, zt_45, zt_46, zt_47, zt_48, zt_49, zt_50, zt_51, zt_52, zt_53, zt_54, zt_55, zt_56, zt_57, zt_58, zt_59, zt_60, zt_61, zt_62, zt_63, zt_64, zt_65, zt_66, zt_67, zt_68, zt_69, zt_81, zt_82, zt_99, zt_100, zt_120, zt_1000, zt_9999, zt_10000] at *; omega)
    | (refine zk_bsE rfl ?_; try dsimp only)
    | (refine zk_kI ?_; first | rfl | decide | (simp only [f_X12_need, B_X12_need_0, f_X12_isPoint, B_X12_isPoint_0, f_X12_in, B_X12_in_0, f_X12_isPair, B_X12_isPair_0, f_X12_isWhen, B_X12_isWhen_0, f_X12_isDay, B_X12_isDay_0, f_X12_isLand, B_X12_isLand_0, B_X12_need_70, zk_b2, zk_b3, zk_b4, zk_b5, zk_b6, zk_let]; with_reducible refine (?_ : zk_k _ _))))
set_option maxHeartbeats 4000000 in
set_option maxRecDepth 100000 in
theorem pe_undo {g pf : Nat → Option Nat} {ae : Nat → Nat} {wb : Nat} (GF : ∀ t, t < 8 → g (24 + t) = some (ae 0)) (PF : ∀ j, j < 6 → pf j = some (ae (2 + 2 * j)))  : ∃ R1 R2, f_X11_undo   0 0 (fun _ => 0) (fun _ => 0) (fun _ => 0) = some R1 ∧ f_X12_undo   0 0 0 0 0 0 0 0 0 0 0 0 0 0 0 0 0 ((fun _ => 0)) ((fun _ => 0)) ((fun _ => 0)) ((fun _ => 0)) ((fun _ => 0)) ((fun _ => 0)) = some R2 ∧ R1.1 = R2.1 := by
  refine zk_go ?_
  clear GF PF
  simp only [f_X11_undo, B_X11_undo_0, f_X1_back, B_X1_back_0, zk_b2, zk_b3, zk_b4, zk_b5, zk_b6, zk_let]
  repeat' (first
    | (with_reducible refine zk_kI ?_; first | rfl | decide | (simp only [f_X12_undo, B_X12_undo_0, zk_b2, zk_b3, zk_b4, zk_b5, zk_b6, zk_let]; done) | (simp only [f_X12_undo, B_X12_undo_0, zk_b2, zk_b3, zk_b4, zk_b5, zk_b6, zk_let]; with_reducible refine (?_ : zk_k _ _)) | with_reducible refine (?_ : zk_k _ _))
    | with_reducible refine zk_iteT (by assumption) ?_
    | with_reducible refine zk_iteF (by assumption) ?_
    | with_reducible refine zk_iteN (by assumption) ?_
    | with_reducible refine zk_iteT (by decide) ?_
    | with_reducible refine zk_iteF (by decide) ?_
    | with_reducible refine zk_biteT (by assumption) ?_
    | with_reducible refine zk_biteF (by assumption) ?_
    | with_reducible refine zk_biteN (by assumption) ?_
    | with_reducible refine zk_biteT (by decide) ?_
    | with_reducible refine zk_biteF (by decide) ?_
    | (with_reducible refine zk_bs ?_; try dsimp only)
    | with_reducible refine zk_bas ?_
    | with_reducible refine zk_ite (fun _ => ?_) (fun _ => ?_)
    | with_reducible refine zk_bite (fun _ => ?_) (fun _ => ?_)
    | (simp only [Option.bind_some, Option.bind_none, ↓reduceIte, reduceIte, eq_self, Bool.false_eq_true, or_true, true_or, or_false, false_or, or_self, and_true, true_and, and_false, false_and, not_true_eq_false, not_false_eq_true])
    | (exfalso; simp only [zs_01, zs_cl, Int32.lt_iff_toInt_lt, Int32.le_iff_toInt_le, ← Int32.toInt_inj, zt_m2000000000, zt_m100, zt_m15, zt_m14, zt_m13, zt_m12, zt_m11, zt_m10, zt_m9, zt_m8, zt_m7, zt_m6, zt_m5, zt_m4, zt_m3, zt_m2, zt_m1, zt_0, zt_1, zt_2, zt_3, zt_4, zt_5, zt_6, zt_7, zt_8, zt_9, zt_10, zt_11, zt_12, zt_13, zt_14, zt_15, zt_16, zt_17, zt_18, zt_19, zt_20, zt_21, zt_22, zt_23, zt_24, zt_25, zt_26, zt_27, zt_28, zt_29, zt_30, zt_31, zt_32, zt_33, zt_34, zt_35, zt_36, zt_37, zt_38, zt_39, zt_40, zt_41, zt_42, zt_43, zt_44, zt_45, zt_46, zt_47, zt_48, zt_49, zt_50, zt_51, zt_52, zt_53, zt_54, zt_55, zt_56, zt_57, zt_58, zt_59, zt_60, zt_61, zt_62, zt_63, zt_64, zt_65, zt_66, zt_67, zt_68, zt_69, zt_81, zt_82, zt_99, zt_100, zt_120, zt_1000, zt_9999, zt_10000] at *; omega)
    | (refine zk_bsE rfl ?_; try dsimp only)
    | (refine zk_kI ?_; first | rfl | decide | (simp only [f_X12_undo, B_X12_undo_0, zk_b2, zk_b3, zk_b4, zk_b5, zk_b6, zk_let]; with_reducible refine (?_ : zk_k _ _))))
set_option maxHeartbeats 4000000 in
set_option maxRecDepth 100000 in
theorem pe_redo {g pf : Nat → Option Nat} {ae : Nat → Nat} {wb : Nat} (GF : ∀ t, t < 8 → g (24 + t) = some (ae 0)) (PF : ∀ j, j < 6 → pf j = some (ae (2 + 2 * j)))  : ∃ R1 R2, f_X11_redo   0 0 (fun _ => 0) (fun _ => 0) (fun _ => 0) = some R1 ∧ f_X12_redo   0 0 0 0 0 0 0 0 0 0 0 0 0 0 0 0 0 ((fun _ => 0)) ((fun _ => 0)) ((fun _ => 0)) ((fun _ => 0)) ((fun _ => 0)) ((fun _ => 0)) = some R2 ∧ R1.1 = R2.1 := by
  refine zk_go ?_
  clear GF PF
  simp only [f_X11_redo, B_X11_redo_0, f_X1_again, B_X1_again_0, zk_b2, zk_b3, zk_b4, zk_b5, zk_b6, zk_let]
  repeat' (first
    | (with_reducible refine zk_kI ?_; first | rfl | decide | (simp only [f_X12_redo, B_X12_redo_0, zk_b2, zk_b3, zk_b4, zk_b5, zk_b6, zk_let]; done) | (simp only [f_X12_redo, B_X12_redo_0, zk_b2, zk_b3, zk_b4, zk_b5, zk_b6, zk_let]; with_reducible refine (?_ : zk_k _ _)) | with_reducible refine (?_ : zk_k _ _))
    | with_reducible refine zk_iteT (by assumption) ?_
    | with_reducible refine zk_iteF (by assumption) ?_
    | with_reducible refine zk_iteN (by assumption) ?_
    | with_reducible refine zk_iteT (by decide) ?_
    | with_reducible refine zk_iteF (by decide) ?_
    | with_reducible refine zk_biteT (by assumption) ?_
    | with_reducible refine zk_biteF (by assumption) ?_
    | with_reducible refine zk_biteN (by assumption) ?_
    | with_reducible refine zk_biteT (by decide) ?_
    | with_reducible refine zk_biteF (by decide) ?_
    | (with_reducible refine zk_bs ?_; try dsimp only)
    | with_reducible refine zk_bas ?_
    | with_reducible refine zk_ite (fun _ => ?_) (fun _ => ?_)
    | with_reducible refine zk_bite (fun _ => ?_) (fun _ => ?_)
    | (simp only [Option.bind_some, Option.bind_none, ↓reduceIte, reduceIte, eq_self, Bool.false_eq_true, or_true, true_or, or_false, false_or, or_self, and_true, true_and, and_false, false_and, not_true_eq_false, not_false_eq_true])
    | (exfalso; simp only [zs_01, zs_cl, Int32.lt_iff_toInt_lt, Int32.le_iff_toInt_le, ← Int32.toInt_inj, zt_m2000000000, zt_m100, zt_m15, zt_m14, zt_m13, zt_m12, zt_m11, zt_m10, zt_m9, zt_m8, zt_m7, zt_m6, zt_m5, zt_m4, zt_m3, zt_m2, zt_m1, zt_0, zt_1, zt_2, zt_3, zt_4, zt_5, zt_6, zt_7, zt_8, zt_9, zt_10, zt_11, zt_12, zt_13, zt_14, zt_15, zt_16, zt_17, zt_18, zt_19, zt_20, zt_21, zt_22, zt_23, zt_24, zt_25, zt_26, zt_27, zt_28, zt_29, zt_30, zt_31, zt_32, zt_33, zt_34, zt_35, zt_36, zt_37, zt_38, zt_39, zt_40, zt_41, zt_42, zt_43, zt_44, zt_45, zt_46, zt_47, zt_48, zt_49, zt_50, zt_51, zt_52, zt_53, zt_54, zt_55, zt_56, zt_57, zt_58, zt_59, zt_60, zt_61, zt_62, zt_63, zt_64, zt_65, zt_66, zt_67, zt_68, zt_69, zt_81, zt_82, zt_99, zt_100, zt_120, zt_1000, zt_9999, zt_10000] at *; omega)
    | (refine zk_bsE rfl ?_; try dsimp only)
    | (refine zk_kI ?_; first | rfl | decide | (simp only [f_X12_redo, B_X12_redo_0, zk_b2, zk_b3, zk_b4, zk_b5, zk_b6, zk_let]; with_reducible refine (?_ : zk_k _ _))))
set_option maxHeartbeats 4000000 in
set_option maxRecDepth 100000 in
theorem pe_act {g pf : Nat → Option Nat} {ae : Nat → Nat} {wb : Nat} (GF : ∀ t, t < 8 → g (24 + t) = some (ae 0)) (PF : ∀ j, j < 6 → pf j = some (ae (2 + 2 * j))) (a0 : Int32) (a1 : Int32) (a2 : Int32) : ∃ R1 R2, f_X11_act  a0 a1 a2 0 0 0 0 0 0 0 = some R1 ∧ f_X12_act  a0 a1 a2 0 0 0 0 0 0 0 0 0 0 0 0 0 0 0 0 0 ((fun _ => 0)) ((fun _ => 0)) ((fun _ => 0)) ((fun _ => 0)) = some R2 ∧ R1.1 = R2.1 := by
  refine zk_go ?_
  clear GF PF
  simp only [f_X11_act, B_X11_act_0, f_X2_suitAt, B_X2_suitAt_0, zk_b2, zk_b3, zk_b4, zk_b5, zk_b6, zk_let]
  repeat' (first
    | (with_reducible refine zk_kI ?_; first | rfl | decide | (simp only [f_X12_act, B_X12_act_0, f_X12_isSuit, B_X12_isSuit_0, f_X12_in, B_X12_in_0, zk_b2, zk_b3, zk_b4, zk_b5, zk_b6, zk_let]; done) | (simp only [f_X12_act, B_X12_act_0, f_X12_isSuit, B_X12_isSuit_0, f_X12_in, B_X12_in_0, zk_b2, zk_b3, zk_b4, zk_b5, zk_b6, zk_let]; with_reducible refine (?_ : zk_k _ _)) | with_reducible refine (?_ : zk_k _ _))
    | with_reducible refine zk_iteT (by assumption) ?_
    | with_reducible refine zk_iteF (by assumption) ?_
    | with_reducible refine zk_iteN (by assumption) ?_
    | with_reducible refine zk_iteT (by decide) ?_
    | with_reducible refine zk_iteF (by decide) ?_
    | with_reducible refine zk_biteT (by assumption) ?_
    | with_reducible refine zk_biteF (by assumption) ?_
    | with_reducible refine zk_biteN (by assumption) ?_
    | with_reducible refine zk_biteT (by decide) ?_
    | with_reducible refine zk_biteF (by decide) ?_
    | (with_reducible refine zk_bs ?_; try dsimp only)
    | with_reducible refine zk_bas ?_
    | with_reducible refine zk_ite (fun _ => ?_) (fun _ => ?_)
    | with_reducible refine zk_bite (fun _ => ?_) (fun _ => ?_)
    | (simp only [Option.bind_some, Option.bind_none, ↓reduceIte, reduceIte, eq_self, Bool.false_eq_true, or_true, true_or, or_false, false_or, or_self, and_true, true_and, and_false, false_and, not_true_eq_false, not_false_eq_true])
    | (exfalso; simp only [zs_01, zs_cl, Int32.lt_iff_toInt_lt, Int32.le_iff_toInt_le, ← Int32.toInt_inj, zt_m2000000000, zt_m100, zt_m15, zt_m14, zt_m13, zt_m12, zt_m11, zt_m10, zt_m9, zt_m8, zt_m7, zt_m6, zt_m5, zt_m4, zt_m3, zt_m2, zt_m1, zt_0, zt_1, zt_2, zt_3, zt_4, zt_5, zt_6, zt_7, zt_8, zt_9, zt_10, zt_11, zt_12, zt_13, zt_14, zt_15, zt_16, zt_17, zt_18, zt_19, zt_20, zt_21, zt_22, zt_23, zt_24, zt_25, zt_26, zt_27, zt_28, zt_29, zt_30, zt_31, zt_32, zt_33, zt_34, zt_35, zt_36, zt_37, zt_38, zt_39, zt_40, zt_41, zt_42, zt_43, zt_44, zt_45, zt_46, zt_47, zt_48, zt_49, zt_50, zt_51, zt_52, zt_53, zt_54, zt_55, zt_56, zt_57, zt_58, zt_59, zt_60, zt_61, zt_62, zt_63, zt_64, zt_65, zt_66, zt_67, zt_68, zt_69, zt_81, zt_82, zt_99, zt_100, zt_120, zt_1000, zt_9999, zt_10000] at *; omega)
    | (refine zk_bsE rfl ?_; try dsimp only)
    | (refine zk_kI ?_; first | rfl | decide | (simp only [f_X12_act, B_X12_act_0, f_X12_isSuit, B_X12_isSuit_0, f_X12_in, B_X12_in_0, zk_b2, zk_b3, zk_b4, zk_b5, zk_b6, zk_let]; with_reducible refine (?_ : zk_k _ _))))
set_option maxHeartbeats 4000000 in
set_option maxRecDepth 100000 in
theorem pe_trace {g pf : Nat → Option Nat} {ae : Nat → Nat} {wb : Nat} (GF : ∀ t, t < 8 → g (24 + t) = some (ae 0)) (PF : ∀ j, j < 6 → pf j = some (ae (2 + 2 * j))) (a0 : Int32) : ∃ R1 R2, f_X11_trace  a0 0 0 0 0 (fun _ => 0) = some R1 ∧ f_X12_trace  a0 0 0 0 0 0 0 0 0 0 0 0 0 0 0 0 0 0 ((fun _ => 0)) = some R2 ∧ R1.1 = R2.1 := by
  refine zk_go ?_
  clear GF PF
  simp only [f_X11_trace, B_X11_trace_0, zk_b2, zk_b3, zk_b4, zk_b5, zk_b6, zk_let]
  repeat' (first
    | (with_reducible refine zk_kI ?_; first | rfl | decide | (simp only [f_X12_trace, B_X12_trace_0, zk_b2, zk_b3, zk_b4, zk_b5, zk_b6, zk_let]; done) | (simp only [f_X12_trace, B_X12_trace_0, zk_b2, zk_b3, zk_b4, zk_b5, zk_b6, zk_let]; with_reducible refine (?_ : zk_k _ _)) | with_reducible refine (?_ : zk_k _ _))
    | with_reducible refine zk_iteT (by assumption) ?_
    | with_reducible refine zk_iteF (by assumption) ?_
    | with_reducible refine zk_iteN (by assumption) ?_
    | with_reducible refine zk_iteT (by decide) ?_
    | with_reducible refine zk_iteF (by decide) ?_
    | with_reducible refine zk_biteT (by assumption) ?_
    | with_reducible refine zk_biteF (by assumption) ?_
    | with_reducible refine zk_biteN (by assumption) ?_
    | with_reducible refine zk_biteT (by decide) ?_
    | with_reducible refine zk_biteF (by decide) ?_
    | (with_reducible refine zk_bs ?_; try dsimp only)
    | with_reducible refine zk_bas ?_
    | with_reducible refine zk_ite (fun _ => ?_) (fun _ => ?_)
    | with_reducible refine zk_bite (fun _ => ?_) (fun _ => ?_)
    | (simp only [Option.bind_some, Option.bind_none, ↓reduceIte, reduceIte, eq_self, Bool.false_eq_true, or_true, true_or, or_false, false_or, or_self, and_true, true_and, and_false, false_and, not_true_eq_false, not_false_eq_true])
    | (exfalso; simp only [zs_01, zs_cl, Int32.lt_iff_toInt_lt, Int32.le_iff_toInt_le, ← Int32.toInt_inj, zt_m2000000000, zt_m100, zt_m15, zt_m14, zt_m13, zt_m12, zt_m11, zt_m10, zt_m9, zt_m8, zt_m7, zt_m6, zt_m5, zt_m4, zt_m3, zt_m2, zt_m1, zt_0, zt_1, zt_2, zt_3, zt_4, zt_5, zt_6, zt_7, zt_8, zt_9, zt_10, zt_11, zt_12, zt_13, zt_14, zt_15, zt_16, zt_17, zt_18, zt_19, zt_20, zt_21, zt_22, zt_23, zt_24, zt_25, zt_26, zt_27, zt_28, zt_29, zt_30, zt_31, zt_32, zt_33, zt_34, zt_35, zt_36, zt_37, zt_38, zt_39, zt_40, zt_41, zt_42, zt_43, zt_44, zt_45, zt_46, zt_47, zt_48, zt_49, zt_50, zt_51, zt_52, zt_53, zt_54, zt_55, zt_56, zt_57, zt_58, zt_59, zt_60, zt_61, zt_62, zt_63, zt_64, zt_65, zt_66, zt_67, zt_68, zt_69, zt_81, zt_82, zt_99, zt_100, zt_120, zt_1000, zt_9999, zt_10000] at *; omega)
    | (refine zk_bsE rfl ?_; try dsimp only)
    | (refine zk_kI ?_; first | rfl | decide | (simp only [f_X12_trace, B_X12_trace_0, zk_b2, zk_b3, zk_b4, zk_b5, zk_b6, zk_let]; with_reducible refine (?_ : zk_k _ _))))
set_option maxHeartbeats 4000000 in
set_option maxRecDepth 100000 in
theorem pe_keep {g pf : Nat → Option Nat} {ae : Nat → Nat} {wb : Nat} (GF : ∀ t, t < 8 → g (24 + t) = some (ae 0)) (PF : ∀ j, j < 6 → pf j = some (ae (2 + 2 * j))) (j0 : Nat) (hj0 : j0 < 6) (a0 : Int32) (a1 : Int32) (hp0 : (¬ a0 < 0 ∧ ¬ 6 ≤ a0) → a0.toNatClampNeg = j0) : ∃ R1 R2, f_X11_keep (ae (2 + 2 * j0)) a0 a1 pf 0 0 0 (-1) 0 0 = some R1 ∧ f_X12_keep  a0 a1 0 0 0 0 0 0 0 0 0 0 0 0 0 0 0 0 0 ((upd (upd (upd (upd (upd (upd (fun _ => 0) ((0 : Int32)).toNatClampNeg (-1 : Int32)) ((1 : Int32)).toNatClampNeg (-1 : Int32)) ((2 : Int32)).toNatClampNeg (-1 : Int32)) ((3 : Int32)).toNatClampNeg (-1 : Int32)) ((4 : Int32)).toNatClampNeg (-1 : Int32)) ((5 : Int32)).toNatClampNeg (-1 : Int32))) = some R2 ∧ R1.1 = R2.1 := by
  have hh : ∀ x : Int32, (¬ x < 0 ∧ ¬ 6 ≤ x) → (upd (upd (upd (upd (upd (upd (fun _ => 0) ((0 : Int32)).toNatClampNeg (-1 : Int32)) ((1 : Int32)).toNatClampNeg (-1 : Int32)) ((2 : Int32)).toNatClampNeg (-1 : Int32)) ((3 : Int32)).toNatClampNeg (-1 : Int32)) ((4 : Int32)).toNatClampNeg (-1 : Int32)) ((5 : Int32)).toNatClampNeg (-1 : Int32)) x.toNatClampNeg = -1 := by
    intro x hx
    rcases zk_c6 x with rfl | rfl | rfl | rfl | rfl | rfl | h
    · rfl
    · rfl
    · rfl
    · rfl
    · rfl
    · rfl
    · exact absurd hx (fun z => h.elim z.1 z.2)
  generalize (upd (upd (upd (upd (upd (upd (fun _ => 0) ((0 : Int32)).toNatClampNeg (-1 : Int32)) ((1 : Int32)).toNatClampNeg (-1 : Int32)) ((2 : Int32)).toNatClampNeg (-1 : Int32)) ((3 : Int32)).toNatClampNeg (-1 : Int32)) ((4 : Int32)).toNatClampNeg (-1 : Int32)) ((5 : Int32)).toNatClampNeg (-1 : Int32)) = HO at hh ⊢
  have hpf0 : (¬ a0 < 0 ∧ ¬ 6 ≤ a0) → pf a0.toNatClampNeg = some (ae (2 + 2 * j0)) := fun h => by rw [hp0 h]; exact PF j0 hj0
  generalize ae (2 + 2 * j0) = A0 at *
  clear GF PF
  by_cases hA0 : ¬ a0 < 0 ∧ ¬ 6 ≤ a0
  · have e0 := hpf0 hA0
    have f0 := hh a0 hA0
    clear hh hpf0
    refine zk_go ?_
    simp only [f_X11_keep, B_X11_keep_0, f_X11_placeAt, B_X11_placeAt_0, B_X11_keep_28, B_X11_keep_39, f_X2_suitAt, B_X2_suitAt_0, zk_b2, zk_b3, zk_b4, zk_b5, zk_b6, zk_let]
    repeat' (first
      | (with_reducible refine zk_kI ?_; first | rfl | decide | (simp only [f_X12_keep, B_X12_keep_0, f_X12_isShelf, B_X12_isShelf_0, f_X12_in, B_X12_in_0, B_X12_keep_22, f_X12_isSuit, B_X12_isSuit_0, zk_b2, zk_b3, zk_b4, zk_b5, zk_b6, zk_let]; done) | (simp only [f_X12_keep, B_X12_keep_0, f_X12_isShelf, B_X12_isShelf_0, f_X12_in, B_X12_in_0, B_X12_keep_22, f_X12_isSuit, B_X12_isSuit_0, zk_b2, zk_b3, zk_b4, zk_b5, zk_b6, zk_let]; with_reducible refine (?_ : zk_k _ _)) | with_reducible refine (?_ : zk_k _ _))
      | with_reducible refine zk_iteT (by assumption) ?_
      | with_reducible refine zk_iteF (by assumption) ?_
      | with_reducible refine zk_iteN (by assumption) ?_
      | with_reducible refine zk_iteT (by decide) ?_
      | with_reducible refine zk_iteF (by decide) ?_
      | with_reducible refine zk_biteT (by assumption) ?_
      | with_reducible refine zk_biteF (by assumption) ?_
      | with_reducible refine zk_biteN (by assumption) ?_
      | with_reducible refine zk_biteT (by decide) ?_
      | with_reducible refine zk_biteF (by decide) ?_
      | (with_reducible refine zk_bs ?_; try dsimp only)
      | with_reducible refine zk_bas ?_
      | with_reducible refine zk_ite (fun _ => ?_) (fun _ => ?_)
      | with_reducible refine zk_bite (fun _ => ?_) (fun _ => ?_)
      | (simp only [Option.bind_some, Option.bind_none, ↓reduceIte, reduceIte, eq_self, Bool.false_eq_true, or_true, true_or, or_false, false_or, or_self, and_true, true_and, and_false, false_and, not_true_eq_false, not_false_eq_true, e0, f0])
      | (exfalso; simp only [zs_01, zs_cl, Int32.lt_iff_toInt_lt, Int32.le_iff_toInt_le, ← Int32.toInt_inj, zt_m2000000000, zt_m100, zt_m15, zt_m14, zt_m13, zt_m12, zt_m11, zt_m10, zt_m9, zt_m8, zt_m7, zt_m6, zt_m5, zt_m4, zt_m3, zt_m2, zt_m1, zt_0, zt_1, zt_2, zt_3, zt_4, zt_5, zt_6, zt_7, zt_8, zt_9, zt_10, zt_11, zt_12, zt_13, zt_14, zt_15, zt_16, zt_17, zt_18, zt_19, zt_20, zt_21, zt_22, zt_23, zt_24, zt_25, zt_26, zt_27, zt_28, zt_29, zt_30, zt_31, zt_32, zt_33, zt_34, zt_35, zt_36, zt_37, zt_38, zt_39, zt_40, zt_41, zt_42, zt_43, zt_44, zt_45, zt_46, zt_47, zt_48, zt_49, zt_50, zt_51, zt_52, zt_53, zt_54, zt_55, zt_56, zt_57, zt_58, zt_59, zt_60, zt_61, zt_62, zt_63, zt_64, zt_65, zt_66, zt_67, zt_68, zt_69, zt_81, zt_82, zt_99, zt_100, zt_120, zt_1000, zt_9999, zt_10000] at *; omega)
      | (refine zk_bsE rfl ?_; try dsimp only)
      | (refine zk_kI ?_; first | rfl | decide | (simp only [f_X12_keep, B_X12_keep_0, f_X12_isShelf, B_X12_isShelf_0, f_X12_in, B_X12_in_0, B_X12_keep_22, f_X12_isSuit, B_X12_isSuit_0, zk_b2, zk_b3, zk_b4, zk_b5, zk_b6, zk_let]; with_reducible refine (?_ : zk_k _ _))))
  · clear hh hpf0
    refine zk_go ?_
    simp only [f_X11_keep, B_X11_keep_0, f_X11_placeAt, B_X11_placeAt_0, B_X11_keep_28, B_X11_keep_39, f_X2_suitAt, B_X2_suitAt_0, zk_b2, zk_b3, zk_b4, zk_b5, zk_b6, zk_let]
    repeat' (first
      | (with_reducible refine zk_kI ?_; first | rfl | decide | (simp only [f_X12_keep, B_X12_keep_0, f_X12_isShelf, B_X12_isShelf_0, f_X12_in, B_X12_in_0, B_X12_keep_22, f_X12_isSuit, B_X12_isSuit_0, zk_b2, zk_b3, zk_b4, zk_b5, zk_b6, zk_let]; done) | (simp only [f_X12_keep, B_X12_keep_0, f_X12_isShelf, B_X12_isShelf_0, f_X12_in, B_X12_in_0, B_X12_keep_22, f_X12_isSuit, B_X12_isSuit_0, zk_b2, zk_b3, zk_b4, zk_b5, zk_b6, zk_let]; with_reducible refine (?_ : zk_k _ _)) | with_reducible refine (?_ : zk_k _ _))
      | with_reducible refine zk_iteT (by assumption) ?_
      | with_reducible refine zk_iteF (by assumption) ?_
      | with_reducible refine zk_iteN (by assumption) ?_
      | with_reducible refine zk_iteT (by decide) ?_
      | with_reducible refine zk_iteF (by decide) ?_
      | with_reducible refine zk_biteT (by assumption) ?_
      | with_reducible refine zk_biteF (by assumption) ?_
      | with_reducible refine zk_biteN (by assumption) ?_
      | with_reducible refine zk_biteT (by decide) ?_
      | with_reducible refine zk_biteF (by decide) ?_
      | (with_reducible refine zk_bs ?_; try dsimp only)
      | with_reducible refine zk_bas ?_
      | with_reducible refine zk_ite (fun _ => ?_) (fun _ => ?_)
      | with_reducible refine zk_bite (fun _ => ?_) (fun _ => ?_)
      | (simp only [Option.bind_some, Option.bind_none, ↓reduceIte, reduceIte, eq_self, Bool.false_eq_true, or_true, true_or, or_false, false_or, or_self, and_true, true_and, and_false, false_and, not_true_eq_false, not_false_eq_true])
      | (exfalso; simp only [zs_01, zs_cl, Int32.lt_iff_toInt_lt, Int32.le_iff_toInt_le, ← Int32.toInt_inj, zt_m2000000000, zt_m100, zt_m15, zt_m14, zt_m13, zt_m12, zt_m11, zt_m10, zt_m9, zt_m8, zt_m7, zt_m6, zt_m5, zt_m4, zt_m3, zt_m2, zt_m1, zt_0, zt_1, zt_2, zt_3, zt_4, zt_5, zt_6, zt_7, zt_8, zt_9, zt_10, zt_11, zt_12, zt_13, zt_14, zt_15, zt_16, zt_17, zt_18, zt_19, zt_20, zt_21, zt_22, zt_23, zt_24, zt_25, zt_26, zt_27, zt_28, zt_29, zt_30, zt_31, zt_32, zt_33, zt_34, zt_35, zt_36, zt_37, zt_38, zt_39, zt_40, zt_41, zt_42, zt_43, zt_44, zt_45, zt_46, zt_47, zt_48, zt_49, zt_50, zt_51, zt_52, zt_53, zt_54, zt_55, zt_56, zt_57, zt_58, zt_59, zt_60, zt_61, zt_62, zt_63, zt_64, zt_65, zt_66, zt_67, zt_68, zt_69, zt_81, zt_82, zt_99, zt_100, zt_120, zt_1000, zt_9999, zt_10000] at *; omega)
      | (refine zk_bsE rfl ?_; try dsimp only)
      | (refine zk_kI ?_; first | rfl | decide | (simp only [f_X12_keep, B_X12_keep_0, f_X12_isShelf, B_X12_isShelf_0, f_X12_in, B_X12_in_0, B_X12_keep_22, f_X12_isSuit, B_X12_isSuit_0, zk_b2, zk_b3, zk_b4, zk_b5, zk_b6, zk_let]; with_reducible refine (?_ : zk_k _ _))))
set_option maxHeartbeats 4000000 in
set_option maxRecDepth 100000 in
theorem zc_row (a0 : Int32) (H S : Nat → Int32) (E : Nat → Int64) (h : ¬ a0 < 0) (h2 : ¬ 6 ≤ a0) : zk_k (G_X12_row 0 0 0 0 0 0 0 0 0 0 0 0 0 0 0 0 0 4000 a0 (60 * a0) H S E) (fun w => w = 1) := by
  rcases zk_c6 a0 with rfl | rfl | rfl | rfl | rfl | rfl | h6
  · exact ⟨_, rfl, rfl⟩
  · exact ⟨_, rfl, rfl⟩
  · exact ⟨_, rfl, rfl⟩
  · exact ⟨_, rfl, rfl⟩
  · exact ⟨_, rfl, rfl⟩
  · exact ⟨_, rfl, rfl⟩
  · exact absurd h6 (fun z => z.elim h h2)
set_option maxHeartbeats 4000000 in
set_option maxRecDepth 100000 in
theorem pe_row {g pf : Nat → Option Nat} {ae : Nat → Nat} {wb : Nat} (GF : ∀ t, t < 8 → g (24 + t) = some (ae 0)) (PF : ∀ j, j < 6 → pf j = some (ae (2 + 2 * j))) (j0 : Nat) (hj0 : j0 < 6) (a0 : Int32) (a1 : Int32) (a2 : Int32) (hp0 : (¬ a0 < 0 ∧ ¬ 6 ≤ a0) → a0.toNatClampNeg = j0) : ∃ R1 R2, f_X11_row (ae (2 + 2 * j0)) a0 a1 a2 pf (-1) 0 0 (fun _ => 0) = some R1 ∧ f_X12_row  4000 a0 a1 a2 0 0 0 0 0 0 0 0 0 0 0 0 0 0 0 0 0 ((upd (upd (upd (upd (upd (upd (fun _ => 0) ((0 : Int32)).toNatClampNeg (-1 : Int32)) ((1 : Int32)).toNatClampNeg (-1 : Int32)) ((2 : Int32)).toNatClampNeg (-1 : Int32)) ((3 : Int32)).toNatClampNeg (-1 : Int32)) ((4 : Int32)).toNatClampNeg (-1 : Int32)) ((5 : Int32)).toNatClampNeg (-1 : Int32))) ((fun _ => 0)) ((fun _ => 0)) = some R2 ∧ R1.1 = R2.1 := by
  have hh : ∀ x : Int32, (¬ x < 0 ∧ ¬ 6 ≤ x) → (upd (upd (upd (upd (upd (upd (fun _ => 0) ((0 : Int32)).toNatClampNeg (-1 : Int32)) ((1 : Int32)).toNatClampNeg (-1 : Int32)) ((2 : Int32)).toNatClampNeg (-1 : Int32)) ((3 : Int32)).toNatClampNeg (-1 : Int32)) ((4 : Int32)).toNatClampNeg (-1 : Int32)) ((5 : Int32)).toNatClampNeg (-1 : Int32)) x.toNatClampNeg = -1 := by
    intro x hx
    rcases zk_c6 x with rfl | rfl | rfl | rfl | rfl | rfl | h
    · rfl
    · rfl
    · rfl
    · rfl
    · rfl
    · rfl
    · exact absurd hx (fun z => h.elim z.1 z.2)
  generalize (upd (upd (upd (upd (upd (upd (fun _ => 0) ((0 : Int32)).toNatClampNeg (-1 : Int32)) ((1 : Int32)).toNatClampNeg (-1 : Int32)) ((2 : Int32)).toNatClampNeg (-1 : Int32)) ((3 : Int32)).toNatClampNeg (-1 : Int32)) ((4 : Int32)).toNatClampNeg (-1 : Int32)) ((5 : Int32)).toNatClampNeg (-1 : Int32)) = HO at hh ⊢
  have hpf0 : (¬ a0 < 0 ∧ ¬ 6 ≤ a0) → pf a0.toNatClampNeg = some (ae (2 + 2 * j0)) := fun h => by rw [hp0 h]; exact PF j0 hj0
  generalize ae (2 + 2 * j0) = A0 at *
  clear GF PF
  by_cases hA0 : ¬ a0 < 0 ∧ ¬ 6 ≤ a0
  · have e0 := hpf0 hA0
    have f0 := hh a0 hA0
    clear hh hpf0
    refine zk_go ?_
    simp only [f_X11_row, B_X11_row_0, f_X11_placeAt, B_X11_placeAt_0, zk_b2, zk_b3, zk_b4, zk_b5, zk_b6, zk_let]
    repeat' (first
      | (with_reducible refine zk_kI ?_; first | rfl | decide | (simp only [f_X12_row, B_X12_row_0, f_X12_isShelf, B_X12_isShelf_0, f_X12_in, B_X12_in_0, B_X12_row_54, zk_b2, zk_b3, zk_b4, zk_b5, zk_b6, zk_let]; done) | (simp only [f_X12_row, B_X12_row_0, f_X12_isShelf, B_X12_isShelf_0, f_X12_in, B_X12_in_0, B_X12_row_54, zk_b2, zk_b3, zk_b4, zk_b5, zk_b6, zk_let]; with_reducible refine (?_ : zk_k _ _)) | with_reducible refine (?_ : zk_k _ _))
      | with_reducible refine zk_iteT (by assumption) ?_
      | with_reducible refine zk_iteF (by assumption) ?_
      | with_reducible refine zk_iteN (by assumption) ?_
      | with_reducible refine zk_iteT (by decide) ?_
      | with_reducible refine zk_iteF (by decide) ?_
      | with_reducible refine zk_biteT (by assumption) ?_
      | with_reducible refine zk_biteF (by assumption) ?_
      | with_reducible refine zk_biteN (by assumption) ?_
      | with_reducible refine zk_biteT (by decide) ?_
      | with_reducible refine zk_biteF (by decide) ?_
      | (with_reducible refine zk_bs ?_; try dsimp only)
      | with_reducible refine zk_bas ?_
      | with_reducible refine zk_ite (fun _ => ?_) (fun _ => ?_)
      | with_reducible refine zk_bite (fun _ => ?_) (fun _ => ?_)
      | exact zc_row _ _ _ _ (by assumption) (by assumption) | (simp only [Option.bind_some, Option.bind_none, ↓reduceIte, reduceIte, eq_self, Bool.false_eq_true, or_true, true_or, or_false, false_or, or_self, and_true, true_and, and_false, false_and, not_true_eq_false, not_false_eq_true, e0, f0])
      | (exfalso; simp only [zs_01, zs_cl, Int32.lt_iff_toInt_lt, Int32.le_iff_toInt_le, ← Int32.toInt_inj, zt_m2000000000, zt_m100, zt_m15, zt_m14, zt_m13, zt_m12, zt_m11, zt_m10, zt_m9, zt_m8, zt_m7, zt_m6, zt_m5, zt_m4, zt_m3, zt_m2, zt_m1, zt_0, zt_1, zt_2, zt_3, zt_4, zt_5, zt_6, zt_7, zt_8, zt_9, zt_10, zt_11, zt_12, zt_13, zt_14, zt_15, zt_16, zt_17, zt_18, zt_19, zt_20, zt_21, zt_22, zt_23, zt_24, zt_25, zt_26, zt_27, zt_28, zt_29, zt_30, zt_31, zt_32, zt_33, zt_34, zt_35, zt_36, zt_37, zt_38, zt_39, zt_40, zt_41, zt_42, zt_43, zt_44, zt_45, zt_46, zt_47, zt_48, zt_49, zt_50, zt_51, zt_52, zt_53, zt_54, zt_55, zt_56, zt_57, zt_58, zt_59, zt_60, zt_61, zt_62, zt_63, zt_64, zt_65, zt_66, zt_67, zt_68, zt_69, zt_81, zt_82, zt_99, zt_100, zt_120, zt_1000, zt_9999, zt_10000] at *; omega)
      | (refine zk_bsE rfl ?_; try dsimp only)
      | (refine zk_kI ?_; first | rfl | decide | (simp only [f_X12_row, B_X12_row_0, f_X12_isShelf, B_X12_isShelf_0, f_X12_in, B_X12_in_0, B_X12_row_54, zk_b2, zk_b3, zk_b4, zk_b5, zk_b6, zk_let]; with_reducible refine (?_ : zk_k _ _))))
  · clear hh hpf0
    refine zk_go ?_
    simp only [f_X11_row, B_X11_row_0, f_X11_placeAt, B_X11_placeAt_0, zk_b2, zk_b3, zk_b4, zk_b5, zk_b6, zk_let]
    repeat' (first
      | (with_reducible refine zk_kI ?_; first | rfl | decide | (simp only [f_X12_row, B_X12_row_0, f_X12_isShelf, B_X12_isShelf_0, f_X12_in, B_X12_in_0, B_X12_row_54, zk_b2, zk_b3, zk_b4, zk_b5, zk_b6, zk_let]; done) | (simp only [f_X12_row, B_X12_row_0, f_X12_isShelf, B_X12_isShelf_0, f_X12_in, B_X12_in_0, B_X12_row_54, zk_b2, zk_b3, zk_b4, zk_b5, zk_b6, zk_let]; with_reducible refine (?_ : zk_k _ _)) | with_reducible refine (?_ : zk_k _ _))
      | with_reducible refine zk_iteT (by assumption) ?_
      | with_reducible refine zk_iteF (by assumption) ?_
      | with_reducible refine zk_iteN (by assumption) ?_
      | with_reducible refine zk_iteT (by decide) ?_
      | with_reducible refine zk_iteF (by decide) ?_
      | with_reducible refine zk_biteT (by assumption) ?_
      | with_reducible refine zk_biteF (by assumption) ?_
      | with_reducible refine zk_biteN (by assumption) ?_
      | with_reducible refine zk_biteT (by decide) ?_
      | with_reducible refine zk_biteF (by decide) ?_
      | (with_reducible refine zk_bs ?_; try dsimp only)
      | with_reducible refine zk_bas ?_
      | with_reducible refine zk_ite (fun _ => ?_) (fun _ => ?_)
      | with_reducible refine zk_bite (fun _ => ?_) (fun _ => ?_)
      | exact zc_row _ _ _ _ (by assumption) (by assumption) | (simp only [Option.bind_some, Option.bind_none, ↓reduceIte, reduceIte, eq_self, Bool.false_eq_true, or_true, true_or, or_false, false_or, or_self, and_true, true_and, and_false, false_and, not_true_eq_false, not_false_eq_true])
      | (exfalso; simp only [zs_01, zs_cl, Int32.lt_iff_toInt_lt, Int32.le_iff_toInt_le, ← Int32.toInt_inj, zt_m2000000000, zt_m100, zt_m15, zt_m14, zt_m13, zt_m12, zt_m11, zt_m10, zt_m9, zt_m8, zt_m7, zt_m6, zt_m5, zt_m4, zt_m3, zt_m2, zt_m1, zt_0, zt_1, zt_2, zt_3, zt_4, zt_5, zt_6, zt_7, zt_8, zt_9, zt_10, zt_11, zt_12, zt_13, zt_14, zt_15, zt_16, zt_17, zt_18, zt_19, zt_20, zt_21, zt_22, zt_23, zt_24, zt_25, zt_26, zt_27, zt_28, zt_29, zt_30, zt_31, zt_32, zt_33, zt_34, zt_35, zt_36, zt_37, zt_38, zt_39, zt_40, zt_41, zt_42, zt_43, zt_44, zt_45, zt_46, zt_47, zt_48, zt_49, zt_50, zt_51, zt_52, zt_53, zt_54, zt_55, zt_56, zt_57, zt_58, zt_59, zt_60, zt_61, zt_62, zt_63, zt_64, zt_65, zt_66, zt_67, zt_68, zt_69, zt_81, zt_82, zt_99, zt_100, zt_120, zt_1000, zt_9999, zt_10000] at *; omega)
      | (refine zk_bsE rfl ?_; try dsimp only)
      | (refine zk_kI ?_; first | rfl | decide | (simp only [f_X12_row, B_X12_row_0, f_X12_isShelf, B_X12_isShelf_0, f_X12_in, B_X12_in_0, B_X12_row_54, zk_b2, zk_b3, zk_b4, zk_b5, zk_b6, zk_let]; with_reducible refine (?_ : zk_k _ _))))
set_option maxHeartbeats 4000000 in
set_option maxRecDepth 100000 in
theorem pe_put {g pf : Nat → Option Nat} {ae : Nat → Nat} {wb : Nat} (GF : ∀ t, t < 8 → g (24 + t) = some (ae 0)) (PF : ∀ j, j < 6 → pf j = some (ae (2 + 2 * j))) (j0 : Nat) (hj0 : j0 < 6) (a0 : Int32) (a1 : Int32) (a2 : Int64) (hp0 : (¬ a0 < 0 ∧ ¬ 6 ≤ a0) → a0.toNatClampNeg = j0) : ∃ R1 R2, f_X11_put (ae (2 + 2 * j0)) a0 a1 a2 pf (-1) 0 0 (fun _ => 0) = some R1 ∧ f_X12_put  a0 a1 a2 0 0 0 0 0 0 0 0 0 0 0 0 0 0 0 0 0 ((upd (upd (upd (upd (upd (upd (fun _ => 0) ((0 : Int32)).toNatClampNeg (-1 : Int32)) ((1 : Int32)).toNatClampNeg (-1 : Int32)) ((2 : Int32)).toNatClampNeg (-1 : Int32)) ((3 : Int32)).toNatClampNeg (-1 : Int32)) ((4 : Int32)).toNatClampNeg (-1 : Int32)) ((5 : Int32)).toNatClampNeg (-1 : Int32))) ((fun _ => 0)) ((fun _ => 0)) = some R2 ∧ R1.1 = R2.1 := by
  have hh : ∀ x : Int32, (¬ x < 0 ∧ ¬ 6 ≤ x) → (upd (upd (upd (upd (upd (upd (fun _ => 0) ((0 : Int32)).toNatClampNeg (-1 : Int32)) ((1 : Int32)).toNatClampNeg (-1 : Int32)) ((2 : Int32)).toNatClampNeg (-1 : Int32)) ((3 : Int32)).toNatClampNeg (-1 : Int32)) ((4 : Int32)).toNatClampNeg (-1 : Int32)) ((5 : Int32)).toNatClampNeg (-1 : Int32)) x.toNatClampNeg = -1 := by
    intro x hx
    rcases zk_c6 x with rfl | rfl | rfl | rfl | rfl | rfl | h
    · rfl
    · rfl
    · rfl
    · rfl
    · rfl
    · rfl
    · exact absurd hx (fun z => h.elim z.1 z.2)
  generalize (upd (upd (upd (upd (upd (upd (fun _ => 0) ((0 : Int32)).toNatClampNeg (-1 : Int32)) ((1 : Int32)).toNatClampNeg (-1 : Int32)) ((2 : Int32)).toNatClampNeg (-1 : Int32)) ((3 : Int32)).toNatClampNeg (-1 : Int32)) ((4 : Int32)).toNatClampNeg (-1 : Int32)) ((5 : Int32)).toNatClampNeg (-1 : Int32)) = HO at hh ⊢
  have hpf0 : (¬ a0 < 0 ∧ ¬ 6 ≤ a0) → pf a0.toNatClampNeg = some (ae (2 + 2 * j0)) := fun h => by rw [hp0 h]; exact PF j0 hj0
  generalize ae (2 + 2 * j0) = A0 at *
  clear GF PF
  by_cases hA0 : ¬ a0 < 0 ∧ ¬ 6 ≤ a0
  · have e0 := hpf0 hA0
    have f0 := hh a0 hA0
    clear hh hpf0
    refine zk_go ?_
    simp only [f_X11_put, B_X11_put_0, f_X11_placeAt, B_X11_placeAt_0, f_X6_refusalOf, B_X6_refusalOf_0, f_X6_hasRange, B_X6_hasRange_0, zk_b2E, zk_b3E, zk_b4E, zk_b5E, zk_b6E, zk_letE]
    repeat' (first
      | (with_reducible refine zk_kI ?_; first | rfl | decide | (simp only [f_X12_put, B_X12_put_0, f_X12_whyNoPlace, B_X12_whyNoPlace_0, f_X12_isShelf, B_X12_isShelf_0, f_X12_in, B_X12_in_0, B_X12_put_95, zk_b2E, zk_b3E, zk_b4E, zk_b5E, zk_b6E, zk_letE]; done) | (simp only [f_X12_put, B_X12_put_0, f_X12_whyNoPlace, B_X12_whyNoPlace_0, f_X12_isShelf, B_X12_isShelf_0, f_X12_in, B_X12_in_0, B_X12_put_95, zk_b2E, zk_b3E, zk_b4E, zk_b5E, zk_b6E, zk_letE]; with_reducible refine (?_ : zk_k _ _)) | with_reducible refine (?_ : zk_k _ _))
      | with_reducible refine zk_iteT (by assumption) ?_
      | with_reducible refine zk_iteF (by assumption) ?_
      | with_reducible refine zk_iteN (by assumption) ?_
      | with_reducible refine zk_iteT (by decide) ?_
      | with_reducible refine zk_iteF (by decide) ?_
      | with_reducible refine zk_biteT (by assumption) ?_
      | with_reducible refine zk_biteF (by assumption) ?_
      | with_reducible refine zk_biteN (by assumption) ?_
      | with_reducible refine zk_biteT (by decide) ?_
      | with_reducible refine zk_biteF (by decide) ?_
      | (with_reducible refine zk_bs ?_; try dsimp only)
      | with_reducible refine zk_bas ?_
      | with_reducible refine zk_ite (fun _ => ?_) (fun _ => ?_)
      | with_reducible refine zk_bite (fun _ => ?_) (fun _ => ?_)
      | (simp only [Option.bind_some, Option.bind_none, ↓reduceIte, reduceIte, eq_self, Bool.false_eq_true, or_true, true_or, or_false, false_or, or_self, and_true, true_and, and_false, false_and, not_true_eq_false, not_false_eq_true, e0, f0])
      | (exfalso; simp only [zs_01, zs_cl, Int32.lt_iff_toInt_lt, Int32.le_iff_toInt_le, ← Int32.toInt_inj, zt_m2000000000, zt_m100, zt_m15, zt_m14, zt_m13, zt_m12, zt_m11, zt_m10, zt_m9, zt_m8, zt_m7, zt_m6, zt_m5, zt_m4, zt_m3, zt_m2, zt_m1, zt_0, zt_1, zt_2, zt_3, zt_4, zt_5, zt_6, zt_7, zt_8, zt_9, zt_10, zt_11, zt_12, zt_13, zt_14, zt_15, zt_16, zt_17, zt_18, zt_19, zt_20, zt_21, zt_22, zt_23, zt_24, zt_25, zt_26, zt_27, zt_28, zt_29, zt_30, zt_31, zt_32, zt_33, zt_34, zt_35, zt_36, zt_37, zt_38, zt_39, zt_40, zt_41, zt_42, zt_43, zt_44, zt_45, zt_46, zt_47, zt_48, zt_49, zt_50, zt_51, zt_52, zt_53, zt_54, zt_55, zt_56, zt_57, zt_58, zt_59, zt_60, zt_61, zt_62, zt_63, zt_64, zt_65, zt_66, zt_67, zt_68, zt_69, zt_81, zt_82, zt_99, zt_100, zt_120, zt_1000, zt_9999, zt_10000] at *; omega)
      | (refine zk_kI ?_; first | rfl | decide | (simp only [f_X12_put, B_X12_put_0, f_X12_whyNoPlace, B_X12_whyNoPlace_0, f_X12_isShelf, B_X12_isShelf_0, f_X12_in, B_X12_in_0, B_X12_put_95, zk_b2E, zk_b3E, zk_b4E, zk_b5E, zk_b6E, zk_letE]; with_reducible refine (?_ : zk_k _ _))))
  · clear hh hpf0
    refine zk_go ?_
    simp only [f_X11_put, B_X11_put_0, f_X11_placeAt, B_X11_placeAt_0, f_X6_refusalOf, B_X6_refusalOf_0, f_X6_hasRange, B_X6_hasRange_0, zk_b2E, zk_b3E, zk_b4E, zk_b5E, zk_b6E, zk_letE]
    repeat' (first
      | (with_reducible refine zk_kI ?_; first | rfl | decide | (simp only [f_X12_put, B_X12_put_0, f_X12_whyNoPlace, B_X12_whyNoPlace_0, f_X12_isShelf, B_X12_isShelf_0, f_X12_in, B_X12_in_0, B_X12_put_95, zk_b2E, zk_b3E, zk_b4E, zk_b5E, zk_b6E, zk_letE]; done) | (simp only [f_X12_put, B_X12_put_0, f_X12_whyNoPlace, B_X12_whyNoPlace_0, f_X12_isShelf, B_X12_isShelf_0, f_X12_in, B_X12_in_0, B_X12_put_95, zk_b2E, zk_b3E, zk_b4E, zk_b5E, zk_b6E, zk_letE]; with_reducible refine (?_ : zk_k _ _)) | with_reducible refine (?_ : zk_k _ _))
      | with_reducible refine zk_iteT (by assumption) ?_
      | with_reducible refine zk_iteF (by assumption) ?_
      | with_reducible refine zk_iteN (by assumption) ?_
      | with_reducible refine zk_iteT (by decide) ?_
      | with_reducible refine zk_iteF (by decide) ?_
      | with_reducible refine zk_biteT (by assumption) ?_
      | with_reducible refine zk_biteF (by assumption) ?_
      | with_reducible refine zk_biteN (by assumption) ?_
      | with_reducible refine zk_biteT (by decide) ?_
      | with_reducible refine zk_biteF (by decide) ?_
      | (with_reducible refine zk_bs ?_; try dsimp only)
      | with_reducible refine zk_bas ?_
      | with_reducible refine zk_ite (fun _ => ?_) (fun _ => ?_)
      | with_reducible refine zk_bite (fun _ => ?_) (fun _ => ?_)
      | (simp only [Option.bind_some, Option.bind_none, ↓reduceIte, reduceIte, eq_self, Bool.false_eq_true, or_true, true_or, or_false, false_or, or_self, and_true, true_and, and_false, false_and, not_true_eq_false, not_false_eq_true])
      | (exfalso; simp only [zs_01, zs_cl, Int32.lt_iff_toInt_lt, Int32.le_iff_toInt_le, ← Int32.toInt_inj, zt_m2000000000, zt_m100, zt_m15, zt_m14, zt_m13, zt_m12, zt_m11, zt_m10, zt_m9, zt_m8, zt_m7, zt_m6, zt_m5, zt_m4, zt_m3, zt_m2, zt_m1, zt_0, zt_1, zt_2, zt_3, zt_4, zt_5, zt_6, zt_7, zt_8, zt_9, zt_10, zt_11, zt_12, zt_13, zt_14, zt_15, zt_16, zt_17, zt_18, zt_19, zt_20, zt_21, zt_22, zt_23, zt_24, zt_25, zt_26, zt_27, zt_28, zt_29, zt_30, zt_31, zt_32, zt_33, zt_34, zt_35, zt_36, zt_37, zt_38, zt_39, zt_40, zt_41, zt_42, zt_43, zt_44, zt_45, zt_46, zt_47, zt_48, zt_49, zt_50, zt_51, zt_52, zt_53, zt_54, zt_55, zt_56, zt_57, zt_58, zt_59, zt_60, zt_61, zt_62, zt_63, zt_64, zt_65, zt_66, zt_67, zt_68, zt_69, zt_81, zt_82, zt_99, zt_100, zt_120, zt_1000, zt_9999, zt_10000] at *; omega)
      | (refine zk_kI ?_; first | rfl | decide | (simp only [f_X12_put, B_X12_put_0, f_X12_whyNoPlace, B_X12_whyNoPlace_0, f_X12_isShelf, B_X12_isShelf_0, f_X12_in, B_X12_in_0, B_X12_put_95, zk_b2E, zk_b3E, zk_b4E, zk_b5E, zk_b6E, zk_letE]; with_reducible refine (?_ : zk_k _ _))))
set_option maxHeartbeats 4000000 in
set_option maxRecDepth 100000 in
theorem pe_element {g pf : Nat → Option Nat} {ae : Nat → Nat} {wb : Nat} (GF : ∀ t, t < 8 → g (24 + t) = some (ae 0)) (PF : ∀ j, j < 6 → pf j = some (ae (2 + 2 * j))) (j0 : Nat) (hj0 : j0 < 6) (a0 : Int32) (a1 : Int32) (hp0 : (¬ a0 < 0 ∧ ¬ 6 ≤ a0) → a0.toNatClampNeg = j0) : ∃ R1 R2, f_X11_element (ae (2 + 2 * j0)) a0 a1 pf (-1) 0 0 (fun _ => 0) = some R1 ∧ f_X12_element  a0 a1 0 0 0 0 0 0 0 0 0 0 0 0 0 0 0 0 0 ((upd (upd (upd (upd (upd (upd (fun _ => 0) ((0 : Int32)).toNatClampNeg (-1 : Int32)) ((1 : Int32)).toNatClampNeg (-1 : Int32)) ((2 : Int32)).toNatClampNeg (-1 : Int32)) ((3 : Int32)).toNatClampNeg (-1 : Int32)) ((4 : Int32)).toNatClampNeg (-1 : Int32)) ((5 : Int32)).toNatClampNeg (-1 : Int32))) ((fun _ => 0)) ((fun _ => 0)) = some R2 ∧ R1.1 = R2.1 := by
  have hh : ∀ x : Int32, (¬ x < 0 ∧ ¬ 6 ≤ x) → (upd (upd (upd (upd (upd (upd (fun _ => 0) ((0 : Int32)).toNatClampNeg (-1 : Int32)) ((1 : Int32)).toNatClampNeg (-1 : Int32)) ((2 : Int32)).toNatClampNeg (-1 : Int32)) ((3 : Int32)).toNatClampNeg (-1 : Int32)) ((4 : Int32)).toNatClampNeg (-1 : Int32)) ((5 : Int32)).toNatClampNeg (-1 : Int32)) x.toNatClampNeg = -1 := by
    intro x hx
    rcases zk_c6 x with rfl | rfl | rfl | rfl | rfl | rfl | h
    · rfl
    · rfl
    · rfl
    · rfl
    · rfl
    · rfl
    · exact absurd hx (fun z => h.elim z.1 z.2)
  generalize (upd (upd (upd (upd (upd (upd (fun _ => 0) ((0 : Int32)).toNatClampNeg (-1 : Int32)) ((1 : Int32)).toNatClampNeg (-1 : Int32)) ((2 : Int32)).toNatClampNeg (-1 : Int32)) ((3 : Int32)).toNatClampNeg (-1 : Int32)) ((4 : Int32)).toNatClampNeg (-1 : Int32)) ((5 : Int32)).toNatClampNeg (-1 : Int32)) = HO at hh ⊢
  have hpf0 : (¬ a0 < 0 ∧ ¬ 6 ≤ a0) → pf a0.toNatClampNeg = some (ae (2 + 2 * j0)) := fun h => by rw [hp0 h]; exact PF j0 hj0
  generalize ae (2 + 2 * j0) = A0 at *
  clear GF PF
  by_cases hA0 : ¬ a0 < 0 ∧ ¬ 6 ≤ a0
  · have e0 := hpf0 hA0
    have f0 := hh a0 hA0
    clear hh hpf0
    refine zk_go ?_
    simp only [f_X11_element, B_X11_element_0, f_X11_placeAt, B_X11_placeAt_0, f_X6_refusalOf, B_X6_refusalOf_0, f_X6_hasRange, B_X6_hasRange_0, zk_b2, zk_b3, zk_b4, zk_b5, zk_b6, zk_let]
    repeat' (first
      | (with_reducible refine zk_kI ?_; first | rfl | decide | (simp only [f_X12_element, B_X12_element_0, f_X12_whyNoPlace, B_X12_whyNoPlace_0, f_X12_isShelf, B_X12_isShelf_0, f_X12_in, B_X12_in_0, zk_b2, zk_b3, zk_b4, zk_b5, zk_b6, zk_let]; done) | (simp only [f_X12_element, B_X12_element_0, f_X12_whyNoPlace, B_X12_whyNoPlace_0, f_X12_isShelf, B_X12_isShelf_0, f_X12_in, B_X12_in_0, zk_b2, zk_b3, zk_b4, zk_b5, zk_b6, zk_let]; with_reducible refine (?_ : zk_k _ _)) | with_reducible refine (?_ : zk_k _ _))
      | with_reducible refine zk_iteT (by assumption) ?_
      | with_reducible refine zk_iteF (by assumption) ?_
      | with_reducible refine zk_iteN (by assumption) ?_
      | with_reducible refine zk_iteT (by decide) ?_
      | with_reducible refine zk_iteF (by decide) ?_
      | with_reducible refine zk_biteT (by assumption) ?_
      | with_reducible refine zk_biteF (by assumption) ?_
      | with_reducible refine zk_biteN (by assumption) ?_
      | with_reducible refine zk_biteT (by decide) ?_
      | with_reducible refine zk_biteF (by decide) ?_
      | (with_reducible refine zk_bs ?_; try dsimp only)
      | with_reducible refine zk_bas ?_
      | with_reducible refine zk_ite (fun _ => ?_) (fun _ => ?_)
      | with_reducible refine zk_bite (fun _ => ?_) (fun _ => ?_)
      | (simp only [Option.bind_some, Option.bind_none, ↓reduceIte, reduceIte, eq_self, Bool.false_eq_true, or_true, true_or, or_false, false_or, or_self, and_true, true_and, and_false, false_and, not_true_eq_false, not_false_eq_true, e0, f0])
      | (exfalso; simp only [zs_01, zs_cl, Int32.lt_iff_toInt_lt, Int32.le_iff_toInt_le, ← Int32.toInt_inj, zt_m2000000000, zt_m100, zt_m15, zt_m14, zt_m13, zt_m12, zt_m11, zt_m10, zt_m9, zt_m8, zt_m7, zt_m6, zt_m5, zt_m4, zt_m3, zt_m2, zt_m1, zt_0, zt_1, zt_2, zt_3, zt_4, zt_5, zt_6, zt_7, zt_8, zt_9, zt_10, zt_11, zt_12, zt_13, zt_14, zt_15, zt_16, zt_17, zt_18, zt_19, zt_20, zt_21, zt_22, zt_23, zt_24, zt_25, zt_26, zt_27, zt_28, zt_29, zt_30, zt_31, zt_32, zt_33, zt_34, zt_35, zt_36, zt_37, zt_38, zt_39, zt_40, zt_41, zt_42, zt_43, zt_44, zt_45, zt_46, zt_47, zt_48, zt_49, zt_50, zt_51, zt_52, zt_53, zt_54, zt_55, zt_56, zt_57, zt_58, zt_59, zt_60, zt_61, zt_62, zt_63, zt_64, zt_65, zt_66, zt_67, zt_68, zt_69, zt_81, zt_82, zt_99, zt_100, zt_120, zt_1000, zt_9999, zt_10000] at *; omega)
      | (refine zk_bsE rfl ?_; try dsimp only)
      | (refine zk_kI ?_; first | rfl | decide | (simp only [f_X12_element, B_X12_element_0, f_X12_whyNoPlace, B_X12_whyNoPlace_0, f_X12_isShelf, B_X12_isShelf_0, f_X12_in, B_X12_in_0, zk_b2, zk_b3, zk_b4, zk_b5, zk_b6, zk_let]; with_reducible refine (?_ : zk_k _ _))))
  · clear hh hpf0
    refine zk_go ?_
    simp only [f_X11_element, B_X11_element_0, f_X11_placeAt, B_X11_placeAt_0, f_X6_refusalOf, B_X6_refusalOf_0, f_X6_hasRange, B_X6_hasRange_0, zk_b2, zk_b3, zk_b4, zk_b5, zk_b6, zk_let]
    repeat' (first
      | (with_reducible refine zk_kI ?_; first | rfl | decide | (simp only [f_X12_element, B_X12_element_0, f_X12_whyNoPlace, B_X12_whyNoPlace_0, f_X12_isShelf, B_X12_isShelf_0, f_X12_in, B_X12_in_0, zk_b2, zk_b3, zk_b4, zk_b5, zk_b6, zk_let]; done) | (simp only [f_X12_element, B_X12_element_0, f_X12_whyNoPlace, B_X12_whyNoPlace_0, f_X12_isShelf, B_X12_isShelf_0, f_X12_in, B_X12_in_0, zk_b2, zk_b3, zk_b4, zk_b5, zk_b6, zk_let]; with_reducible refine (?_ : zk_k _ _)) | with_reducible refine (?_ : zk_k _ _))
      | with_reducible refine zk_iteT (by assumption) ?_
      | with_reducible refine zk_iteF (by assumption) ?_
      | with_reducible refine zk_iteN (by assumption) ?_
      | with_reducible refine zk_iteT (by decide) ?_
      | with_reducible refine zk_iteF (by decide) ?_
      | with_reducible refine zk_biteT (by assumption) ?_
      | with_reducible refine zk_biteF (by assumption) ?_
      | with_reducible refine zk_biteN (by assumption) ?_
      | with_reducible refine zk_biteT (by decide) ?_
      | with_reducible refine zk_biteF (by decide) ?_
      | (with_reducible refine zk_bs ?_; try dsimp only)
      | with_reducible refine zk_bas ?_
      | with_reducible refine zk_ite (fun _ => ?_) (fun _ => ?_)
      | with_reducible refine zk_bite (fun _ => ?_) (fun _ => ?_)
      | (simp only [Option.bind_some, Option.bind_none, ↓reduceIte, reduceIte, eq_self, Bool.false_eq_true, or_true, true_or, or_false, false_or, or_self, and_true, true_and, and_false, false_and, not_true_eq_false, not_false_eq_true])
      | (exfalso; simp only [zs_01, zs_cl, Int32.lt_iff_toInt_lt, Int32.le_iff_toInt_le, ← Int32.toInt_inj, zt_m2000000000, zt_m100, zt_m15, zt_m14, zt_m13, zt_m12, zt_m11, zt_m10, zt_m9, zt_m8, zt_m7, zt_m6, zt_m5, zt_m4, zt_m3, zt_m2, zt_m1, zt_0, zt_1, zt_2, zt_3, zt_4, zt_5, zt_6, zt_7, zt_8, zt_9, zt_10, zt_11, zt_12, zt_13, zt_14, zt_15, zt_16, zt_17, zt_18, zt_19, zt_20, zt_21, zt_22, zt_23, zt_24, zt_25, zt_26, zt_27, zt_28, zt_29, zt_30, zt_31, zt_32, zt_33, zt_34, zt_35, zt_36, zt_37, zt_38, zt_39, zt_40, zt_41, zt_42, zt_43, zt_44, zt_45, zt_46, zt_47, zt_48, zt_49, zt_50, zt_51, zt_52, zt_53, zt_54, zt_55, zt_56, zt_57, zt_58, zt_59, zt_60, zt_61, zt_62, zt_63, zt_64, zt_65, zt_66, zt_67, zt_68, zt_69, zt_81, zt_82, zt_99, zt_100, zt_120, zt_1000, zt_9999, zt_10000] at *; omega)
      | (refine zk_bsE rfl ?_; try dsimp only)
      | (refine zk_kI ?_; first | rfl | decide | (simp only [f_X12_element, B_X12_element_0, f_X12_whyNoPlace, B_X12_whyNoPlace_0, f_X12_isShelf, B_X12_isShelf_0, f_X12_in, B_X12_in_0, zk_b2, zk_b3, zk_b4, zk_b5, zk_b6, zk_let]; with_reducible refine (?_ : zk_k _ _))))
set_option maxHeartbeats 4000000 in
set_option maxRecDepth 100000 in
theorem pe_shift {g pf : Nat → Option Nat} {ae : Nat → Nat} {wb : Nat} (GF : ∀ t, t < 8 → g (24 + t) = some (ae 0)) (PF : ∀ j, j < 6 → pf j = some (ae (2 + 2 * j))) (j0 : Nat) (hj0 : j0 < 6) (j1 : Nat) (hj1 : j1 < 6) (a0 : Int32) (a1 : Int32) (a2 : Int32) (a3 : Int32) (a4 : Int32) (hp0 : (¬ a0 < 0 ∧ ¬ 6 ≤ a0) → a0.toNatClampNeg = j0) (hp1 : (¬ a2 < 0 ∧ ¬ 6 ≤ a2) → a2.toNatClampNeg = j1) : ∃ R1 R2, f_X11_shiftB (ae (2 + 2 * j0)) (ae (2 + 2 * j1)) a0 a1 a2 a3 a4 pf (-1) 0 0 (-1) 0 0 = some R1 ∧ f_X12_shift  4000 a0 a1 a2 a3 a4 0 0 0 0 0 0 0 0 0 0 0 0 0 0 0 0 0 ((upd (upd (upd (upd (upd (upd (fun _ => 0) ((0 : Int32)).toNatClampNeg (-1 : Int32)) ((1 : Int32)).toNatClampNeg (-1 : Int32)) ((2 : Int32)).toNatClampNeg (-1 : Int32)) ((3 : Int32)).toNatClampNeg (-1 : Int32)) ((4 : Int32)).toNatClampNeg (-1 : Int32)) ((5 : Int32)).toNatClampNeg (-1 : Int32))) ((fun _ => 0)) ((fun _ => 0)) ((fun _ => 0)) = some R2 ∧ R1.1 = R2.1 := by
  have hh : ∀ x : Int32, (¬ x < 0 ∧ ¬ 6 ≤ x) → (upd (upd (upd (upd (upd (upd (fun _ => 0) ((0 : Int32)).toNatClampNeg (-1 : Int32)) ((1 : Int32)).toNatClampNeg (-1 : Int32)) ((2 : Int32)).toNatClampNeg (-1 : Int32)) ((3 : Int32)).toNatClampNeg (-1 : Int32)) ((4 : Int32)).toNatClampNeg (-1 : Int32)) ((5 : Int32)).toNatClampNeg (-1 : Int32)) x.toNatClampNeg = -1 := by
    intro x hx
    rcases zk_c6 x with rfl | rfl | rfl | rfl | rfl | rfl | h
    · rfl
    · rfl
    · rfl
    · rfl
    · rfl
    · rfl
    · exact absurd hx (fun z => h.elim z.1 z.2)
  generalize (upd (upd (upd (upd (upd (upd (fun _ => 0) ((0 : Int32)).toNatClampNeg (-1 : Int32)) ((1 : Int32)).toNatClampNeg (-1 : Int32)) ((2 : Int32)).toNatClampNeg (-1 : Int32)) ((3 : Int32)).toNatClampNeg (-1 : Int32)) ((4 : Int32)).toNatClampNeg (-1 : Int32)) ((5 : Int32)).toNatClampNeg (-1 : Int32)) = HO at hh ⊢
  have hpf0 : (¬ a0 < 0 ∧ ¬ 6 ≤ a0) → pf a0.toNatClampNeg = some (ae (2 + 2 * j0)) := fun h => by rw [hp0 h]; exact PF j0 hj0
  have hpf1 : (¬ a2 < 0 ∧ ¬ 6 ≤ a2) → pf a2.toNatClampNeg = some (ae (2 + 2 * j1)) := fun h => by rw [hp1 h]; exact PF j1 hj1
  generalize ae (2 + 2 * j0) = A0 at *
  generalize ae (2 + 2 * j1) = A1 at *
  clear GF PF
  by_cases hA0 : ¬ a0 < 0 ∧ ¬ 6 ≤ a0
  · have e0 := hpf0 hA0
    have f0 := hh a0 hA0
    by_cases hA1 : ¬ a2 < 0 ∧ ¬ 6 ≤ a2
    · have e1 := hpf1 hA1
      have f1 := hh a2 hA1
      clear hh hpf0 hpf1
      refine zk_go ?_
      simp only [f_X11_shiftB, B_X11_shiftB_0, f_X11_placeAt, B_X11_placeAt_0, f_X6_hasRange, B_X6_hasRange_0, zk_b2, zk_b3, zk_b4, zk_b5, zk_b6, zk_let]
      repeat' (first
        | (with_reducible refine zk_kI ?_; first | rfl | decide | (simp only [f_X12_shift, B_X12_shift_0, f_X12_isShelf, B_X12_isShelf_0, f_X12_in, B_X12_in_0, B_X12_shift_113, B_X12_shift_150, zk_b2, zk_b3, zk_b4, zk_b5, zk_b6, zk_let]; done) | (simp only [f_X12_shift, B_X12_shift_0, f_X12_isShelf, B_X12_isShelf_0, f_X12_in, B_X12_in_0, B_X12_shift_113, B_X12_shift_150, zk_b2, zk_b3, zk_b4, zk_b5, zk_b6, zk_let]; with_reducible refine (?_ : zk_k _ _)) | with_reducible refine (?_ : zk_k _ _))
        | with_reducible refine zk_iteT (by assumption) ?_
        | with_reducible refine zk_iteF (by assumption) ?_
        | with_reducible refine zk_iteN (by assumption) ?_
        | with_reducible refine zk_iteT (by decide) ?_
        | with_reducible refine zk_iteF (by decide) ?_
        | with_reducible refine zk_biteT (by assumption) ?_
        | with_reducible refine zk_biteF (by assumption) ?_
        | with_reducible refine zk_biteN (by assumption) ?_
        | with_reducible refine zk_biteT (by decide) ?_
        | with_reducible refine zk_biteF (by decide) ?_
        | (with_reducible refine zk_bs ?_; try dsimp only)
        | with_reducible refine zk_bas ?_
        | with_reducible refine zk_ite (fun _ => ?_) (fun _ => ?_)
        | with_reducible refine zk_bite (fun _ => ?_) (fun _ => ?_)
        | (simp only [Option.bind_some, Option.bind_none, ↓reduceIte, reduceIte, eq_self, Bool.false_eq_true, or_true, true_or, or_false, false_or, or_self, and_true, true_and, and_false, false_and, not_true_eq_false, not_false_eq_true, e0, f0, e1, f1])
        | (exfalso; simp only [zs_01, zs_cl, Int32.lt_iff_toInt_lt, Int32.le_iff_toInt_le, ← Int32.toInt_inj, zt_m2000000000, zt_m100, zt_m15, zt_m14, zt_m13, zt_m12, zt_m11, zt_m10, zt_m9, zt_m8, zt_m7, zt_m6, zt_m5, zt_m4, zt_m3, zt_m2, zt_m1, zt_0, zt_1, zt_2, zt_3, zt_4, zt_5, zt_6, zt_7, zt_8, zt_9, zt_10, zt_11, zt_12, zt_13, zt_14, zt_15, zt_16, zt_17, zt_18, zt_19, zt_20, zt_21, zt_22, zt_23, zt_24, zt_25, zt_26, zt_27, zt_28, zt_29, zt_30, zt_31, zt_32, zt_33, zt_34, zt_35, zt_36, zt_37, zt_38, zt_39, zt_40, zt_41, zt_42, zt_43, zt_44, zt_45, zt_46, zt_47, zt_48, zt_49, zt_50, zt_51, zt_52, zt_53, zt_54, zt_55, zt_56, zt_57, zt_58, zt_59, zt_60, zt_61, zt_62, zt_63, zt_64, zt_65, zt_66, zt_67, zt_68, zt_69, zt_81, zt_82, zt_99, zt_100, zt_120, zt_1000, zt_9999, zt_10000] at *; omega)
        | (refine zk_bsE rfl ?_; try dsimp only)
        | (refine zk_kI ?_; first | rfl | decide | (simp only [f_X12_shift, B_X12_shift_0, f_X12_isShelf, B_X12_isShelf_0, f_X12_in, B_X12_in_0, B_X12_shift_113, B_X12_shift_150, zk_b2, zk_b3, zk_b4, zk_b5, zk_b6, zk_let]; with_reducible refine (?_ : zk_k _ _))))
    · clear hh hpf0 hpf1
      refine zk_go ?_
      simp only [f_X11_shiftB, B_X11_shiftB_0, f_X11_placeAt, B_X11_placeAt_0, f_X6_hasRange, B_X6_hasRange_0, zk_b2, zk_b3, zk_b4, zk_b5, zk_b6, zk_let]
      repeat' (first
        | (with_reducible refine zk_kI ?_; first | rfl | decide | (simp only [f_X12_shift, B_X12_shift_0, f_X12_isShelf, B_X12_isShelf_0, f_X12_in, B_X12_in_0, B_X12_shift_113, B_X12_shift_150, zk_b2, zk_b3, zk_b4, zk_b5, zk_b6, zk_let]; done) | (simp only [f_X12_shift, B_X12_shift_0, f_X12_isShelf, B_X12_isShelf_0, f_X12_in, B_X12_in_0, B_X12_shift_113, B_X12_shift_150, zk_b2, zk_b3, zk_b4, zk_b5, zk_b6, zk_let]; with_reducible refine (?_ : zk_k _ _)) | with_reducible refine (?_ : zk_k _ _))
        | with_reducible refine zk_iteT (by assumption) ?_
        | with_reducible refine zk_iteF (by assumption) ?_
        | with_reducible refine zk_iteN (by assumption) ?_
        | with_reducible refine zk_iteT (by decide) ?_
        | with_reducible refine zk_iteF (by decide) ?_
        | with_reducible refine zk_biteT (by assumption) ?_
        | with_reducible refine zk_biteF (by assumption) ?_
        | with_reducible refine zk_biteN (by assumption) ?_
        | with_reducible refine zk_biteT (by decide) ?_
        | with_reducible refine zk_biteF (by decide) ?_
        | (with_reducible refine zk_bs ?_; try dsimp only)
        | with_reducible refine zk_bas ?_
        | with_reducible refine zk_ite (fun _ => ?_) (fun _ => ?_)
        | with_reducible refine zk_bite (fun _ => ?_) (fun _ => ?_)
        | (simp only [Option.bind_some, Option.bind_none, ↓reduceIte, reduceIte, eq_self, Bool.false_eq_true, or_true, true_or, or_false, false_or, or_self, and_true, true_and, and_false, false_and, not_true_eq_false, not_false_eq_true, e0, f0])
        | (exfalso; simp only [zs_01, zs_cl, Int32.lt_iff_toInt_lt, Int32.le_iff_toInt_le, ← Int32.toInt_inj, zt_m2000000000, zt_m100, zt_m15, zt_m14, zt_m13, zt_m12, zt_m11, zt_m10, zt_m9, zt_m8, zt_m7, zt_m6, zt_m5, zt_m4, zt_m3, zt_m2, zt_m1, zt_0, zt_1, zt_2, zt_3, zt_4, zt_5, zt_6, zt_7, zt_8, zt_9, zt_10, zt_11, zt_12, zt_13, zt_14, zt_15, zt_16, zt_17, zt_18, zt_19, zt_20, zt_21, zt_22, zt_23, zt_24, zt_25, zt_26, zt_27, zt_28, zt_29, zt_30, zt_31, zt_32, zt_33, zt_34, zt_35, zt_36, zt_37, zt_38, zt_39, zt_40, zt_41, zt_42, zt_43, zt_44, zt_45, zt_46, zt_47, zt_48, zt_49, zt_50, zt_51, zt_52, zt_53, zt_54, zt_55, zt_56, zt_57, zt_58, zt_59, zt_60, zt_61, zt_62, zt_63, zt_64, zt_65, zt_66, zt_67, zt_68, zt_69, zt_81, zt_82, zt_99, zt_100, zt_120, zt_1000, zt_9999, zt_10000] at *; omega)
        | (refine zk_bsE rfl ?_; try dsimp only)
        | (refine zk_kI ?_; first | rfl | decide | (simp only [f_X12_shift, B_X12_shift_0, f_X12_isShelf, B_X12_isShelf_0, f_X12_in, B_X12_in_0, B_X12_shift_113, B_X12_shift_150, zk_b2, zk_b3, zk_b4, zk_b5, zk_b6, zk_let]; with_reducible refine (?_ : zk_k _ _))))
  · by_cases hA1 : ¬ a2 < 0 ∧ ¬ 6 ≤ a2
    · have e1 := hpf1 hA1
      have f1 := hh a2 hA1
      clear hh hpf0 hpf1
      refine zk_go ?_
      simp only [f_X11_shiftB, B_X11_shiftB_0, f_X11_placeAt, B_X11_placeAt_0, f_X6_hasRange, B_X6_hasRange_0, zk_b2, zk_b3, zk_b4, zk_b5, zk_b6, zk_let]
      repeat' (first
        | (with_reducible refine zk_kI ?_; first | rfl | decide | (simp only [f_X12_shift, B_X12_shift_0, f_X12_isShelf, B_X12_isShelf_0, f_X12_in, B_X12_in_0, B_X12_shift_113, B_X12_shift_150, zk_b2, zk_b3, zk_b4, zk_b5, zk_b6, zk_let]; done) | (simp only [f_X12_shift, B_X12_shift_0, f_X12_isShelf, B_X12_isShelf_0, f_X12_in, B_X12_in_0, B_X12_shift_113, B_X12_shift_150, zk_b2, zk_b3, zk_b4, zk_b5, zk_b6, zk_let]; with_reducible refine (?_ : zk_k _ _)) | with_reducible refine (?_ : zk_k _ _))
        | with_reducible refine zk_iteT (by assumption) ?_
        | with_reducible refine zk_iteF (by assumption) ?_
        | with_reducible refine zk_iteN (by assumption) ?_
        | with_reducible refine zk_iteT (by decide) ?_
        | with_reducible refine zk_iteF (by decide) ?_
        | with_reducible refine zk_biteT (by assumption) ?_
        | with_reducible refine zk_biteF (by assumption) ?_
        | with_reducible refine zk_biteN (by assumption) ?_
        | with_reducible refine zk_biteT (by decide) ?_
        | with_reducible refine zk_biteF (by decide) ?_
        | (with_reducible refine zk_bs ?_; try dsimp only)
        | with_reducible refine zk_bas ?_
        | with_reducible refine zk_ite (fun _ => ?_) (fun _ => ?_)
        | with_reducible refine zk_bite (fun _ => ?_) (fun _ => ?_)
        | (simp only [Option.bind_some, Option.bind_none, ↓reduceIte, reduceIte, eq_self, Bool.false_eq_true, or_true, true_or, or_false, false_or, or_self, and_true, true_and, and_false, false_and, not_true_eq_false, not_false_eq_true, e1, f1])
        | (exfalso; simp only [zs_01, zs_cl, Int32.lt_iff_toInt_lt, Int32.le_iff_toInt_le, ← Int32.toInt_inj, zt_m2000000000, zt_m100, zt_m15, zt_m14, zt_m13, zt_m12, zt_m11, zt_m10, zt_m9, zt_m8, zt_m7, zt_m6, zt_m5, zt_m4, zt_m3, zt_m2, zt_m1, zt_0, zt_1, zt_2, zt_3, zt_4, zt_5, zt_6, zt_7, zt_8, zt_9, zt_10, zt_11, zt_12, zt_13, zt_14, zt_15, zt_16, zt_17, zt_18, zt_19, zt_20, zt_21, zt_22, zt_23, zt_24, zt_25, zt_26, zt_27, zt_28, zt_29, zt_30, zt_31, zt_32, zt_33, zt_34, zt_35, zt_36, zt_37, zt_38, zt_39, zt_40, zt_41, zt_42, zt_43, zt_44, zt_45, zt_46, zt_47, zt_48, zt_49, zt_50, zt_51, zt_52, zt_53, zt_54, zt_55, zt_56, zt_57, zt_58, zt_59, zt_60, zt_61, zt_62, zt_63, zt_64, zt_65, zt_66, zt_67, zt_68, zt_69, zt_81, zt_82, zt_99, zt_100, zt_120, zt_1000, zt_9999, zt_10000] at *; omega)
        | (refine zk_bsE rfl ?_; try dsimp only)
        | (refine zk_kI ?_; first | rfl | decide | (simp only [f_X12_shift, B_X12_shift_0, f_X12_isShelf, B_X12_isShelf_0, f_X12_in, B_X12_in_0, B_X12_shift_113, B_X12_shift_150, zk_b2, zk_b3, zk_b4, zk_b5, zk_b6, zk_let]; with_reducible refine (?_ : zk_k _ _))))
    · clear hh hpf0 hpf1
      refine zk_go ?_
      simp only [f_X11_shiftB, B_X11_shiftB_0, f_X11_placeAt, B_X11_placeAt_0, f_X6_hasRange, B_X6_hasRange_0, zk_b2, zk_b3, zk_b4, zk_b5, zk_b6, zk_let]
      repeat' (first
        | (with_reducible refine zk_kI ?_; first | rfl | decide | (simp only [f_X12_shift, B_X12_shift_0, f_X12_isShelf, B_X12_isShelf_0, f_X12_in, B_X12_in_0, B_X12_shift_113, B_X12_shift_150, zk_b2, zk_b3, zk_b4, zk_b5, zk_b6, zk_let]; done) | (simp only [f_X12_shift, B_X12_shift_0, f_X12_isShelf, B_X12_isShelf_0, f_X12_in, B_X12_in_0, B_X12_shift_113, B_X12_shift_150, zk_b2, zk_b3, zk_b4, zk_b5, zk_b6, zk_let]; with_reducible refine (?_ : zk_k _ _)) | with_reducible refine (?_ : zk_k _ _))
        | with_reducible refine zk_iteT (by assumption) ?_
        | with_reducible refine zk_iteF (by assumption) ?_
        | with_reducible refine zk_iteN (by assumption) ?_
        | with_reducible refine zk_iteT (by decide) ?_
        | with_reducible refine zk_iteF (by decide) ?_
        | with_reducible refine zk_biteT (by assumption) ?_
        | with_reducible refine zk_biteF (by assumption) ?_
        | with_reducible refine zk_biteN (by assumption) ?_
        | with_reducible refine zk_biteT (by decide) ?_
        | with_reducible refine zk_biteF (by decide) ?_
        | (with_reducible refine zk_bs ?_; try dsimp only)
        | with_reducible refine zk_bas ?_
        | with_reducible refine zk_ite (fun _ => ?_) (fun _ => ?_)
        | with_reducible refine zk_bite (fun _ => ?_) (fun _ => ?_)
        | (simp only [Option.bind_some, Option.bind_none, ↓reduceIte, reduceIte, eq_self, Bool.false_eq_true, or_true, true_or, or_false, false_or, or_self, and_true, true_and, and_false, false_and, not_true_eq_false, not_false_eq_true])
        | (exfalso; simp only [zs_01, zs_cl, Int32.lt_iff_toInt_lt, Int32.le_iff_toInt_le, ← Int32.toInt_inj, zt_m2000000000, zt_m100, zt_m15, zt_m14, zt_m13, zt_m12, zt_m11, zt_m10, zt_m9, zt_m8, zt_m7, zt_m6, zt_m5, zt_m4, zt_m3, zt_m2, zt_m1, zt_0, zt_1, zt_2, zt_3, zt_4, zt_5, zt_6, zt_7, zt_8, zt_9, zt_10, zt_11, zt_12, zt_13, zt_14, zt_15, zt_16, zt_17, zt_18, zt_19, zt_20, zt_21, zt_22, zt_23, zt_24, zt_25, zt_26, zt_27, zt_28, zt_29, zt_30, zt_31, zt_32, zt_33, zt_34, zt_35, zt_36, zt_37, zt_38, zt_39, zt_40, zt_41, zt_42, zt_43, zt_44, zt_45, zt_46, zt_47, zt_48, zt_49, zt_50, zt_51, zt_52, zt_53, zt_54, zt_55, zt_56, zt_57, zt_58, zt_59, zt_60, zt_61, zt_62, zt_63, zt_64, zt_65, zt_66, zt_67, zt_68, zt_69, zt_81, zt_82, zt_99, zt_100, zt_120, zt_1000, zt_9999, zt_10000] at *; omega)
        | (refine zk_bsE rfl ?_; try dsimp only)
        | (refine zk_kI ?_; first | rfl | decide | (simp only [f_X12_shift, B_X12_shift_0, f_X12_isShelf, B_X12_isShelf_0, f_X12_in, B_X12_in_0, B_X12_shift_113, B_X12_shift_150, zk_b2, zk_b3, zk_b4, zk_b5, zk_b6, zk_let]; with_reducible refine (?_ : zk_k _ _))))
set_option maxHeartbeats 4000000 in
set_option maxRecDepth 100000 in
theorem pe_taken {g pf : Nat → Option Nat} {ae : Nat → Nat} {wb : Nat} (GF : ∀ t, t < 8 → g (24 + t) = some (ae 0)) (PF : ∀ j, j < 6 → pf j = some (ae (2 + 2 * j))) (j0 : Nat) (hj0 : j0 < 6) (a0 : Int32) (a1 : Int32) (hp0 : (¬ a0 < 0 ∧ ¬ 6 ≤ a0) → a0.toNatClampNeg = j0) : ∃ R1 R2, f_X11_taken (ae (2 + 2 * j0)) a0 a1 pf 0 0 0 (-1) 0 0 = some R1 ∧ f_X12_taken  a0 a1 0 0 0 0 0 0 0 0 0 0 0 0 0 0 0 0 0 ((fun _ => 0)) ((fun _ => 0)) ((upd (upd (upd (upd (upd (upd (fun _ => 0) ((0 : Int32)).toNatClampNeg (-1 : Int32)) ((1 : Int32)).toNatClampNeg (-1 : Int32)) ((2 : Int32)).toNatClampNeg (-1 : Int32)) ((3 : Int32)).toNatClampNeg (-1 : Int32)) ((4 : Int32)).toNatClampNeg (-1 : Int32)) ((5 : Int32)).toNatClampNeg (-1 : Int32))) = some R2 ∧ R1.1 = R2.1 := by
  have hh : ∀ x : Int32, (¬ x < 0 ∧ ¬ 6 ≤ x) → (upd (upd (upd (upd (upd (upd (fun _ => 0) ((0 : Int32)).toNatClampNeg (-1 : Int32)) ((1 : Int32)).toNatClampNeg (-1 : Int32)) ((2 : Int32)).toNatClampNeg (-1 : Int32)) ((3 : Int32)).toNatClampNeg (-1 : Int32)) ((4 : Int32)).toNatClampNeg (-1 : Int32)) ((5 : Int32)).toNatClampNeg (-1 : Int32)) x.toNatClampNeg = -1 := by
    intro x hx
    rcases zk_c6 x with rfl | rfl | rfl | rfl | rfl | rfl | h
    · rfl
    · rfl
    · rfl
    · rfl
    · rfl
    · rfl
    · exact absurd hx (fun z => h.elim z.1 z.2)
  generalize (upd (upd (upd (upd (upd (upd (fun _ => 0) ((0 : Int32)).toNatClampNeg (-1 : Int32)) ((1 : Int32)).toNatClampNeg (-1 : Int32)) ((2 : Int32)).toNatClampNeg (-1 : Int32)) ((3 : Int32)).toNatClampNeg (-1 : Int32)) ((4 : Int32)).toNatClampNeg (-1 : Int32)) ((5 : Int32)).toNatClampNeg (-1 : Int32)) = HO at hh ⊢
  have hpf0 : (¬ a0 < 0 ∧ ¬ 6 ≤ a0) → pf a0.toNatClampNeg = some (ae (2 + 2 * j0)) := fun h => by rw [hp0 h]; exact PF j0 hj0
  generalize ae (2 + 2 * j0) = A0 at *
  clear GF PF
  by_cases hA0 : ¬ a0 < 0 ∧ ¬ 6 ≤ a0
  · have e0 := hpf0 hA0
    have f0 := hh a0 hA0
    clear hh hpf0
    refine zk_go ?_
    simp only [f_X11_taken, B_X11_taken_0, f_X11_placeAt, B_X11_placeAt_0, f_X2_suitAt, B_X2_suitAt_0, B_X11_taken_56, zk_b2, zk_b3, zk_b4, zk_b5, zk_b6, zk_let]
    repeat' (first
      | (with_reducible refine zk_kI ?_; first | rfl | decide | (simp only [f_X12_taken, B_X12_taken_0, f_X12_isShelf, B_X12_isShelf_0, f_X12_in, B_X12_in_0, zk_b2, zk_b3, zk_b4, zk_b5, zk_b6, zk_let]; done) | (simp only [f_X12_taken, B_X12_taken_0, f_X12_isShelf, B_X12_isShelf_0, f_X12_in, B_X12_in_0, zk_b2, zk_b3, zk_b4, zk_b5, zk_b6, zk_let]; with_reducible refine (?_ : zk_k _ _)) | with_reducible refine (?_ : zk_k _ _))
      | with_reducible refine zk_iteT (by assumption) ?_
      | with_reducible refine zk_iteF (by assumption) ?_
      | with_reducible refine zk_iteN (by assumption) ?_
      | with_reducible refine zk_iteT (by decide) ?_
      | with_reducible refine zk_iteF (by decide) ?_
      | with_reducible refine zk_biteT (by assumption) ?_
      | with_reducible refine zk_biteF (by assumption) ?_
      | with_reducible refine zk_biteN (by assumption) ?_
      | with_reducible refine zk_biteT (by decide) ?_
      | with_reducible refine zk_biteF (by decide) ?_
      | (with_reducible refine zk_bs ?_; try dsimp only)
      | with_reducible refine zk_bas ?_
      | with_reducible refine zk_ite (fun _ => ?_) (fun _ => ?_)
      | with_reducible refine zk_bite (fun _ => ?_) (fun _ => ?_)
      | (simp only [Option.bind_some, Option.bind_none, ↓reduceIte, reduceIte, eq_self, Bool.false_eq_true, or_true, true_or, or_false, false_or, or_self, and_true, true_and, and_false, false_and, not_true_eq_false, not_false_eq_true, e0, f0])
      | (exfalso; simp only [zs_01, zs_cl, Int32.lt_iff_toInt_lt, Int32.le_iff_toInt_le, ← Int32.toInt_inj, zt_m2000000000, zt_m100, zt_m15, zt_m14, zt_m13, zt_m12, zt_m11, zt_m10, zt_m9, zt_m8, zt_m7, zt_m6, zt_m5, zt_m4, zt_m3, zt_m2, zt_m1, zt_0, zt_1, zt_2, zt_3, zt_4, zt_5, zt_6, zt_7, zt_8, zt_9, zt_10, zt_11, zt_12, zt_13, zt_14, zt_15, zt_16, zt_17, zt_18, zt_19, zt_20, zt_21, zt_22, zt_23, zt_24, zt_25, zt_26, zt_27, zt_28, zt_29, zt_30, zt_31, zt_32, zt_33, zt_34, zt_35, zt_36, zt_37, zt_38, zt_39, zt_40, zt_41, zt_42, zt_43, zt_44, zt_45, zt_46, zt_47, zt_48, zt_49, zt_50, zt_51, zt_52, zt_53, zt_54, zt_55, zt_56, zt_57, zt_58, zt_59, zt_60, zt_61, zt_62, zt_63, zt_64, zt_65, zt_66, zt_67, zt_68, zt_69, zt_81, zt_82, zt_99, zt_100, zt_120, zt_1000, zt_9999, zt_10000] at *; omega)
      | (refine zk_bsE rfl ?_; try dsimp only)
      | (refine zk_kI ?_; first | rfl | decide | (simp only [f_X12_taken, B_X12_taken_0, f_X12_isShelf, B_X12_isShelf_0, f_X12_in, B_X12_in_0, zk_b2, zk_b3, zk_b4, zk_b5, zk_b6, zk_let]; with_reducible refine (?_ : zk_k _ _))))
  · clear hh hpf0
    refine zk_go ?_
    simp only [f_X11_taken, B_X11_taken_0, f_X11_placeAt, B_X11_placeAt_0, f_X2_suitAt, B_X2_suitAt_0, B_X11_taken_56, zk_b2, zk_b3, zk_b4, zk_b5, zk_b6, zk_let]
    repeat' (first
      | (with_reducible refine zk_kI ?_; first | rfl | decide | (simp only [f_X12_taken, B_X12_taken_0, f_X12_isShelf, B_X12_isShelf_0, f_X12_in, B_X12_in_0, zk_b2, zk_b3, zk_b4, zk_b5, zk_b6, zk_let]; done) | (simp only [f_X12_taken, B_X12_taken_0, f_X12_isShelf, B_X12_isShelf_0, f_X12_in, B_X12_in_0, zk_b2, zk_b3, zk_b4, zk_b5, zk_b6, zk_let]; with_reducible refine (?_ : zk_k _ _)) | with_reducible refine (?_ : zk_k _ _))
      | with_reducible refine zk_iteT (by assumption) ?_
      | with_reducible refine zk_iteF (by assumption) ?_
      | with_reducible refine zk_iteN (by assumption) ?_
      | with_reducible refine zk_iteT (by decide) ?_
      | with_reducible refine zk_iteF (by decide) ?_
      | with_reducible refine zk_biteT (by assumption) ?_
      | with_reducible refine zk_biteF (by assumption) ?_
      | with_reducible refine zk_biteN (by assumption) ?_
      | with_reducible refine zk_biteT (by decide) ?_
      | with_reducible refine zk_biteF (by decide) ?_
      | (with_reducible refine zk_bs ?_; try dsimp only)
      | with_reducible refine zk_bas ?_
      | with_reducible refine zk_ite (fun _ => ?_) (fun _ => ?_)
      | with_reducible refine zk_bite (fun _ => ?_) (fun _ => ?_)
      | (simp only [Option.bind_some, Option.bind_none, ↓reduceIte, reduceIte, eq_self, Bool.false_eq_true, or_true, true_or, or_false, false_or, or_self, and_true, true_and, and_false, false_and, not_true_eq_false, not_false_eq_true])
      | (exfalso; simp only [zs_01, zs_cl, Int32.lt_iff_toInt_lt, Int32.le_iff_toInt_le, ← Int32.toInt_inj, zt_m2000000000, zt_m100, zt_m15, zt_m14, zt_m13, zt_m12, zt_m11, zt_m10, zt_m9, zt_m8, zt_m7, zt_m6, zt_m5, zt_m4, zt_m3, zt_m2, zt_m1, zt_0, zt_1, zt_2, zt_3, zt_4, zt_5, zt_6, zt_7, zt_8, zt_9, zt_10, zt_11, zt_12, zt_13, zt_14, zt_15, zt_16, zt_17, zt_18, zt_19, zt_20, zt_21, zt_22, zt_23, zt_24, zt_25, zt_26, zt_27, zt_28, zt_29, zt_30, zt_31, zt_32, zt_33, zt_34, zt_35, zt_36, zt_37, zt_38, zt_39, zt_40, zt_41, zt_42, zt_43, zt_44, zt_45, zt_46, zt_47, zt_48, zt_49, zt_50, zt_51, zt_52, zt_53, zt_54, zt_55, zt_56, zt_57, zt_58, zt_59, zt_60, zt_61, zt_62, zt_63, zt_64, zt_65, zt_66, zt_67, zt_68, zt_69, zt_81, zt_82, zt_99, zt_100, zt_120, zt_1000, zt_9999, zt_10000] at *; omega)
      | (refine zk_bsE rfl ?_; try dsimp only)
      | (refine zk_kI ?_; first | rfl | decide | (simp only [f_X12_taken, B_X12_taken_0, f_X12_isShelf, B_X12_isShelf_0, f_X12_in, B_X12_in_0, zk_b2, zk_b3, zk_b4, zk_b5, zk_b6, zk_let]; with_reducible refine (?_ : zk_k _ _))))
set_option maxHeartbeats 4000000 in
set_option maxRecDepth 100000 in
theorem pe_count {g pf : Nat → Option Nat} {ae : Nat → Nat} {wb : Nat} (GF : ∀ t, t < 8 → g (24 + t) = some (ae 0)) (PF : ∀ j, j < 6 → pf j = some (ae (2 + 2 * j))) (a0 : Int32) : ∃ R1 R2, f_X11_count  a0 0 0 0 0 0 (.ref wb) 0 0 0 0 0 0 0 0 = some R1 ∧ f_X12_count  a0 0 0 0 0 0 0 0 0 0 0 0 0 0 0 0 0 0 = some R2 ∧ R1.1 = R2.1 := by
  refine zk_go ?_
  clear GF PF
  simp only [f_X11_count, B_X11_count_0, zk_b2, zk_b3, zk_b4, zk_b5, zk_b6, zk_let]
  repeat' (first
    | (with_reducible refine zk_kI ?_; first | rfl | decide | (simp only [f_X12_count, B_X12_count_0, zk_b2, zk_b3, zk_b4, zk_b5, zk_b6, zk_let]; done) | (simp only [f_X12_count, B_X12_count_0, zk_b2, zk_b3, zk_b4, zk_b5, zk_b6, zk_let]; with_reducible refine (?_ : zk_k _ _)) | with_reducible refine (?_ : zk_k _ _))
    | with_reducible refine zk_iteT (by assumption) ?_
    | with_reducible refine zk_iteF (by assumption) ?_
    | with_reducible refine zk_iteN (by assumption) ?_
    | with_reducible refine zk_iteT (by decide) ?_
    | with_reducible refine zk_iteF (by decide) ?_
    | with_reducible refine zk_biteT (by assumption) ?_
    | with_reducible refine zk_biteF (by assumption) ?_
    | with_reducible refine zk_biteN (by assumption) ?_
    | with_reducible refine zk_biteT (by decide) ?_
    | with_reducible refine zk_biteF (by decide) ?_
    | (with_reducible refine zk_bs ?_; try dsimp only)
    | with_reducible refine zk_bas ?_
    | with_reducible refine zk_ite (fun _ => ?_) (fun _ => ?_)
    | with_reducible refine zk_bite (fun _ => ?_) (fun _ => ?_)
    | (simp only [Option.bind_some, Option.bind_none, ↓reduceIte, reduceIte, eq_self, Bool.false_eq_true, or_true, true_or, or_false, false_or, or_self, and_true, true_and, and_false, false_and, not_true_eq_false, not_false_eq_true])
    | (exfalso; simp only [zs_01, zs_cl, Int32.lt_iff_toInt_lt, Int32.le_iff_toInt_le, ← Int32.toInt_inj, zt_m2000000000, zt_m100, zt_m15, zt_m14, zt_m13, zt_m12, zt_m11, zt_m10, zt_m9, zt_m8, zt_m7, zt_m6, zt_m5, zt_m4, zt_m3, zt_m2, zt_m1, zt_0, zt_1, zt_2, zt_3, zt_4, zt_5, zt_6, zt_7, zt_8, zt_9, zt_10, zt_11, zt_12, zt_13, zt_14, zt_15, zt_16, zt_17, zt_18, zt_19, zt_20, zt_21, zt_22, zt_23, zt_24, zt_25, zt_26, zt_27, zt_28, zt_29, zt_30, zt_31, zt_32, zt_33, zt_34, zt_35, zt_36, zt_37, zt_38, zt_39, zt_40, zt_41, zt_42, zt_43, zt_44, zt_45, zt_46, zt_47, zt_48, zt_49, zt_50, zt_51, zt_52, zt_53, zt_54, zt_55, zt_56, zt_57, zt_58, zt_59, zt_60, zt_61, zt_62, zt_63, zt_64, zt_65, zt_66, zt_67, zt_68, zt_69, zt_81, zt_82, zt_99, zt_100, zt_120, zt_1000, zt_9999, zt_10000] at *; omega)
    | (refine zk_bsE rfl ?_; try dsimp only)
    | (refine zk_kI ?_; first | rfl | decide | (simp only [f_X12_count, B_X12_count_0, zk_b2, zk_b3, zk_b4, zk_b5, zk_b6, zk_let]; with_reducible refine (?_ : zk_k _ _))))
set_option maxHeartbeats 4000000 in
set_option maxRecDepth 100000 in
theorem pe_shiftA {g pf : Nat → Option Nat} {ae : Nat → Nat} {wb : Nat} (GF : ∀ t, t < 8 → g (24 + t) = some (ae 0)) (PF : ∀ j, j < 6 → pf j = some (ae (2 + 2 * j))) (j0 : Nat) (hj0 : j0 < 6) (a0 : Int32) (a1 : Int32) (a2 : Int32) (a3 : Int32) (a4 : Int32) (hp0 : (¬ a0 < 0 ∧ ¬ 6 ≤ a0) → a0.toNatClampNeg = j0) (hp1 : (¬ a2 < 0 ∧ ¬ 6 ≤ a2) → a2.toNatClampNeg = j0) : ∃ R1 R2, f_X11_shift (ae (2 + 2 * j0)) a0 a1 a2 a3 a4 pf (-1) 0 0 = some R1 ∧ f_X12_shift  4000 a0 a1 a2 a3 a4 0 0 0 0 0 0 0 0 0 0 0 0 0 0 0 0 0 ((upd (upd (upd (upd (upd (upd (fun _ => 0) ((0 : Int32)).toNatClampNeg (-1 : Int32)) ((1 : Int32)).toNatClampNeg (-1 : Int32)) ((2 : Int32)).toNatClampNeg (-1 : Int32)) ((3 : Int32)).toNatClampNeg (-1 : Int32)) ((4 : Int32)).toNatClampNeg (-1 : Int32)) ((5 : Int32)).toNatClampNeg (-1 : Int32))) ((fun _ => 0)) ((fun _ => 0)) ((fun _ => 0)) = some R2 ∧ R1.1 = R2.1 := by
  have hh : ∀ x : Int32, (¬ x < 0 ∧ ¬ 6 ≤ x) → (upd (upd (upd (upd (upd (upd (fun _ => 0) ((0 : Int32)).toNatClampNeg (-1 : Int32)) ((1 : Int32)).toNatClampNeg (-1 : Int32)) ((2 : Int32)).toNatClampNeg (-1 : Int32)) ((3 : Int32)).toNatClampNeg (-1 : Int32)) ((4 : Int32)).toNatClampNeg (-1 : Int32)) ((5 : Int32)).toNatClampNeg (-1 : Int32)) x.toNatClampNeg = -1 := by
    intro x hx
    rcases zk_c6 x with rfl | rfl | rfl | rfl | rfl | rfl | h
    · rfl
    · rfl
    · rfl
    · rfl
    · rfl
    · rfl
    · exact absurd hx (fun z => h.elim z.1 z.2)
  generalize (upd (upd (upd (upd (upd (upd (fun _ => 0) ((0 : Int32)).toNatClampNeg (-1 : Int32)) ((1 : Int32)).toNatClampNeg (-1 : Int32)) ((2 : Int32)).toNatClampNeg (-1 : Int32)) ((3 : Int32)).toNatClampNeg (-1 : Int32)) ((4 : Int32)).toNatClampNeg (-1 : Int32)) ((5 : Int32)).toNatClampNeg (-1 : Int32)) = HO at hh ⊢
  have hpf0 : (¬ a0 < 0 ∧ ¬ 6 ≤ a0) → pf a0.toNatClampNeg = some (ae (2 + 2 * j0)) := fun h => by rw [hp0 h]; exact PF j0 hj0
  have hpf1 : (¬ a2 < 0 ∧ ¬ 6 ≤ a2) → pf a2.toNatClampNeg = some (ae (2 + 2 * j0)) := fun h => by rw [hp1 h]; exact PF j0 hj0
  generalize ae (2 + 2 * j0) = A0 at *
  clear GF PF
  by_cases hA0 : ¬ a0 < 0 ∧ ¬ 6 ≤ a0
  · have e0 := hpf0 hA0
    have f0 := hh a0 hA0
    by_cases hA1 : ¬ a2 < 0 ∧ ¬ 6 ≤ a2
    · have e1 := hpf1 hA1
      have f1 := hh a2 hA1
      clear hh hpf0 hpf1
      refine zk_go ?_
      simp only [f_X11_shift, B_X11_shift_0, f_X11_placeAt, B_X11_placeAt_0, f_X6_hasRange, B_X6_hasRange_0, zk_b2, zk_b3, zk_b4, zk_b5, zk_b6, zk_let]
      repeat' (first
        | (with_reducible refine zk_kI ?_; first | rfl | decide | (simp only [f_X12_shift, B_X12_shift_0, f_X12_isShelf, B_X12_isShelf_0, f_X12_in, B_X12_in_0, B_X12_shift_113, B_X12_shift_150, zk_b2, zk_b3, zk_b4, zk_b5, zk_b6, zk_let]; done) | (simp only [f_X12_shift, B_X12_shift_0, f_X12_isShelf, B_X12_isShelf_0, f_X12_in, B_X12_in_0, B_X12_shift_113, B_X12_shift_150, zk_b2, zk_b3, zk_b4, zk_b5, zk_b6, zk_let]; with_reducible refine (?_ : zk_k _ _)) | with_reducible refine (?_ : zk_k _ _))
        | with_reducible refine zk_iteT (by assumption) ?_
        | with_reducible refine zk_iteF (by assumption) ?_
        | with_reducible refine zk_iteN (by assumption) ?_
        | with_reducible refine zk_iteT (by decide) ?_
        | with_reducible refine zk_iteF (by decide) ?_
        | with_reducible refine zk_biteT (by assumption) ?_
        | with_reducible refine zk_biteF (by assumption) ?_
        | with_reducible refine zk_biteN (by assumption) ?_
        | with_reducible refine zk_biteT (by decide) ?_
        | with_reducible refine zk_biteF (by decide) ?_
        | (with_reducible refine zk_bs ?_; try dsimp only)
        | with_reducible refine zk_bas ?_
        | with_reducible refine zk_ite (fun _ => ?_) (fun _ => ?_)
        | with_reducible refine zk_bite (fun _ => ?_) (fun _ => ?_)
        | (simp only [Option.bind_some, Option.bind_none, ↓reduceIte, reduceIte, eq_self, Bool.false_eq_true, or_true, true_or, or_false, false_or, or_self, and_true, true_and, and_false, false_and, not_true_eq_false, not_false_eq_true, e0, f0, e1, f1])
        | (exfalso; simp only [zs_01, zs_cl, Int32.lt_iff_toInt_lt, Int32.le_iff_toInt_le, ← Int32.toInt_inj, zt_m2000000000, zt_m100, zt_m15, zt_m14, zt_m13, zt_m12, zt_m11, zt_m10, zt_m9, zt_m8, zt_m7, zt_m6, zt_m5, zt_m4, zt_m3, zt_m2, zt_m1, zt_0, zt_1, zt_2, zt_3, zt_4, zt_5, zt_6, zt_7, zt_8, zt_9, zt_10, zt_11, zt_12, zt_13, zt_14, zt_15, zt_16, zt_17, zt_18, zt_19, zt_20, zt_21, zt_22, zt_23, zt_24, zt_25, zt_26, zt_27, zt_28, zt_29, zt_30, zt_31, zt_32, zt_33, zt_34, zt_35, zt_36, zt_37, zt_38, zt_39, zt_40, zt_41, zt_42, zt_43, zt_44, zt_45, zt_46, zt_47, zt_48, zt_49, zt_50, zt_51, zt_52, zt_53, zt_54, zt_55, zt_56, zt_57, zt_58, zt_59, zt_60, zt_61, zt_62, zt_63, zt_64, zt_65, zt_66, zt_67, zt_68, zt_69, zt_81, zt_82, zt_99, zt_100, zt_120, zt_1000, zt_9999, zt_10000] at *; omega)
        | (refine zk_bsE rfl ?_; try dsimp only)
        | (refine zk_kI ?_; first | rfl | decide | (simp only [f_X12_shift, B_X12_shift_0, f_X12_isShelf, B_X12_isShelf_0, f_X12_in, B_X12_in_0, B_X12_shift_113, B_X12_shift_150, zk_b2, zk_b3, zk_b4, zk_b5, zk_b6, zk_let]; with_reducible refine (?_ : zk_k _ _))))
    · clear hh hpf0 hpf1
      refine zk_go ?_
      simp only [f_X11_shift, B_X11_shift_0, f_X11_placeAt, B_X11_placeAt_0, f_X6_hasRange, B_X6_hasRange_0, zk_b2, zk_b3, zk_b4, zk_b5, zk_b6, zk_let]
      repeat' (first
        | (with_reducible refine zk_kI ?_; first | rfl | decide | (simp only [f_X12_shift, B_X12_shift_0, f_X12_isShelf, B_X12_isShelf_0, f_X12_in, B_X12_in_0, B_X12_shift_113, B_X12_shift_150, zk_b2, zk_b3, zk_b4, zk_b5, zk_b6, zk_let]; done) | (simp only [f_X12_shift, B_X12_shift_0, f_X12_isShelf, B_X12_isShelf_0, f_X12_in, B_X12_in_0, B_X12_shift_113, B_X12_shift_150, zk_b2, zk_b3, zk_b4, zk_b5, zk_b6, zk_let]; with_reducible refine (?_ : zk_k _ _)) | with_reducible refine (?_ : zk_k _ _))
        | with_reducible refine zk_iteT (by assumption) ?_
        | with_reducible refine zk_iteF (by assumption) ?_
        | with_reducible refine zk_iteN (by assumption) ?_
        | with_reducible refine zk_iteT (by decide) ?_
        | with_reducible refine zk_iteF (by decide) ?_
        | with_reducible refine zk_biteT (by assumption) ?_
        | with_reducible refine zk_biteF (by assumption) ?_
        | with_reducible refine zk_biteN (by assumption) ?_
        | with_reducible refine zk_biteT (by decide) ?_
        | with_reducible refine zk_biteF (by decide) ?_
        | (with_reducible refine zk_bs ?_; try dsimp only)
        | with_reducible refine zk_bas ?_
        | with_reducible refine zk_ite (fun _ => ?_) (fun _ => ?_)
        | with_reducible refine zk_bite (fun _ => ?_) (fun _ => ?_)
        | (simp only [Option.bind_some, Option.bind_none, ↓reduceIte, reduceIte, eq_self, Bool.false_eq_true, or_true, true_or, or_false, false_or, or_self, and_true, true_and, and_false, false_and, not_true_eq_false, not_false_eq_true, e0, f0])
        | (exfalso; simp only [zs_01, zs_cl, Int32.lt_iff_toInt_lt, Int32.le_iff_toInt_le, ← Int32.toInt_inj, zt_m2000000000, zt_m100, zt_m15, zt_m14, zt_m13, zt_m12, zt_m11, zt_m10, zt_m9, zt_m8, zt_m7, zt_m6, zt_m5, zt_m4, zt_m3, zt_m2, zt_m1, zt_0, zt_1, zt_2, zt_3, zt_4, zt_5, zt_6, zt_7, zt_8, zt_9, zt_10, zt_11, zt_12, zt_13, zt_14, zt_15, zt_16, zt_17, zt_18, zt_19, zt_20, zt_21, zt_22, zt_23, zt_24, zt_25, zt_26, zt_27, zt_28, zt_29, zt_30, zt_31, zt_32, zt_33, zt_34, zt_35, zt_36, zt_37, zt_38, zt_39, zt_40, zt_41, zt_42, zt_43, zt_44, zt_45, zt_46, zt_47, zt_48, zt_49, zt_50, zt_51, zt_52, zt_53, zt_54, zt_55, zt_56, zt_57, zt_58, zt_59, zt_60, zt_61, zt_62, zt_63, zt_64, zt_65, zt_66, zt_67, zt_68, zt_69, zt_81, zt_82, zt_99, zt_100, zt_120, zt_1000, zt_9999, zt_10000] at *; omega)
        | (refine zk_bsE rfl ?_; try dsimp only)
        | (refine zk_kI ?_; first | rfl | decide | (simp only [f_X12_shift, B_X12_shift_0, f_X12_isShelf, B_X12_isShelf_0, f_X12_in, B_X12_in_0, B_X12_shift_113, B_X12_shift_150, zk_b2, zk_b3, zk_b4, zk_b5, zk_b6, zk_let]; with_reducible refine (?_ : zk_k _ _))))
  · by_cases hA1 : ¬ a2 < 0 ∧ ¬ 6 ≤ a2
    · have e1 := hpf1 hA1
      have f1 := hh a2 hA1
      clear hh hpf0 hpf1
      refine zk_go ?_
      simp only [f_X11_shift, B_X11_shift_0, f_X11_placeAt, B_X11_placeAt_0, f_X6_hasRange, B_X6_hasRange_0, zk_b2, zk_b3, zk_b4, zk_b5, zk_b6, zk_let]
      repeat' (first
        | (with_reducible refine zk_kI ?_; first | rfl | decide | (simp only [f_X12_shift, B_X12_shift_0, f_X12_isShelf, B_X12_isShelf_0, f_X12_in, B_X12_in_0, B_X12_shift_113, B_X12_shift_150, zk_b2, zk_b3, zk_b4, zk_b5, zk_b6, zk_let]; done) | (simp only [f_X12_shift, B_X12_shift_0, f_X12_isShelf, B_X12_isShelf_0, f_X12_in, B_X12_in_0, B_X12_shift_113, B_X12_shift_150, zk_b2, zk_b3, zk_b4, zk_b5, zk_b6, zk_let]; with_reducible refine (?_ : zk_k _ _)) | with_reducible refine (?_ : zk_k _ _))
        | with_reducible refine zk_iteT (by assumption) ?_
        | with_reducible refine zk_iteF (by assumption) ?_
        | with_reducible refine zk_iteN (by assumption) ?_
        | with_reducible refine zk_iteT (by decide) ?_
        | with_reducible refine zk_iteF (by decide) ?_
        | with_reducible refine zk_biteT (by assumption) ?_
        | with_reducible refine zk_biteF (by assumption) ?_
        | with_reducible refine zk_biteN (by assumption) ?_
        | with_reducible refine zk_biteT (by decide) ?_
        | with_reducible refine zk_biteF (by decide) ?_
        | (with_reducible refine zk_bs ?_; try dsimp only)
        | with_reducible refine zk_bas ?_
        | with_reducible refine zk_ite (fun _ => ?_) (fun _ => ?_)
        | with_reducible refine zk_bite (fun _ => ?_) (fun _ => ?_)
        | (simp only [Option.bind_some, Option.bind_none, ↓reduceIte, reduceIte, eq_self, Bool.false_eq_true, or_true, true_or, or_false, false_or, or_self, and_true, true_and, and_false, false_and, not_true_eq_false, not_false_eq_true, e1, f1])
        | (exfalso; simp only [zs_01, zs_cl, Int32.lt_iff_toInt_lt, Int32.le_iff_toInt_le, ← Int32.toInt_inj, zt_m2000000000, zt_m100, zt_m15, zt_m14, zt_m13, zt_m12, zt_m11, zt_m10, zt_m9, zt_m8, zt_m7, zt_m6, zt_m5, zt_m4, zt_m3, zt_m2, zt_m1, zt_0, zt_1, zt_2, zt_3, zt_4, zt_5, zt_6, zt_7, zt_8, zt_9, zt_10, zt_11, zt_12, zt_13, zt_14, zt_15, zt_16, zt_17, zt_18, zt_19, zt_20, zt_21, zt_22, zt_23, zt_24, zt_25, zt_26, zt_27, zt_28, zt_29, zt_30, zt_31, zt_32, zt_33, zt_34, zt_35, zt_36, zt_37, zt_38, zt_39, zt_40, zt_41, zt_42, zt_43, zt_44, zt_45, zt_46, zt_47, zt_48, zt_49, zt_50, zt_51, zt_52, zt_53, zt_54, zt_55, zt_56, zt_57, zt_58, zt_59, zt_60, zt_61, zt_62, zt_63, zt_64, zt_65, zt_66, zt_67, zt_68, zt_69, zt_81, zt_82, zt_99, zt_100, zt_120, zt_1000, zt_9999, zt_10000] at *; omega)
        | (refine zk_bsE rfl ?_; try dsimp only)
        | (refine zk_kI ?_; first | rfl | decide | (simp only [f_X12_shift, B_X12_shift_0, f_X12_isShelf, B_X12_isShelf_0, f_X12_in, B_X12_in_0, B_X12_shift_113, B_X12_shift_150, zk_b2, zk_b3, zk_b4, zk_b5, zk_b6, zk_let]; with_reducible refine (?_ : zk_k _ _))))
    · clear hh hpf0 hpf1
      refine zk_go ?_
      simp only [f_X11_shift, B_X11_shift_0, f_X11_placeAt, B_X11_placeAt_0, f_X6_hasRange, B_X6_hasRange_0, zk_b2, zk_b3, zk_b4, zk_b5, zk_b6, zk_let]
      repeat' (first
        | (with_reducible refine zk_kI ?_; first | rfl | decide | (simp only [f_X12_shift, B_X12_shift_0, f_X12_isShelf, B_X12_isShelf_0, f_X12_in, B_X12_in_0, B_X12_shift_113, B_X12_shift_150, zk_b2, zk_b3, zk_b4, zk_b5, zk_b6, zk_let]; done) | (simp only [f_X12_shift, B_X12_shift_0, f_X12_isShelf, B_X12_isShelf_0, f_X12_in, B_X12_in_0, B_X12_shift_113, B_X12_shift_150, zk_b2, zk_b3, zk_b4, zk_b5, zk_b6, zk_let]; with_reducible refine (?_ : zk_k _ _)) | with_reducible refine (?_ : zk_k _ _))
        | with_reducible refine zk_iteT (by assumption) ?_
        | with_reducible refine zk_iteF (by assumption) ?_
        | with_reducible refine zk_iteN (by assumption) ?_
        | with_reducible refine zk_iteT (by decide) ?_
        | with_reducible refine zk_iteF (by decide) ?_
        | with_reducible refine zk_biteT (by assumption) ?_
        | with_reducible refine zk_biteF (by assumption) ?_
        | with_reducible refine zk_biteN (by assumption) ?_
        | with_reducible refine zk_biteT (by decide) ?_
        | with_reducible refine zk_biteF (by decide) ?_
        | (with_reducible refine zk_bs ?_; try dsimp only)
        | with_reducible refine zk_bas ?_
        | with_reducible refine zk_ite (fun _ => ?_) (fun _ => ?_)
        | with_reducible refine zk_bite (fun _ => ?_) (fun _ => ?_)
        | (simp only [Option.bind_some, Option.bind_none, ↓reduceIte, reduceIte, eq_self, Bool.false_eq_true, or_true, true_or, or_false, false_or, or_self, and_true, true_and, and_false, false_and, not_true_eq_false, not_false_eq_true])
        | (exfalso; simp only [zs_01, zs_cl, Int32.lt_iff_toInt_lt, Int32.le_iff_toInt_le, ← Int32.toInt_inj, zt_m2000000000, zt_m100, zt_m15, zt_m14, zt_m13, zt_m12, zt_m11, zt_m10, zt_m9, zt_m8, zt_m7, zt_m6, zt_m5, zt_m4, zt_m3, zt_m2, zt_m1, zt_0, zt_1, zt_2, zt_3, zt_4, zt_5, zt_6, zt_7, zt_8, zt_9, zt_10, zt_11, zt_12, zt_13, zt_14, zt_15, zt_16, zt_17, zt_18, zt_19, zt_20, zt_21, zt_22, zt_23, zt_24, zt_25, zt_26, zt_27, zt_28, zt_29, zt_30, zt_31, zt_32, zt_33, zt_34, zt_35, zt_36, zt_37, zt_38, zt_39, zt_40, zt_41, zt_42, zt_43, zt_44, zt_45, zt_46, zt_47, zt_48, zt_49, zt_50, zt_51, zt_52, zt_53, zt_54, zt_55, zt_56, zt_57, zt_58, zt_59, zt_60, zt_61, zt_62, zt_63, zt_64, zt_65, zt_66, zt_67, zt_68, zt_69, zt_81, zt_82, zt_99, zt_100, zt_120, zt_1000, zt_9999, zt_10000] at *; omega)
        | (refine zk_bsE rfl ?_; try dsimp only)
        | (refine zk_kI ?_; first | rfl | decide | (simp only [f_X12_shift, B_X12_shift_0, f_X12_isShelf, B_X12_isShelf_0, f_X12_in, B_X12_in_0, B_X12_shift_113, B_X12_shift_150, zk_b2, zk_b3, zk_b4, zk_b5, zk_b6, zk_let]; with_reducible refine (?_ : zk_k _ _))))
