
def zp {A : Type} (x : Option A) (P : A → Prop) : Prop := ∃ R, x = some R ∧ P R
section ZP
variable {A B : Type} {P : A → Prop} {c : Prop} {x y : Option A}
theorem zp_i {a : A} (h : P a) : zp (some a) P := ⟨a, rfl, h⟩
theorem zp_ite {d : Decidable c} (h1 : c → zp x P) (h2 : ¬ c → zp y P) : zp (@ite _ c d x y) P := by
  by_cases h : c
  · rw [if_pos h]; exact h1 h
  · rw [if_neg h]; exact h2 h
theorem zp_g {d : Decidable c} (h : ¬ c) (h2 : zp y P) : zp (@ite _ c d none y) P := by rw [if_neg h]; exact h2
theorem zp_let {a : B} {k : B → Option A} (h : ∀ v, v = a → zp (k v) P) : zp (zk_let a k) P := h a rfl
theorem zp_w {Q : A → Prop} (h : zp x Q) (hq : ∀ a, Q a → P a) : zp x P := by
  obtain ⟨R, e, h⟩ := h
  exact ⟨R, e, hq R h⟩
theorem zp_b1 {x : Option B} {k : B → Option A} {Q : B → Prop} (h : zp x Q) (hk : ∀ a, Q a → zp (k a) P) : zp (zk_b1 x k) P := by
  obtain ⟨R, e, h⟩ := h
  subst e
  exact hk R h
theorem zp_b2 {A0 A1 : Type} {x : Option (A0 × A1)} {k : A0 → A1 → Option A} {Q : A0 × A1 → Prop} (h : zp x Q) (hk : ∀ a0 a1, Q (a0, a1) → zp (k a0 a1) P) : zp (zk_b2 x k) P := by
  obtain ⟨⟨a0, a1⟩, e, h⟩ := h
  subst e
  exact hk a0 a1 h
theorem zp_b3 {A0 A1 A2 : Type} {x : Option (A0 × A1 × A2)} {k : A0 → A1 → A2 → Option A} {Q : A0 × A1 × A2 → Prop} (h : zp x Q) (hk : ∀ a0 a1 a2, Q (a0, a1, a2) → zp (k a0 a1 a2) P) : zp (zk_b3 x k) P := by
  obtain ⟨⟨a0, a1, a2⟩, e, h⟩ := h
  subst e
  exact hk a0 a1 a2 h
theorem zp_b4 {A0 A1 A2 A3 : Type} {x : Option (A0 × A1 × A2 × A3)} {k : A0 → A1 → A2 → A3 → Option A} {Q : A0 × A1 × A2 × A3 → Prop} (h : zp x Q) (hk : ∀ a0 a1 a2 a3, Q (a0, a1, a2, a3) → zp (k a0 a1 a2 a3) P) : zp (zk_b4 x k) P := by
  obtain ⟨⟨a0, a1, a2, a3⟩, e, h⟩ := h
  subst e
  exact hk a0 a1 a2 a3 h
theorem zp_b5 {A0 A1 A2 A3 A4 : Type} {x : Option (A0 × A1 × A2 × A3 × A4)} {k : A0 → A1 → A2 → A3 → A4 → Option A} {Q : A0 × A1 × A2 × A3 × A4 → Prop} (h : zp x Q) (hk : ∀ a0 a1 a2 a3 a4, Q (a0, a1, a2, a3, a4) → zp (k a0 a1 a2 a3 a4) P) : zp (zk_b5 x k) P := by
  obtain ⟨⟨a0, a1, a2, a3, a4⟩, e, h⟩ := h
  subst e
  exact hk a0 a1 a2 a3 a4 h
theorem zp_b6 {A0 A1 A2 A3 A4 A5 : Type} {x : Option (A0 × A1 × A2 × A3 × A4 × A5)} {k : A0 → A1 → A2 → A3 → A4 → A5 → Option A} {Q : A0 × A1 × A2 × A3 × A4 × A5 → Prop} (h : zp x Q) (hk : ∀ a0 a1 a2 a3 a4 a5, Q (a0, a1, a2, a3, a4, a5) → zp (k a0 a1 a2 a3 a4 a5) P) : zp (zk_b6 x k) P := by
  obtain ⟨⟨a0, a1, a2, a3, a4, a5⟩, e, h⟩ := h
  subst e
  exact hk a0 a1 a2 a3 a4 a5 h
theorem zp_b7 {A0 A1 A2 A3 A4 A5 A6 : Type} {x : Option (A0 × A1 × A2 × A3 × A4 × A5 × A6)} {k : A0 → A1 → A2 → A3 → A4 → A5 → A6 → Option A} {Q : A0 × A1 × A2 × A3 × A4 × A5 × A6 → Prop} (h : zp x Q) (hk : ∀ a0 a1 a2 a3 a4 a5 a6, Q (a0, a1, a2, a3, a4, a5, a6) → zp (k a0 a1 a2 a3 a4 a5 a6) P) : zp (zk_b7 x k) P := by
  obtain ⟨⟨a0, a1, a2, a3, a4, a5, a6⟩, e, h⟩ := h
  subst e
  exact hk a0 a1 a2 a3 a4 a5 a6 h
theorem zp_b8 {A0 A1 A2 A3 A4 A5 A6 A7 : Type} {x : Option (A0 × A1 × A2 × A3 × A4 × A5 × A6 × A7)} {k : A0 → A1 → A2 → A3 → A4 → A5 → A6 → A7 → Option A} {Q : A0 × A1 × A2 × A3 × A4 × A5 × A6 × A7 → Prop} (h : zp x Q) (hk : ∀ a0 a1 a2 a3 a4 a5 a6 a7, Q (a0, a1, a2, a3, a4, a5, a6, a7) → zp (k a0 a1 a2 a3 a4 a5 a6 a7) P) : zp (zk_b8 x k) P := by
  obtain ⟨⟨a0, a1, a2, a3, a4, a5, a6, a7⟩, e, h⟩ := h
  subst e
  exact hk a0 a1 a2 a3 a4 a5 a6 a7 h
theorem zp_b9 {A0 A1 A2 A3 A4 A5 A6 A7 A8 : Type} {x : Option (A0 × A1 × A2 × A3 × A4 × A5 × A6 × A7 × A8)} {k : A0 → A1 → A2 → A3 → A4 → A5 → A6 → A7 → A8 → Option A} {Q : A0 × A1 × A2 × A3 × A4 × A5 × A6 × A7 × A8 → Prop} (h : zp x Q) (hk : ∀ a0 a1 a2 a3 a4 a5 a6 a7 a8, Q (a0, a1, a2, a3, a4, a5, a6, a7, a8) → zp (k a0 a1 a2 a3 a4 a5 a6 a7 a8) P) : zp (zk_b9 x k) P := by
  obtain ⟨⟨a0, a1, a2, a3, a4, a5, a6, a7, a8⟩, e, h⟩ := h
  subst e
  exact hk a0 a1 a2 a3 a4 a5 a6 a7 a8 h
theorem zp_b10 {A0 A1 A2 A3 A4 A5 A6 A7 A8 A9 : Type} {x : Option (A0 × A1 × A2 × A3 × A4 × A5 × A6 × A7 × A8 × A9)} {k : A0 → A1 → A2 → A3 → A4 → A5 → A6 → A7 → A8 → A9 → Option A} {Q : A0 × A1 × A2 × A3 × A4 × A5 × A6 × A7 × A8 × A9 → Prop} (h : zp x Q) (hk : ∀ a0 a1 a2 a3 a4 a5 a6 a7 a8 a9, Q (a0, a1, a2, a3, a4, a5, a6, a7, a8, a9) → zp (k a0 a1 a2 a3 a4 a5 a6 a7 a8 a9) P) : zp (zk_b10 x k) P := by
  obtain ⟨⟨a0, a1, a2, a3, a4, a5, a6, a7, a8, a9⟩, e, h⟩ := h
  subst e
  exact hk a0 a1 a2 a3 a4 a5 a6 a7 a8 a9 h
theorem zp_b11 {A0 A1 A2 A3 A4 A5 A6 A7 A8 A9 A10 : Type} {x : Option (A0 × A1 × A2 × A3 × A4 × A5 × A6 × A7 × A8 × A9 × A10)} {k : A0 → A1 → A2 → A3 → A4 → A5 → A6 → A7 → A8 → A9 → A10 → Option A} {Q : A0 × A1 × A2 × A3 × A4 × A5 × A6 × A7 × A8 × A9 × A10 → Prop} (h : zp x Q) (hk : ∀ a0 a1 a2 a3 a4 a5 a6 a7 a8 a9 a10, Q (a0, a1, a2, a3, a4, a5, a6, a7, a8, a9, a10) → zp (k a0 a1 a2 a3 a4 a5 a6 a7 a8 a9 a10) P) : zp (zk_b11 x k) P := by
  obtain ⟨⟨a0, a1, a2, a3, a4, a5, a6, a7, a8, a9, a10⟩, e, h⟩ := h
  subst e
  exact hk a0 a1 a2 a3 a4 a5 a6 a7 a8 a9 a10 h
theorem zp_b12 {A0 A1 A2 A3 A4 A5 A6 A7 A8 A9 A10 A11 : Type} {x : Option (A0 × A1 × A2 × A3 × A4 × A5 × A6 × A7 × A8 × A9 × A10 × A11)} {k : A0 → A1 → A2 → A3 → A4 → A5 → A6 → A7 → A8 → A9 → A10 → A11 → Option A} {Q : A0 × A1 × A2 × A3 × A4 × A5 × A6 × A7 × A8 × A9 × A10 × A11 → Prop} (h : zp x Q) (hk : ∀ a0 a1 a2 a3 a4 a5 a6 a7 a8 a9 a10 a11, Q (a0, a1, a2, a3, a4, a5, a6, a7, a8, a9, a10, a11) → zp (k a0 a1 a2 a3 a4 a5 a6 a7 a8 a9 a10 a11) P) : zp (zk_b12 x k) P := by
  obtain ⟨⟨a0, a1, a2, a3, a4, a5, a6, a7, a8, a9, a10, a11⟩, e, h⟩ := h
  subst e
  exact hk a0 a1 a2 a3 a4 a5 a6 a7 a8 a9 a10 a11 h
theorem zp_b13 {A0 A1 A2 A3 A4 A5 A6 A7 A8 A9 A10 A11 A12 : Type} {x : Option (A0 × A1 × A2 × A3 × A4 × A5 × A6 × A7 × A8 × A9 × A10 × A11 × A12)} {k : A0 → A1 → A2 → A3 → A4 → A5 → A6 → A7 → A8 → A9 → A10 → A11 → A12 → Option A} {Q : A0 × A1 × A2 × A3 × A4 × A5 × A6 × A7 × A8 × A9 × A10 × A11 × A12 → Prop} (h : zp x Q) (hk : ∀ a0 a1 a2 a3 a4 a5 a6 a7 a8 a9 a10 a11 a12, Q (a0, a1, a2, a3, a4, a5, a6, a7, a8, a9, a10, a11, a12) → zp (k a0 a1 a2 a3 a4 a5 a6 a7 a8 a9 a10 a11 a12) P) : zp (zk_b13 x k) P := by
  obtain ⟨⟨a0, a1, a2, a3, a4, a5, a6, a7, a8, a9, a10, a11, a12⟩, e, h⟩ := h
  subst e
  exact hk a0 a1 a2 a3 a4 a5 a6 a7 a8 a9 a10 a11 a12 h
theorem zp_b14 {A0 A1 A2 A3 A4 A5 A6 A7 A8 A9 A10 A11 A12 A13 : Type} {x : Option (A0 × A1 × A2 × A3 × A4 × A5 × A6 × A7 × A8 × A9 × A10 × A11 × A12 × A13)} {k : A0 → A1 → A2 → A3 → A4 → A5 → A6 → A7 → A8 → A9 → A10 → A11 → A12 → A13 → Option A} {Q : A0 × A1 × A2 × A3 × A4 × A5 × A6 × A7 × A8 × A9 × A10 × A11 × A12 × A13 → Prop} (h : zp x Q) (hk : ∀ a0 a1 a2 a3 a4 a5 a6 a7 a8 a9 a10 a11 a12 a13, Q (a0, a1, a2, a3, a4, a5, a6, a7, a8, a9, a10, a11, a12, a13) → zp (k a0 a1 a2 a3 a4 a5 a6 a7 a8 a9 a10 a11 a12 a13) P) : zp (zk_b14 x k) P := by
  obtain ⟨⟨a0, a1, a2, a3, a4, a5, a6, a7, a8, a9, a10, a11, a12, a13⟩, e, h⟩ := h
  subst e
  exact hk a0 a1 a2 a3 a4 a5 a6 a7 a8 a9 a10 a11 a12 a13 h
theorem zp_b15 {A0 A1 A2 A3 A4 A5 A6 A7 A8 A9 A10 A11 A12 A13 A14 : Type} {x : Option (A0 × A1 × A2 × A3 × A4 × A5 × A6 × A7 × A8 × A9 × A10 × A11 × A12 × A13 × A14)} {k : A0 → A1 → A2 → A3 → A4 → A5 → A6 → A7 → A8 → A9 → A10 → A11 → A12 → A13 → A14 → Option A} {Q : A0 × A1 × A2 × A3 × A4 × A5 × A6 × A7 × A8 × A9 × A10 × A11 × A12 × A13 × A14 → Prop} (h : zp x Q) (hk : ∀ a0 a1 a2 a3 a4 a5 a6 a7 a8 a9 a10 a11 a12 a13 a14, Q (a0, a1, a2, a3, a4, a5, a6, a7, a8, a9, a10, a11, a12, a13, a14) → zp (k a0 a1 a2 a3 a4 a5 a6 a7 a8 a9 a10 a11 a12 a13 a14) P) : zp (zk_b15 x k) P := by
  obtain ⟨⟨a0, a1, a2, a3, a4, a5, a6, a7, a8, a9, a10, a11, a12, a13, a14⟩, e, h⟩ := h
  subst e
  exact hk a0 a1 a2 a3 a4 a5 a6 a7 a8 a9 a10 a11 a12 a13 a14 h
theorem zp_b16 {A0 A1 A2 A3 A4 A5 A6 A7 A8 A9 A10 A11 A12 A13 A14 A15 : Type} {x : Option (A0 × A1 × A2 × A3 × A4 × A5 × A6 × A7 × A8 × A9 × A10 × A11 × A12 × A13 × A14 × A15)} {k : A0 → A1 → A2 → A3 → A4 → A5 → A6 → A7 → A8 → A9 → A10 → A11 → A12 → A13 → A14 → A15 → Option A} {Q : A0 × A1 × A2 × A3 × A4 × A5 × A6 × A7 × A8 × A9 × A10 × A11 × A12 × A13 × A14 × A15 → Prop} (h : zp x Q) (hk : ∀ a0 a1 a2 a3 a4 a5 a6 a7 a8 a9 a10 a11 a12 a13 a14 a15, Q (a0, a1, a2, a3, a4, a5, a6, a7, a8, a9, a10, a11, a12, a13, a14, a15) → zp (k a0 a1 a2 a3 a4 a5 a6 a7 a8 a9 a10 a11 a12 a13 a14 a15) P) : zp (zk_b16 x k) P := by
  obtain ⟨⟨a0, a1, a2, a3, a4, a5, a6, a7, a8, a9, a10, a11, a12, a13, a14, a15⟩, e, h⟩ := h
  subst e
  exact hk a0 a1 a2 a3 a4 a5 a6 a7 a8 a9 a10 a11 a12 a13 a14 a15 h
theorem zp_b17 {A0 A1 A2 A3 A4 A5 A6 A7 A8 A9 A10 A11 A12 A13 A14 A15 A16 : Type} {x : Option (A0 × A1 × A2 × A3 × A4 × A5 × A6 × A7 × A8 × A9 × A10 × A11 × A12 × A13 × A14 × A15 × A16)} {k : A0 → A1 → A2 → A3 → A4 → A5 → A6 → A7 → A8 → A9 → A10 → A11 → A12 → A13 → A14 → A15 → A16 → Option A} {Q : A0 × A1 × A2 × A3 × A4 × A5 × A6 × A7 × A8 × A9 × A10 × A11 × A12 × A13 × A14 × A15 × A16 → Prop} (h : zp x Q) (hk : ∀ a0 a1 a2 a3 a4 a5 a6 a7 a8 a9 a10 a11 a12 a13 a14 a15 a16, Q (a0, a1, a2, a3, a4, a5, a6, a7, a8, a9, a10, a11, a12, a13, a14, a15, a16) → zp (k a0 a1 a2 a3 a4 a5 a6 a7 a8 a9 a10 a11 a12 a13 a14 a15 a16) P) : zp (zk_b17 x k) P := by
  obtain ⟨⟨a0, a1, a2, a3, a4, a5, a6, a7, a8, a9, a10, a11, a12, a13, a14, a15, a16⟩, e, h⟩ := h
  subst e
  exact hk a0 a1 a2 a3 a4 a5 a6 a7 a8 a9 a10 a11 a12 a13 a14 a15 a16 h
theorem zp_b18 {A0 A1 A2 A3 A4 A5 A6 A7 A8 A9 A10 A11 A12 A13 A14 A15 A16 A17 : Type} {x : Option (A0 × A1 × A2 × A3 × A4 × A5 × A6 × A7 × A8 × A9 × A10 × A11 × A12 × A13 × A14 × A15 × A16 × A17)} {k : A0 → A1 → A2 → A3 → A4 → A5 → A6 → A7 → A8 → A9 → A10 → A11 → A12 → A13 → A14 → A15 → A16 → A17 → Option A} {Q : A0 × A1 × A2 × A3 × A4 × A5 × A6 × A7 × A8 × A9 × A10 × A11 × A12 × A13 × A14 × A15 × A16 × A17 → Prop} (h : zp x Q) (hk : ∀ a0 a1 a2 a3 a4 a5 a6 a7 a8 a9 a10 a11 a12 a13 a14 a15 a16 a17, Q (a0, a1, a2, a3, a4, a5, a6, a7, a8, a9, a10, a11, a12, a13, a14, a15, a16, a17) → zp (k a0 a1 a2 a3 a4 a5 a6 a7 a8 a9 a10 a11 a12 a13 a14 a15 a16 a17) P) : zp (zk_b18 x k) P := by
  obtain ⟨⟨a0, a1, a2, a3, a4, a5, a6, a7, a8, a9, a10, a11, a12, a13, a14, a15, a16, a17⟩, e, h⟩ := h
  subst e
  exact hk a0 a1 a2 a3 a4 a5 a6 a7 a8 a9 a10 a11 a12 a13 a14 a15 a16 a17 h
theorem zp_b19 {A0 A1 A2 A3 A4 A5 A6 A7 A8 A9 A10 A11 A12 A13 A14 A15 A16 A17 A18 : Type} {x : Option (A0 × A1 × A2 × A3 × A4 × A5 × A6 × A7 × A8 × A9 × A10 × A11 × A12 × A13 × A14 × A15 × A16 × A17 × A18)} {k : A0 → A1 → A2 → A3 → A4 → A5 → A6 → A7 → A8 → A9 → A10 → A11 → A12 → A13 → A14 → A15 → A16 → A17 → A18 → Option A} {Q : A0 × A1 × A2 × A3 × A4 × A5 × A6 × A7 × A8 × A9 × A10 × A11 × A12 × A13 × A14 × A15 × A16 × A17 × A18 → Prop} (h : zp x Q) (hk : ∀ a0 a1 a2 a3 a4 a5 a6 a7 a8 a9 a10 a11 a12 a13 a14 a15 a16 a17 a18, Q (a0, a1, a2, a3, a4, a5, a6, a7, a8, a9, a10, a11, a12, a13, a14, a15, a16, a17, a18) → zp (k a0 a1 a2 a3 a4 a5 a6 a7 a8 a9 a10 a11 a12 a13 a14 a15 a16 a17 a18) P) : zp (zk_b19 x k) P := by
  obtain ⟨⟨a0, a1, a2, a3, a4, a5, a6, a7, a8, a9, a10, a11, a12, a13, a14, a15, a16, a17, a18⟩, e, h⟩ := h
  subst e
  exact hk a0 a1 a2 a3 a4 a5 a6 a7 a8 a9 a10 a11 a12 a13 a14 a15 a16 a17 a18 h
theorem zp_b20 {A0 A1 A2 A3 A4 A5 A6 A7 A8 A9 A10 A11 A12 A13 A14 A15 A16 A17 A18 A19 : Type} {x : Option (A0 × A1 × A2 × A3 × A4 × A5 × A6 × A7 × A8 × A9 × A10 × A11 × A12 × A13 × A14 × A15 × A16 × A17 × A18 × A19)} {k : A0 → A1 → A2 → A3 → A4 → A5 → A6 → A7 → A8 → A9 → A10 → A11 → A12 → A13 → A14 → A15 → A16 → A17 → A18 → A19 → Option A} {Q : A0 × A1 × A2 × A3 × A4 × A5 × A6 × A7 × A8 × A9 × A10 × A11 × A12 × A13 × A14 × A15 × A16 × A17 × A18 × A19 → Prop} (h : zp x Q) (hk : ∀ a0 a1 a2 a3 a4 a5 a6 a7 a8 a9 a10 a11 a12 a13 a14 a15 a16 a17 a18 a19, Q (a0, a1, a2, a3, a4, a5, a6, a7, a8, a9, a10, a11, a12, a13, a14, a15, a16, a17, a18, a19) → zp (k a0 a1 a2 a3 a4 a5 a6 a7 a8 a9 a10 a11 a12 a13 a14 a15 a16 a17 a18 a19) P) : zp (zk_b20 x k) P := by
  obtain ⟨⟨a0, a1, a2, a3, a4, a5, a6, a7, a8, a9, a10, a11, a12, a13, a14, a15, a16, a17, a18, a19⟩, e, h⟩ := h
  subst e
  exact hk a0 a1 a2 a3 a4 a5 a6 a7 a8 a9 a10 a11 a12 a13 a14 a15 a16 a17 a18 a19 h
theorem zp_b21 {A0 A1 A2 A3 A4 A5 A6 A7 A8 A9 A10 A11 A12 A13 A14 A15 A16 A17 A18 A19 A20 : Type} {x : Option (A0 × A1 × A2 × A3 × A4 × A5 × A6 × A7 × A8 × A9 × A10 × A11 × A12 × A13 × A14 × A15 × A16 × A17 × A18 × A19 × A20)} {k : A0 → A1 → A2 → A3 → A4 → A5 → A6 → A7 → A8 → A9 → A10 → A11 → A12 → A13 → A14 → A15 → A16 → A17 → A18 → A19 → A20 → Option A} {Q : A0 × A1 × A2 × A3 × A4 × A5 × A6 × A7 × A8 × A9 × A10 × A11 × A12 × A13 × A14 × A15 × A16 × A17 × A18 × A19 × A20 → Prop} (h : zp x Q) (hk : ∀ a0 a1 a2 a3 a4 a5 a6 a7 a8 a9 a10 a11 a12 a13 a14 a15 a16 a17 a18 a19 a20, Q (a0, a1, a2, a3, a4, a5, a6, a7, a8, a9, a10, a11, a12, a13, a14, a15, a16, a17, a18, a19, a20) → zp (k a0 a1 a2 a3 a4 a5 a6 a7 a8 a9 a10 a11 a12 a13 a14 a15 a16 a17 a18 a19 a20) P) : zp (zk_b21 x k) P := by
  obtain ⟨⟨a0, a1, a2, a3, a4, a5, a6, a7, a8, a9, a10, a11, a12, a13, a14, a15, a16, a17, a18, a19, a20⟩, e, h⟩ := h
  subst e
  exact hk a0 a1 a2 a3 a4 a5 a6 a7 a8 a9 a10 a11 a12 a13 a14 a15 a16 a17 a18 a19 a20 h
theorem zp_b22 {A0 A1 A2 A3 A4 A5 A6 A7 A8 A9 A10 A11 A12 A13 A14 A15 A16 A17 A18 A19 A20 A21 : Type} {x : Option (A0 × A1 × A2 × A3 × A4 × A5 × A6 × A7 × A8 × A9 × A10 × A11 × A12 × A13 × A14 × A15 × A16 × A17 × A18 × A19 × A20 × A21)} {k : A0 → A1 → A2 → A3 → A4 → A5 → A6 → A7 → A8 → A9 → A10 → A11 → A12 → A13 → A14 → A15 → A16 → A17 → A18 → A19 → A20 → A21 → Option A} {Q : A0 × A1 × A2 × A3 × A4 × A5 × A6 × A7 × A8 × A9 × A10 × A11 × A12 × A13 × A14 × A15 × A16 × A17 × A18 × A19 × A20 × A21 → Prop} (h : zp x Q) (hk : ∀ a0 a1 a2 a3 a4 a5 a6 a7 a8 a9 a10 a11 a12 a13 a14 a15 a16 a17 a18 a19 a20 a21, Q (a0, a1, a2, a3, a4, a5, a6, a7, a8, a9, a10, a11, a12, a13, a14, a15, a16, a17, a18, a19, a20, a21) → zp (k a0 a1 a2 a3 a4 a5 a6 a7 a8 a9 a10 a11 a12 a13 a14 a15 a16 a17 a18 a19 a20 a21) P) : zp (zk_b22 x k) P := by
  obtain ⟨⟨a0, a1, a2, a3, a4, a5, a6, a7, a8, a9, a10, a11, a12, a13, a14, a15, a16, a17, a18, a19, a20, a21⟩, e, h⟩ := h
  subst e
  exact hk a0 a1 a2 a3 a4 a5 a6 a7 a8 a9 a10 a11 a12 a13 a14 a15 a16 a17 a18 a19 a20 a21 h
theorem zp_b23 {A0 A1 A2 A3 A4 A5 A6 A7 A8 A9 A10 A11 A12 A13 A14 A15 A16 A17 A18 A19 A20 A21 A22 : Type} {x : Option (A0 × A1 × A2 × A3 × A4 × A5 × A6 × A7 × A8 × A9 × A10 × A11 × A12 × A13 × A14 × A15 × A16 × A17 × A18 × A19 × A20 × A21 × A22)} {k : A0 → A1 → A2 → A3 → A4 → A5 → A6 → A7 → A8 → A9 → A10 → A11 → A12 → A13 → A14 → A15 → A16 → A17 → A18 → A19 → A20 → A21 → A22 → Option A} {Q : A0 × A1 × A2 × A3 × A4 × A5 × A6 × A7 × A8 × A9 × A10 × A11 × A12 × A13 × A14 × A15 × A16 × A17 × A18 × A19 × A20 × A21 × A22 → Prop} (h : zp x Q) (hk : ∀ a0 a1 a2 a3 a4 a5 a6 a7 a8 a9 a10 a11 a12 a13 a14 a15 a16 a17 a18 a19 a20 a21 a22, Q (a0, a1, a2, a3, a4, a5, a6, a7, a8, a9, a10, a11, a12, a13, a14, a15, a16, a17, a18, a19, a20, a21, a22) → zp (k a0 a1 a2 a3 a4 a5 a6 a7 a8 a9 a10 a11 a12 a13 a14 a15 a16 a17 a18 a19 a20 a21 a22) P) : zp (zk_b23 x k) P := by
  obtain ⟨⟨a0, a1, a2, a3, a4, a5, a6, a7, a8, a9, a10, a11, a12, a13, a14, a15, a16, a17, a18, a19, a20, a21, a22⟩, e, h⟩ := h
  subst e
  exact hk a0 a1 a2 a3 a4 a5 a6 a7 a8 a9 a10 a11 a12 a13 a14 a15 a16 a17 a18 a19 a20 a21 a22 h
end ZP
def st1 (a w : Int32) (e : Nat) : Option Nat := if a.toInt = 1 then some (e + 1) else if a.toInt = 2 then (if 0 ≤ w.toInt ∧ w.toInt ≤ 10 then some (e + 1) else none) else if a.toInt = 3 ∨ a.toInt = 4 then (if 1 ≤ e then some e else none) else (if 2 ≤ e then some (e - 1) else none)
def dp (a w : Nat → Int32) (b : Nat) : Nat → Option Nat
  | 0 => some 0
  | m + 1 => (dp a w b m).bind (st1 (a (b + m)) (w (b + m)))
def SG (a w : Nat → Int32) (p f e : Nat) : Prop := f ≤ e ∧ e ≤ 130 ∧ dp a w (130 * p + f) (e - f) ≠ none
def lE (le : Nat → Int32) (p l : Nat) : Nat := if l = 0 then 0 else (le (61 * p + l - 1)).toInt.toNat
def SEG (a w te le : Nat → Int32) (p l : Nat) : Prop := 0 ≤ (te (61 * p + l)).toInt ∧ 0 ≤ (le (61 * p + l)).toInt ∧ (lE le p l = (te (61 * p + l)).toInt.toNat ∨ SG a w p (lE le p l) (te (61 * p + l)).toInt.toNat) ∧ SG a w p (te (61 * p + l)).toInt.toNat (le (61 * p + l)).toInt.toNat
def LPa (a w lm te le : Nat → Int32) (p : Nat) : Prop := ∀ l, l < (lm p).toInt.toNat → SEG a w te le p l
def LW (act wi lm te le : Nat → Int32) : Prop := ∀ p, p < 32 → LPa act wi lm te le p
def LWx (act wi lm te le : Nat → Int32) (x : Int32) : Prop := ∀ p, p < 32 → p ≠ x.toInt.toNat → LPa act wi lm te le p
def LN (act wi lm te le : Nat → Int32) (L : Int32) : Prop := lE le 32 (lm 32).toInt.toNat = L.toInt.toNat ∧ LPa act wi lm te le 32
def AR (lo hi : Int) (a : Nat → Int32) : Prop := ∀ k, lo ≤ (a k).toInt ∧ (a k).toInt ≤ hi
theorem zp_letA {A : Type} {P : A → Prop} {lo hi : Int} {a : Nat → Int32} {i : Nat} {v : Int32} {k : (Nat → Int32) → Option A} (ha : AR lo hi a) (hv : lo ≤ v.toInt ∧ v.toInt ≤ hi) (h : ∀ f, AR lo hi f → f i = v → zp (k f) P) : zp (zk_let (upd a i v) k) P := by
  refine h _ (fun j => ?_) (by unfold upd; rw [if_pos rfl])
  unfold upd
  by_cases c : j = i
  · rw [if_pos c]; exact hv
  · rw [if_neg c]; exact ha j
def AQ (a : Nat → Int32) : Prop := ∀ k, (0 ≤ (a k).toInt ∧ (a k).toInt ≤ 61) ∧ (40 ≤ k → (a k).toInt ≤ 1)
theorem zp_letAQ {A : Type} {P : A → Prop} {a : Nat → Int32} {i : Nat} {v : Int32} {k : (Nat → Int32) → Option A} (ha : AQ a) (hv : 0 ≤ v.toInt ∧ v.toInt ≤ 61) (hw : 40 ≤ i → v.toInt ≤ 1) (h : ∀ f, AQ f → f i = v → zp (k f) P) : zp (zk_let (upd a i v) k) P := by
  refine h _ (fun j => ?_) (by unfold upd; rw [if_pos rfl])
  unfold upd
  by_cases c : j = i
  · rw [if_pos c, c]; exact ⟨hv, hw⟩
  · rw [if_neg c]; exact ha j
def SL (n : Int32) (a : Nat → Int32) : Prop := ∀ k, k < n.toInt.toNat → 0 ≤ (a k).toInt ∧ (a k).toInt ≤ 7
theorem zp_letSL {A : Type} {P : A → Prop} {n : Int32} {a : Nat → Int32} {i : Nat} {v : Int32} {k : (Nat → Int32) → Option A} (ha : SL n a) (hv : i < n.toInt.toNat → 0 ≤ v.toInt ∧ v.toInt ≤ 7) (h : ∀ f, SL n f → f i = v → zp (k f) P) : zp (zk_let (upd a i v) k) P := by
  refine h _ (fun j hj => ?_) (by unfold upd; rw [if_pos rfl])
  unfold upd
  by_cases c : j = i
  · rw [if_pos c]; exact hv (c ▸ hj)
  · rw [if_neg c]; exact ha j hj
theorem SL_up {n m : Int32} {a : Nat → Int32} (ha : SL n a) (hv : 0 ≤ (a n.toNatClampNeg).toInt ∧ (a n.toNatClampNeg).toInt ≤ 7) (hn : 0 ≤ n.toInt) (hm : m.toInt = n.toInt + 1) : SL m a := by
  intro k hk
  by_cases c : k = n.toInt.toNat
  · rw [c]; exact hv
  · exact ha k (by omega)
theorem zi_bm {e : Int} (h1 : -2147483648 ≤ e) (h2 : e < 2147483648) : Int.bmod e 4294967296 = e := Int.bmod_eq_of_le (by omega) (by omega)
theorem zi_bm2 {e : Int} (h1 : -2147483648 ≤ e) (h2 : e < 2147483648) : Int.bmod e (2 ^ 32) = e := Int.bmod_eq_of_le (by omega) (by omega)
theorem zs_dv100 (x : Int32) : 0 ≤ x.toInt → (x / 100).toInt = x.toInt / 100 := by
  intro h
  have h2 := Int32.toInt_lt x
  have e : (100 : Int32).toInt = 100 := by decide
  rw [Int32.toInt_div, e, Int.tdiv_eq_ediv_of_nonneg h]
  rw [Int.bmod_eq_of_le (by omega) (by omega)]
theorem zs_dv10 (x : Int32) : 0 ≤ x.toInt → (x / 10).toInt = x.toInt / 10 := by
  intro h
  have h2 := Int32.toInt_lt x
  have e : (10 : Int32).toInt = 10 := by decide
  rw [Int32.toInt_div, e, Int.tdiv_eq_ediv_of_nonneg h]
  rw [Int.bmod_eq_of_le (by omega) (by omega)]
theorem zi_bm64 {e : Int} (h1 : -9223372036854775808 ≤ e) (h2 : e < 9223372036854775808) : Int.bmod e (2 ^ 64) = e := Int.bmod_eq_of_le (by omega) (by omega)
theorem zi_bm8 {e : Int} (h1 : -128 ≤ e) (h2 : e < 128) : Int.bmod e (2 ^ 8) = e := Int.bmod_eq_of_le (by omega) (by omega)
theorem zl6_0 : (0 : Int64).toInt = 0 := by decide
theorem zl6_3 : (3 : Int64).toInt = 3 := by decide
theorem zi_cmp (a b : Int64) : ((lg_cmp a b).toInt < 0 ↔ a.toInt < b.toInt) := by
  have e1 : (-1 : Int32).toInt = -1 := by decide
  have e0 : (0 : Int32).toInt = 0 := by decide
  have e2 : (1 : Int32).toInt = 1 := by decide
  unfold lg_cmp
  by_cases h : a > b
  · rw [if_pos h, e2]
    have := Int64.lt_iff_toInt_lt.mp h
    omega
  · rw [if_neg h]
    have h3 : ¬ b.toInt < a.toInt := fun q => h (Int64.lt_iff_toInt_lt.mpr q)
    by_cases h2 : a = b
    · rw [if_pos h2, e0, h2]
      omega
    · rw [if_neg h2, e1]
      have h4 : ¬ a.toInt = b.toInt := fun q => h2 (Int64.toInt_inj.mp q)
      omega
theorem zn_byte {lo hi : Int} {v : Int32} (h : lo ≤ v.toInt ∧ v.toInt ≤ hi) (h2 : -128 ≤ v.toInt ∧ v.toInt ≤ 127) : lo ≤ (vp_nar .byte v).toInt ∧ (vp_nar .byte v).toInt ≤ hi := by
  have e : (vp_nar .byte v).toInt = v.toInt := by
    show (v.toInt8.toInt32).toInt = v.toInt
    rw [Int8.toInt_toInt32, Int32.toInt_toInt8]
    exact Int.bmod_eq_of_le (by omega) (by omega)
  rw [e]
  exact h
theorem zn_byteR (v : Int32) : -128 ≤ (vp_nar .byte v).toInt ∧ (vp_nar .byte v).toInt ≤ 127 := by
  show -128 ≤ (v.toInt8.toInt32).toInt ∧ (v.toInt8.toInt32).toInt ≤ 127
  rw [Int8.toInt_toInt32]
  have h1 := Int8.le_toInt v.toInt8
  have h2 := Int8.toInt_lt v.toInt8
  omega
theorem zi_and (a b : Int32) : 0 ≤ a.toInt → 0 ≤ (a &&& b).toInt ∧ (a &&& b).toInt ≤ a.toInt := by
  intro h
  have ha : a.toInt = (a.toBitVec.toNat : Int) := by
    have h1 := a.toBitVec.isLt
    show a.toBitVec.toInt = _
    rw [BitVec.toInt_eq_toNat_cond]
    have h2 : 0 ≤ a.toBitVec.toInt := h
    rw [BitVec.toInt_eq_toNat_cond] at h2
    split at h2
    · rw [if_pos (by assumption)]
    · omega
  have h3 : a.toBitVec.toNat < 2147483648 := by
    have := Int32.toInt_lt a
    omega
  have h4 : (a &&& b).toBitVec.toNat ≤ a.toBitVec.toNat := by
    rw [Int32.toBitVec_and, BitVec.toNat_and]
    exact Nat.and_le_left
  have h5 : (a &&& b).toInt = ((a &&& b).toBitVec.toNat : Int) := by
    show (a &&& b).toBitVec.toInt = _
    rw [BitVec.toInt_eq_toNat_cond, if_pos (by omega)]
  rw [h5, ha]
  omega
theorem zi_rng (x : Int32) : -2147483648 ≤ x.toInt ∧ x.toInt < 2147483648 := ⟨Int32.le_toInt x, Int32.toInt_lt x⟩
theorem zi_cl (x : Int32) : x.toNatClampNeg = x.toInt.toNat := rfl
theorem zc_e {x y : Int32} {X Y : Int} (h : x = y) (ex : x.toInt = X) (ey : y.toInt = Y) : X = Y := by rw [← ex, ← ey, h]
theorem zc_ne {x y : Int32} {X Y : Int} (h : ¬ x = y) (ex : x.toInt = X) (ey : y.toInt = Y) : ¬ X = Y := by
  rw [← ex, ← ey]
  exact fun q => h (Int32.toInt_inj.mp q)
theorem zc_l {x y : Int32} {X Y : Int} (h : x < y) (ex : x.toInt = X) (ey : y.toInt = Y) : X < Y := by
  rw [← ex, ← ey]
  exact Int32.lt_iff_toInt_lt.mp h
theorem zc_nl {x y : Int32} {X Y : Int} (h : ¬ x < y) (ex : x.toInt = X) (ey : y.toInt = Y) : ¬ X < Y := by
  rw [← ex, ← ey]
  exact fun q => h (Int32.lt_iff_toInt_lt.mpr q)
theorem zc_k {x y : Int32} {X Y : Int} (h : x ≤ y) (ex : x.toInt = X) (ey : y.toInt = Y) : X ≤ Y := by
  rw [← ex, ← ey]
  exact Int32.le_iff_toInt_le.mp h
theorem zc_nk {x y : Int32} {X Y : Int} (h : ¬ x ≤ y) (ex : x.toInt = X) (ey : y.toInt = Y) : ¬ X ≤ Y := by
  rw [← ex, ← ey]
  exact fun q => h (Int32.le_iff_toInt_le.mpr q)
theorem zc_a {v x y : Int32} {Y : Int} (h : v = x + y) (ey : y.toInt = Y) (hr : -2147483648 ≤ x.toInt + Y ∧ x.toInt + Y < 2147483648) : v.toInt = x.toInt + Y := by
  rw [h, Int32.toInt_add, ey]
  exact zi_bm2 hr.1 hr.2
theorem zc_s {v x y : Int32} {Y : Int} (h : v = x - y) (ey : y.toInt = Y) (hr : -2147483648 ≤ x.toInt - Y ∧ x.toInt - Y < 2147483648) : v.toInt = x.toInt - Y := by
  rw [h, Int32.toInt_sub, ey]
  exact zi_bm2 hr.1 hr.2
theorem zg_i {x : Int32} {n : Nat} (h : 0 ≤ x.toInt ∧ x.toInt < (n : Int)) : ¬ (x < 0 ∨ n ≤ x.toNatClampNeg) := by
  intro q
  have e : (0 : Int32).toInt = 0 := by decide
  rcases q with q | q
  · have := Int32.lt_iff_toInt_lt.mp q
    omega
  · have z : x.toNatClampNeg = x.toInt.toNat := rfl
    omega
theorem zl_m100 : (-100 : Int32).toInt = -100 := by decide
theorem zl_m20 : (-20 : Int32).toInt = -20 := by decide
theorem zl_m19 : (-19 : Int32).toInt = -19 := by decide
theorem zl_m18 : (-18 : Int32).toInt = -18 := by decide
theorem zl_m17 : (-17 : Int32).toInt = -17 := by decide
theorem zl_m16 : (-16 : Int32).toInt = -16 := by decide
theorem zl_m15 : (-15 : Int32).toInt = -15 := by decide
theorem zl_m14 : (-14 : Int32).toInt = -14 := by decide
theorem zl_m13 : (-13 : Int32).toInt = -13 := by decide
theorem zl_m12 : (-12 : Int32).toInt = -12 := by decide
theorem zl_m11 : (-11 : Int32).toInt = -11 := by decide
theorem zl_m10 : (-10 : Int32).toInt = -10 := by decide
theorem zl_m9 : (-9 : Int32).toInt = -9 := by decide
theorem zl_m8 : (-8 : Int32).toInt = -8 := by decide
theorem zl_m7 : (-7 : Int32).toInt = -7 := by decide
theorem zl_m6 : (-6 : Int32).toInt = -6 := by decide
theorem zl_m5 : (-5 : Int32).toInt = -5 := by decide
theorem zl_m4 : (-4 : Int32).toInt = -4 := by decide
theorem zl_m3 : (-3 : Int32).toInt = -3 := by decide
theorem zl_m2 : (-2 : Int32).toInt = -2 := by decide
theorem zl_m1 : (-1 : Int32).toInt = -1 := by decide
theorem zl_0 : (0 : Int32).toInt = 0 := by decide
theorem zl_1 : (1 : Int32).toInt = 1 := by decide
theorem zl_2 : (2 : Int32).toInt = 2 := by decide
theorem zl_3 : (3 : Int32).toInt = 3 := by decide
theorem zl_4 : (4 : Int32).toInt = 4 := by decide
theorem zl_5 : (5 : Int32).toInt = 5 := by decide
theorem zl_6 : (6 : Int32).toInt = 6 := by decide
theorem zl_7 : (7 : Int32).toInt = 7 := by decide
theorem zl_8 : (8 : Int32).toInt = 8 := by decide
theorem zl_9 : (9 : Int32).toInt = 9 := by decide
theorem zl_10 : (10 : Int32).toInt = 10 := by decide
theorem zl_11 : (11 : Int32).toInt = 11 := by decide
theorem zl_12 : (12 : Int32).toInt = 12 := by decide
theorem zl_13 : (13 : Int32).toInt = 13 := by decide
theorem zl_14 : (14 : Int32).toInt = 14 := by decide
theorem zl_15 : (15 : Int32).toInt = 15 := by decide
theorem zl_16 : (16 : Int32).toInt = 16 := by decide
theorem zl_17 : (17 : Int32).toInt = 17 := by decide
theorem zl_18 : (18 : Int32).toInt = 18 := by decide
theorem zl_19 : (19 : Int32).toInt = 19 := by decide
theorem zl_20 : (20 : Int32).toInt = 20 := by decide
theorem zl_21 : (21 : Int32).toInt = 21 := by decide
theorem zl_22 : (22 : Int32).toInt = 22 := by decide
theorem zl_23 : (23 : Int32).toInt = 23 := by decide
theorem zl_24 : (24 : Int32).toInt = 24 := by decide
theorem zl_25 : (25 : Int32).toInt = 25 := by decide
theorem zl_26 : (26 : Int32).toInt = 26 := by decide
theorem zl_27 : (27 : Int32).toInt = 27 := by decide
theorem zl_28 : (28 : Int32).toInt = 28 := by decide
theorem zl_29 : (29 : Int32).toInt = 29 := by decide
theorem zl_30 : (30 : Int32).toInt = 30 := by decide
theorem zl_31 : (31 : Int32).toInt = 31 := by decide
theorem zl_32 : (32 : Int32).toInt = 32 := by decide
theorem zl_33 : (33 : Int32).toInt = 33 := by decide
theorem zl_34 : (34 : Int32).toInt = 34 := by decide
theorem zl_35 : (35 : Int32).toInt = 35 := by decide
theorem zl_36 : (36 : Int32).toInt = 36 := by decide
theorem zl_37 : (37 : Int32).toInt = 37 := by decide
theorem zl_38 : (38 : Int32).toInt = 38 := by decide
theorem zl_39 : (39 : Int32).toInt = 39 := by decide
theorem zl_40 : (40 : Int32).toInt = 40 := by decide
theorem zl_41 : (41 : Int32).toInt = 41 := by decide
theorem zl_42 : (42 : Int32).toInt = 42 := by decide
theorem zl_43 : (43 : Int32).toInt = 43 := by decide
theorem zl_44 : (44 : Int32).toInt = 44 := by decide
theorem zl_45 : (45 : Int32).toInt = 45 := by decide
theorem zl_46 : (46 : Int32).toInt = 46 := by decide
theorem zl_47 : (47 : Int32).toInt = 47 := by decide
theorem zl_48 : (48 : Int32).toInt = 48 := by decide
theorem zl_49 : (49 : Int32).toInt = 49 := by decide
theorem zl_50 : (50 : Int32).toInt = 50 := by decide
theorem zl_51 : (51 : Int32).toInt = 51 := by decide
theorem zl_52 : (52 : Int32).toInt = 52 := by decide
theorem zl_53 : (53 : Int32).toInt = 53 := by decide
theorem zl_54 : (54 : Int32).toInt = 54 := by decide
theorem zl_55 : (55 : Int32).toInt = 55 := by decide
theorem zl_56 : (56 : Int32).toInt = 56 := by decide
theorem zl_57 : (57 : Int32).toInt = 57 := by decide
theorem zl_58 : (58 : Int32).toInt = 58 := by decide
theorem zl_59 : (59 : Int32).toInt = 59 := by decide
theorem zl_60 : (60 : Int32).toInt = 60 := by decide
theorem zl_61 : (61 : Int32).toInt = 61 := by decide
theorem zl_62 : (62 : Int32).toInt = 62 := by decide
theorem zl_63 : (63 : Int32).toInt = 63 := by decide
theorem zl_64 : (64 : Int32).toInt = 64 := by decide
theorem zl_70 : (70 : Int32).toInt = 70 := by decide
theorem zl_71 : (71 : Int32).toInt = 71 := by decide
theorem zl_81 : (81 : Int32).toInt = 81 := by decide
theorem zl_97 : (97 : Int32).toInt = 97 := by decide
theorem zl_98 : (98 : Int32).toInt = 98 := by decide
theorem zl_99 : (99 : Int32).toInt = 99 := by decide
theorem zl_100 : (100 : Int32).toInt = 100 := by decide
theorem zl_101 : (101 : Int32).toInt = 101 := by decide
theorem zl_102 : (102 : Int32).toInt = 102 := by decide
theorem zl_103 : (103 : Int32).toInt = 103 := by decide
theorem zl_104 : (104 : Int32).toInt = 104 := by decide
theorem zl_105 : (105 : Int32).toInt = 105 := by decide
theorem zl_106 : (106 : Int32).toInt = 106 := by decide
theorem zl_107 : (107 : Int32).toInt = 107 := by decide
theorem zl_108 : (108 : Int32).toInt = 108 := by decide
theorem zl_109 : (109 : Int32).toInt = 109 := by decide
theorem zl_110 : (110 : Int32).toInt = 110 := by decide
theorem zl_111 : (111 : Int32).toInt = 111 := by decide
theorem zl_112 : (112 : Int32).toInt = 112 := by decide
theorem zl_113 : (113 : Int32).toInt = 113 := by decide
theorem zl_114 : (114 : Int32).toInt = 114 := by decide
theorem zl_115 : (115 : Int32).toInt = 115 := by decide
theorem zl_116 : (116 : Int32).toInt = 116 := by decide
theorem zl_117 : (117 : Int32).toInt = 117 := by decide
theorem zl_118 : (118 : Int32).toInt = 118 := by decide
theorem zl_119 : (119 : Int32).toInt = 119 := by decide
theorem zl_120 : (120 : Int32).toInt = 120 := by decide
theorem zl_124 : (124 : Int32).toInt = 124 := by decide
theorem zl_130 : (130 : Int32).toInt = 130 := by decide
theorem zl_256 : (256 : Int32).toInt = 256 := by decide
theorem zl_1952 : (1952 : Int32).toInt = 1952 := by decide
theorem zl_4160 : (4160 : Int32).toInt = 4160 := by decide
theorem zl_5120 : (5120 : Int32).toInt = 5120 := by decide
theorem zl_9999 : (9999 : Int32).toInt = 9999 := by decide
theorem zl_10000 : (10000 : Int32).toInt = 10000 := by decide
