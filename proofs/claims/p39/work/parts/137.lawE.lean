
theorem zk_arr {args : Array Value} {s : State} {ty : FieldType} (hprim : ∀ C, ty ≠ .object C) (h : (Cond.arrayClass ty).before args s = true) : ∃ cA : ClassId, ArrOfT s cA ty ∧ va_RA s cA ty := by
  obtain ⟨c, k, comp, h1, h2, h3⟩ := Cond.arrayClass_spec h
  refine ⟨c, fun n z => ⟨fun k h => (by cases h), k, h2, comp, h3⟩, ?_⟩
  cases ty <;> first | exact absurd rfl (hprim _) | exact h1
theorem zk_arq {args : Array Value} {s : State} {C : String} (h : (Cond.arrayOver (.object C)).before args s = true) : ∃ cA : ClassId, ArrOfT s cA (.object C) ∧ va_RA s cA (.object C) := by
  obtain ⟨comp, c, k, h1, h2, h3, h4, h5⟩ := Cond.arrayOver_spec h
  exact ⟨c, fun n z => ⟨fun k h => (by cases h), k, h3, comp, h4⟩, k, comp, h3, h4, h1, h5⟩
def zTm : Nat → Term := fun i => match i with
  | 0 => .string "AlreadyJudged" 393
  | 1 => .string "AlreadyJudged" 395
  | 2 => .string "AlreadyJudged" 397
  | 3 => .string "AlreadyJudged" 399
  | _ => .string "AlreadyJudged$LawReader" 83
theorem zk_5 {P : Nat → Prop} (h0 : P 0) (h1 : P 1) (h2 : P 2) (h3 : P 3) (h4 : P 4) : ∀ i, i < 5 → P i := by
  intro i hi
  rcases (show i = 0 ∨ i = 1 ∨ i = 2 ∨ i = 3 ∨ i = 4 by omega) with rfl | rfl | rfl | rfl | rfl <;> assumption
set_option maxHeartbeats 8000000 in
set_option maxRecDepth 100000 in
theorem law_E {s : State} {b : Nat} (hts : ∀ w ∈ lw_tbl, w.before #[Value.ref b] s = true) (hgv : (Jvm.Cond.and given_1 narrow_1).before #[Value.ref b] s = true) : ∃ k : (Nat → Nat) × (Nat → Nat), zE k (fun q : Nat => s.heap.size ≤ q) s := by
  have hs := flat_of_before _ hgv
  have hA : ∀ a : Nat, a < s.heap.size → ¬ (fun q : Nat => s.heap.size ≤ q) a := fun a h => Nat.not_le.mpr h
  obtain ⟨adK, adV, hS, hev⟩ := vk_Sof (args := #[Value.ref b]) (s := s) (N := 5) (tm := zTm) (len := zLen) (byt := zByt) (A := fun q : Nat => s.heap.size ≤ q)
    (zk_5 (by decide) (by decide) (by decide) (by decide) (by decide))
    (fun i hi => hs _ (by revert hi; revert i; decide +kernel))
    (fun i hi => hs _ (by revert hi; revert i; decide +kernel))
    (fun i hi => hs _ (by revert hi; revert i; decide +kernel))
    (fun i hi => hs _ (by revert hi; revert i; decide +kernel))
    (fun i hi j hj => hs _ (by revert hj; revert j; revert hi; revert i; decide +kernel))
    (fun i j hi hj hij => Or.imp (hs _) (hs _) (by revert hij; revert hj; revert j; revert hi; revert i; decide +kernel)) hA
  refine ⟨(adK, adV), hS, ?_, va_Zof (hts (Cond.laysStatic "java/lang/String" "COMPACT_STRINGS" "Z") (List.mem_of_getElem? (i := 494) (by decide +kernel))) (hts _ (List.mem_filter.mp kw_85).1) (va_eqt (hs (.eq (.static "java/lang/String" "COMPACT_STRINGS" "Z") (.int 1)) (by decide +kernel))) hA, va_Zqof (hts (Cond.laysStatic "jdk/internal/util/Preconditions" "SIOOBE_FORMATTER" "Ljava/util/function/BiFunction;") (List.mem_of_getElem? (i := 510) (by decide +kernel))) (hts _ (List.mem_filter.mp kw_87).1) (hs (.isRef (.static "jdk/internal/util/Preconditions" "SIOOBE_FORMATTER" "Ljava/util/function/BiFunction;")) (by decide +kernel)) hA, va_Nw.of rfl (hts (Cond.castable "[I" "java/lang/Cloneable") (List.mem_of_getElem? (i := 660) (by decide +kernel)))⟩
  intro i q hq
  rcases (show i = 0 ∨ i = 1 ∨ i = 2 ∨ i = 3 ∨ i = 4 ∨ 5 ≤ i by omega) with rfl | rfl | rfl | rfl | rfl | h
  · cases hq; exact vk_R.of (hts (Cond.stringRef "AlreadyJudged" 393 "a&k=1|a&k=6|a&k=3") (List.mem_of_getElem? (i := 477) (by decide +kernel))) (hev 0 (by decide))
  · cases hq; exact vk_R.of (hts (Cond.stringRef "AlreadyJudged" 395 "f&n") (List.mem_of_getElem? (i := 478) (by decide +kernel))) (hev 1 (by decide))
  · cases hq; exact vk_R.of (hts (Cond.stringRef "AlreadyJudged" 397 "n<3") (List.mem_of_getElem? (i := 479) (by decide +kernel))) (hev 2 (by decide))
  · cases hq; exact vk_R.of (hts (Cond.stringRef "AlreadyJudged" 399 "1") (List.mem_of_getElem? (i := 480) (by decide +kernel))) (hev 3 (by decide))
  · cases hq; exact vk_R.of (hts (Cond.stringRef "AlreadyJudged$LawReader" 83 "kwdlhascrfn") (List.mem_of_getElem? (i := 586) (by decide +kernel))) (hev 4 (by decide))
  · rw [List.getElem?_eq_none (by show 5 ≤ i; exact h)] at hq; cases hq
