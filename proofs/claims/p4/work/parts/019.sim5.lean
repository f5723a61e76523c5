
theorem ul_ix {x1 : Int32} (h1 : 0 ≤ x1.toInt) (h2 : (x1 / 10).toInt < 4) (h3 : (x1 - x1 / 10 * 10).toInt < 8) : 0 ≤ (((8 : Int32) * (x1 / 10)) + (x1 - x1 / 10 * 10)).toInt ∧ (((8 : Int32) * (x1 / 10)) + (x1 - x1 / 10 * 10)).toInt ≤ 31 := by
  have e := zs_dv10 x1 h1
  have e10 : (10 : Int32).toInt = 10 := by decide
  have e8 : (8 : Int32).toInt = 8 := by decide
  have hlt := Int32.toInt_lt x1
  rw [e] at h2
  have em : (x1 - x1 / 10 * 10).toInt = x1.toInt - x1.toInt / 10 * 10 := by
    rw [Int32.toInt_sub, Int32.toInt_mul, e, e10]
    rw [zi_bm2 (e := x1.toInt / 10 * 10) (by omega) (by omega)]
    exact zi_bm2 (by omega) (by omega)
  rw [em] at h3
  rw [Int32.toInt_add, Int32.toInt_mul, e, e8, em]
  rw [zi_bm2 (e := 8 * (x1.toInt / 10)) (by omega) (by omega)]
  rw [zi_bm2 (by omega) (by omega)]
  omega
theorem TKV_b {x : Int32 × Int32} (h : TKV x) : -128 ≤ x.1.toInt ∧ x.1.toInt ≤ 127 := by
  rcases h with ⟨h, _⟩ | ⟨h, _⟩ | ⟨h, _⟩
  · rw [h]; decide
  · rw [h]; decide
  · rcases h with h | h | h | h | h | h | h | h | h | h | h | h <;> rw [h] <;> decide
theorem LLC_tk {cd : Nat → Int32} : ∀ (Ls : List (List (Int32 × Int32) × List (Int32 × Int32))) (a e : Nat), LLC cd a Ls e → ∀ ln ∈ Ls, ∀ x ∈ ln.1 ++ ln.2, TKV x
  | [], _, _, _, ln, hm, _, _ => absurd hm (List.not_mem_nil)
  | y :: t, a, e, h, ln, hm, x, hx => by
    rcases List.mem_cons.mp hm with hm | hm
    · subst hm
      have key : ∀ (b : Nat) (L : List (Int32 × Int32)), CTk cd b L → x ∈ L → TKV x := fun b L hc hL => by
        obtain ⟨k, hk⟩ := List.getElem?_of_mem hL
        exact (hc k x hk).2
      rcases h.1 with ⟨q1, q2, _⟩ | ⟨_, q2, _, q4, _⟩
      · rw [q1] at hx
        exact key _ _ q2 hx
      · rcases List.mem_append.mp hx with hx | hx
        · exact key _ _ q2 hx
        · exact key _ _ q4 hx
    · exact LLC_tk t _ e h.2 ln hm x hx
def FRM (P : Nat) (ac wi lm te le ac2 wi2 lm2 te2 le2 : Nat → Int32) : Prop := (∀ k, k < 4160 → (k < 130 * P ∨ 130 * P + 130 ≤ k) → ac2 k = ac k ∧ wi2 k = wi k) ∧ (∀ i, i < 1952 → (i < 61 * P ∨ 61 * P + 61 ≤ i) → te2 i = te i ∧ le2 i = le i) ∧ (∀ q, q < 32 → q ≠ P → lm2 q = lm q)
theorem FRM_tr {P : Nat} {ac wi lm te le ac2 wi2 lm2 te2 le2 ac3 wi3 lm3 te3 le3 : Nat → Int32} (h0 : (∀ k, k < 4160 → ac2 k = ac k ∧ wi2 k = wi k) ∧ (∀ i, i < 1952 → te2 i = te i ∧ le2 i = le i) ∧ (∀ q, q < 32 → lm2 q = lm q)) (h : FRM P ac2 wi2 lm2 te2 le2 ac3 wi3 lm3 te3 le3) : FRM P ac wi lm te le ac3 wi3 lm3 te3 le3 := by
  obtain ⟨a1, a2, a3⟩ := h0
  obtain ⟨b1, b2, b3⟩ := h
  refine ⟨fun k k1 k2 => ?_, fun i i1 i2 => ?_, fun q q1 q2 => ?_⟩
  · rw [(b1 k k1 k2).1, (b1 k k1 k2).2]
    exact a1 k k1
  · rw [(b2 i i1 i2).1, (b2 i i1 i2).2]
    exact a2 i i1
  · rw [b3 q q1 q2]
    exact a3 q q1
def RDI (ts : Int32) (Ls : List (List (Int32 × Int32) × List (Int32 × Int32))) (x1 sz a f he g o l : Int32) (cd ac wi lm te le : Nat → Int32) : Prop := f.toInt < 0 ∧ g.toInt < 0 ∧ he = a ∧ PB ts a ∧ o = 0 ∧ (0 ≤ sz.toInt ∧ sz.toInt ≤ a.toInt + 1) ∧ (0 ≤ l.toInt ∧ l.toInt ≤ a.toInt) ∧ (lm 32).toInt = (Ls.length : Int) ∧ 1 ≤ Ls.length ∧ 2 * (Ls.length : Int) ≤ a.toInt + 1 ∧ x1.toInt + 1 = (Ls.length : Int) ∧ LLC cd 0 Ls sz.toInt.toNat ∧ LLM ac wi te le 4160 1952 0 Ls l.toInt.toNat ∧ (∀ ln ∈ Ls, LNS ln)
def RDO (P : Nat) (ac wi lm te le : Nat → Int32) (R : Bool × Int32 × Int32 × Int32 × (Nat → Int32)) (S : Int32 × Int32 × Int32 × Int32 × Int32 × Int32 × (Nat → Int32) × (Nat → Int32) × (Nat → Int32) × (Nat → Int32) × (Nat → Int32)) : Prop := (R.1 = false ∧ 0 ≤ R.2.2.2.1.toInt ∧ S.1 = (-100 : Int32) - R.2.2.2.1) ∨ (R.1 = true ∧ S.1 = 1 ∧ (0 ≤ R.2.1.toInt ∧ R.2.1.toInt ≤ 121) ∧ FRM P ac wi lm te le S.2.2.2.2.2.2.1 S.2.2.2.2.2.2.2.1 S.2.2.2.2.2.2.2.2.1 S.2.2.2.2.2.2.2.2.2.1 S.2.2.2.2.2.2.2.2.2.2 ∧ ∃ (Ls : List (List (Int32 × Int32) × List (Int32 × Int32))) (e : Nat), 1 ≤ Ls.length ∧ Ls.length ≤ 61 ∧ e ≤ 120 ∧ (∀ ln ∈ Ls, LNS ln) ∧ LLC R.2.2.2.2 0 Ls R.2.1.toInt.toNat ∧ LLM S.2.2.2.2.2.2.1 S.2.2.2.2.2.2.2.1 S.2.2.2.2.2.2.2.2.2.1 S.2.2.2.2.2.2.2.2.2.2 (130 * P) (61 * P) 0 Ls e ∧ (S.2.2.2.2.2.2.2.2.1 P).toInt = (Ls.length : Int))
set_option maxHeartbeats 4000000 in
set_option maxRecDepth 20000 in
theorem rd_46 {ts : Int32} {tb : Nat → Int32} {G : Int32 → Int32 → Int32 → Int32 → (Nat → Int32) → (Option (Bool × Int32 × Int32 × Int32 × (Nat → Int32)))} {sz a f g : Int32} {cd : Nat → Int32} {R : Bool × Int32 × Int32 × Int32 × (Nat → Int32)} (hT : TS ts) (hb : LBAD ts tb a f g) (h : B_X5_read_46 G ts tb sz a f cd = some R) : R.1 = false ∧ R.2.2.2.1 = g := by
  have q64 : ∀ u : Int32, 0 ≤ u.toInt → u = g → B_X5_read_64 G ts tb sz a u cd = some R → R.1 = false ∧ R.2.2.2.1 = g := fun u u0 e h => by
    unfold B_X5_read_64 at h
    have h := Option.some.inj (zk_t (show 0 ≤ u by rw [i32_le, z32_0]; exact u0) h)
    rw [← h]
    exact ⟨rfl, e⟩
  unfold B_X5_read_46 at h
  by_cases c : ts ≤ a
  · have h := zk_t c h
    rcases hb with ⟨b1, b2, b3⟩ | ⟨b1, b2, b3, b4⟩
    · exact q64 f b1 b3.symm h
    · exfalso
      have e : bZ ts tb a = -1 := by
        unfold bZ bz
        rw [if_neg (by rw [i32_lt, z32_0]; have := b2.1; omega), if_pos c]
        decide
      omega
  · have h := zk_f c h
    obtain ⟨u, k, h⟩ := zk_o1 h
    rcases hb with ⟨b1, b2, b3⟩ | ⟨b1, b2, b3, b4⟩
    · rcases c5_fail k with ⟨e, _⟩ | ⟨_, e⟩
      · omega
      · exact q64 u (by rw [e]; exact b1) (by rw [e]; exact b3.symm) h
    · rcases c5_fail k with ⟨_, e⟩ | ⟨e, _⟩
      · exact q64 u (by rw [e]; exact b2.1) (by rw [e]; exact b4.symm) h
      · omega
set_option maxHeartbeats 4000000 in
set_option maxRecDepth 20000 in
theorem rd_bad {ts : Int32} {tb : Nat → Int32} {n : Nat} {x1 sz a f g : Int32} {cd : Nat → Int32} {R : Bool × Int32 × Int32 × Int32 × (Nat → Int32)} (hT : TS ts) (hb : LBAD ts tb a f g) (h : G_X5_read ts tb n x1 sz a f cd = some R) : R.1 = false ∧ R.2.2.2.1 = g := by
  cases n with
  | zero => cases h
  | succ n =>
    have h : B_X5_read_21 (G_X5_read ts tb n) ts tb x1 sz a f cd = some R := h
    unfold B_X5_read_21 at h
    by_cases c : (120 : Int32) ≤ x1
    · exact rd_46 hT hb (zk_t c h)
    · have h := zk_f c h
      obtain ⟨r6, w7, c2, h⟩ := zk_o2 h
      have hc : r6 = 0 ∧ w7 = a := by
        rcases hb with ⟨b1, b2, b3⟩ | ⟨b1, b2, b3, b4⟩
        · rcases c5_accept hT (fun z => by omega) (x1 := 59) (n := 59) ⟨by decide, by decide⟩ c2 with ⟨z, _⟩ | ⟨z, r1, r2⟩
          · omega
          · exact ⟨r1, r2⟩
        · rcases c5_accept hT (fun _ => b2) (x1 := 59) (n := 59) ⟨by decide, by decide⟩ c2 with ⟨_, z, _⟩ | ⟨z, r1, r2⟩
          · omega
          · exact ⟨r1, r2⟩
      have h := zk_t hc.1 h
      rw [hc.2] at h
      exact rd_46 hT hb h
set_option maxHeartbeats 4000000 in
set_option maxRecDepth 20000 in
theorem rd_89 {mod_code : Int32} {court_shoeCount : Int32} {mod_claims : Int32} {ts : Int32} {court_suitCount : Int32} {mod_doneMany : Int32} {mod_undoneMany : Int32} {mod_isBoth : Int32} {mod_wished : Int32} {mod_bestMany : Int32} {mod_bestRow : Int32} {mod_ringDigits : Int32} {mod_traces : Int32} {tm : Nat → Int32} {n : Nat} {x1 : Int32} {he g o l : Int32} {ac wi lm te le : Nat → Int32} {S : Int32 × Int32 × Int32 × Int32 × Int32 × Int32 × (Nat → Int32) × (Nat → Int32) × (Nat → Int32) × (Nat → Int32) × (Nat → Int32)} (hg : 0 ≤ g.toInt) (h : B_X12_law_89 (G_X12_law mod_code court_shoeCount mod_claims court_suitCount mod_doneMany mod_undoneMany mod_isBoth mod_wished mod_bestMany mod_bestRow mod_ringDigits mod_traces tm n).1 (G_X12_law mod_code court_shoeCount mod_claims court_suitCount mod_doneMany mod_undoneMany mod_isBoth mod_wished mod_bestMany mod_bestRow mod_ringDigits mod_traces tm n).2.1 (G_X12_law mod_code court_shoeCount mod_claims court_suitCount mod_doneMany mod_undoneMany mod_isBoth mod_wished mod_bestMany mod_bestRow mod_ringDigits mod_traces tm n).2.2 mod_code court_shoeCount mod_claims court_suitCount mod_doneMany mod_undoneMany mod_isBoth mod_wished mod_bestMany mod_bestRow mod_ringDigits mod_traces tm x1 ts he g o l ac wi lm te le = some S) : S.1 = (-100 : Int32) - g := by
  unfold B_X12_law_89 at h
  have h := zk_t (show 0 ≤ g by rw [i32_le, z32_0]; exact hg) h
  unfold B_X12_law_111 at h
  have h := Option.some.inj (zk_f (show ¬ g < 0 by rw [i32_lt, z32_0]; omega) h)
  rw [← h]
set_option maxHeartbeats 4000000 in
set_option maxRecDepth 20000 in
theorem rd_badM {mod_code : Int32} {court_shoeCount : Int32} {mod_claims : Int32} {ts : Int32} {court_suitCount : Int32} {mod_doneMany : Int32} {mod_undoneMany : Int32} {mod_isBoth : Int32} {mod_wished : Int32} {mod_bestMany : Int32} {mod_bestRow : Int32} {mod_ringDigits : Int32} {mod_traces : Int32} {tm : Nat → Int32} {n : Nat} {x1 : Int32} {he g o l : Int32} {ac wi lm te le : Nat → Int32} {S : Int32 × Int32 × Int32 × Int32 × Int32 × Int32 × (Nat → Int32) × (Nat → Int32) × (Nat → Int32) × (Nat → Int32) × (Nat → Int32)} (hg : 0 ≤ g.toInt) (h : (G_X12_law mod_code court_shoeCount mod_claims court_suitCount mod_doneMany mod_undoneMany mod_isBoth mod_wished mod_bestMany mod_bestRow mod_ringDigits mod_traces tm n).1 x1 ts he g o l ac wi lm te le = some S) : S.1 = (-100 : Int32) - g := by
  cases n with
  | zero => cases h
  | succ n =>
    have h : B_X12_law_56 (G_X12_law mod_code court_shoeCount mod_claims court_suitCount mod_doneMany mod_undoneMany mod_isBoth mod_wished mod_bestMany mod_bestRow mod_ringDigits mod_traces tm n).1 (G_X12_law mod_code court_shoeCount mod_claims court_suitCount mod_doneMany mod_undoneMany mod_isBoth mod_wished mod_bestMany mod_bestRow mod_ringDigits mod_traces tm n).2.1 (G_X12_law mod_code court_shoeCount mod_claims court_suitCount mod_doneMany mod_undoneMany mod_isBoth mod_wished mod_bestMany mod_bestRow mod_ringDigits mod_traces tm n).2.2 mod_code court_shoeCount mod_claims court_suitCount mod_doneMany mod_undoneMany mod_isBoth mod_wished mod_bestMany mod_bestRow mod_ringDigits mod_traces tm x1 ts he g o l ac wi lm te le = some S := h
    unfold B_X12_law_56 at h
    exact rd_89 hg (zk_t (show 0 ≤ g by rw [i32_le, z32_0]; exact hg) h)
set_option maxHeartbeats 4000000 in
set_option maxRecDepth 20000 in
theorem rd_ok {mod_code : Int32} {court_shoeCount : Int32} {mod_claims : Int32} {ts : Int32} {court_suitCount : Int32} {mod_doneMany : Int32} {mod_undoneMany : Int32} {mod_isBoth : Int32} {mod_wished : Int32} {mod_bestMany : Int32} {mod_bestRow : Int32} {mod_ringDigits : Int32} {mod_traces : Int32} {tm : Nat → Int32} {n : Nat} {Ls : List (List (Int32 × Int32) × List (Int32 × Int32))} {x0 x1 sz a f : Int32} {cd : Nat → Int32} {he g o l : Int32} {ac wi lm te le : Nat → Int32} {S : Int32 × Int32 × Int32 × Int32 × Int32 × Int32 × (Nat → Int32) × (Nat → Int32) × (Nat → Int32) × (Nat → Int32) × (Nat → Int32)} (hi : RDI ts Ls x0 sz a f he g o l cd ac wi lm te le) (h1 : 0 ≤ x1.toInt) (h2 : (x1 / 10).toInt < 4) (h3 : (x1 - x1 / 10 * 10).toInt < 8) (hT : TS ts) (h : B_X12_law_111 (G_X12_law mod_code court_shoeCount mod_claims court_suitCount mod_doneMany mod_undoneMany mod_isBoth mod_wished mod_bestMany mod_bestRow mod_ringDigits mod_traces tm n).1 (G_X12_law mod_code court_shoeCount mod_claims court_suitCount mod_doneMany mod_undoneMany mod_isBoth mod_wished mod_bestMany mod_bestRow mod_ringDigits mod_traces tm n).2.1 (G_X12_law mod_code court_shoeCount mod_claims court_suitCount mod_doneMany mod_undoneMany mod_isBoth mod_wished mod_bestMany mod_bestRow mod_ringDigits mod_traces tm n).2.2 mod_code court_shoeCount mod_claims court_suitCount mod_doneMany mod_undoneMany mod_isBoth mod_wished mod_bestMany mod_bestRow mod_ringDigits mod_traces tm x1 ts he g o l ac wi lm te le = some S) : RDO (((8 : Int32) * (x1 / 10)) + (x1 - x1 / 10 * 10)).toInt.toNat ac wi lm te le (true, sz, a, f, cd) S := by
  obtain ⟨i1, i2, i3, i4, i5, i6, i7, i8, i9, i10, i11, i12, i13, i14⟩ := hi
  have hT2 := hT.2
  have i4' := i4.2
  have hp := ul_ix h1 h2 h3
  unfold B_X12_law_111 at h
  have h := zk_t (show g < 0 by rw [i32_lt, z32_0]; omega) h
  obtain ⟨v39, e39, h⟩ := zk_lt h
  rw [← e39] at hp ⊢
  have hn : (lm 32).toInt.toNat = Ls.length := by omega
  have hb := LLM_b Ls 1952 0 _ i13
  obtain ⟨q1, q2, q3, q4, q5, q6, q7⟩ := cp146 hp (by omega) (by omega) (fun i hi => by
    have := hb i (by omega)
    omega) _ _ _ _ _ S (by decide) (by rw [z32_0]; omega) (fun i hi => by
    obtain ⟨ln, m1, x, m2, e⟩ := LLM_tk Ls 1952 0 _ i13 i (Nat.zero_le _) hi
    rw [e]
    exact TKV_b (LLC_tk Ls 0 _ i12 ln m1 x m2)) h
  rw [z32_0] at q3 q4
  refine Or.inr ⟨rfl, q1, ⟨i6.1, by show sz.toInt ≤ 121; omega⟩, ⟨fun k k1 k2 => ?_, fun i j1 j2 => ?_, fun q j1 j2 => ?_⟩, Ls, l.toInt.toNat, i9, by omega, by omega, i14, i12, ?_, ?_⟩
  · rw [q3 k, q4 k, if_neg (by omega), if_neg (by omega)]
    exact ⟨rfl, rfl⟩
  · rw [q6 i, q7 i, if_neg (by omega), if_neg (by omega)]
    exact ⟨rfl, rfl⟩
  · rw [q5]
    exact upd_n j2
  · refine LLM_cp Ls 1952 _ 0 _ i13 (fun k hk => ?_) (fun i hi => ?_)
    · rw [q3, q4, if_pos (by omega), if_pos (by omega)]
      have e : 130 * v39.toInt.toNat + k - 130 * v39.toInt.toNat = k := by omega
      rw [e]
      exact ⟨rfl, rfl⟩
    · rw [q6, q7, if_pos (by omega), if_pos (by omega)]
      have e : 61 * v39.toInt.toNat + i - 61 * v39.toInt.toNat = i := by omega
      rw [e]
      exact ⟨rfl, rfl⟩
  · rw [q5, upd_at rfl]
    exact i8
set_option maxHeartbeats 4000000 in
set_option maxRecDepth 20000 in
theorem rd_go {mod_code : Int32} {court_shoeCount : Int32} {mod_claims : Int32} {ts : Int32} {court_suitCount : Int32} {mod_doneMany : Int32} {mod_undoneMany : Int32} {mod_isBoth : Int32} {mod_wished : Int32} {mod_bestMany : Int32} {mod_bestRow : Int32} {mod_ringDigits : Int32} {mod_traces : Int32} {tm : Nat → Int32} {tb : Nat → Int32} {x1 : Int32} (hT : TS ts) (hR : TR ts tb tm) (hB : ∀ k, k < ts.toInt.toNat → (tb k).toInt ≤ 255) (h1 : 0 ≤ x1.toInt) (h2 : (x1 / 10).toInt < 4) (h3 : (x1 - x1 / 10 * 10).toInt < 8) : ∀ (n m : Nat) (Ls : List (List (Int32 × Int32) × List (Int32 × Int32))) (x0 sz a f he g o l : Int32) (cd ac wi lm te le : Nat → Int32) (R : Bool × Int32 × Int32 × Int32 × (Nat → Int32)) (S : Int32 × Int32 × Int32 × Int32 × Int32 × Int32 × (Nat → Int32) × (Nat → Int32) × (Nat → Int32) × (Nat → Int32) × (Nat → Int32)), RDI ts Ls x0 sz a f he g o l cd ac wi lm te le → G_X5_read ts tb n x0 sz a f cd = some R → (G_X12_law mod_code court_shoeCount mod_claims court_suitCount mod_doneMany mod_undoneMany mod_isBoth mod_wished mod_bestMany mod_bestRow mod_ringDigits mod_traces tm m).1 x1 ts he g o l ac wi lm te le = some S → RDO (((8 : Int32) * (x1 / 10)) + (x1 - x1 / 10 * 10)).toInt.toNat ac wi lm te le R S := by
  intro n
  induction n with
  | zero =>
    intro m Ls x0 sz a f he g o l cd ac wi lm te le R S _ h
    cases h
  | succ n ih =>
    intro m Ls x0 sz a f he g o l cd ac wi lm te le R S hi h k
    cases m with
    | zero => cases k
    | succ m =>
      have h : B_X5_read_21 (G_X5_read ts tb n) ts tb x0 sz a f cd = some R := h
      have k : B_X12_law_56 (G_X12_law mod_code court_shoeCount mod_claims court_suitCount mod_doneMany mod_undoneMany mod_isBoth mod_wished mod_bestMany mod_bestRow mod_ringDigits mod_traces tm m).1 (G_X12_law mod_code court_shoeCount mod_claims court_suitCount mod_doneMany mod_undoneMany mod_isBoth mod_wished mod_bestMany mod_bestRow mod_ringDigits mod_traces tm m).2.1 (G_X12_law mod_code court_shoeCount mod_claims court_suitCount mod_doneMany mod_undoneMany mod_isBoth mod_wished mod_bestMany mod_bestRow mod_ringDigits mod_traces tm m).2.2 mod_code court_shoeCount mod_claims court_suitCount mod_doneMany mod_undoneMany mod_isBoth mod_wished mod_bestMany mod_bestRow mod_ringDigits mod_traces tm x1 ts he g o l ac wi lm te le = some S := k
      have hi0 := hi
      obtain ⟨i1, i2, i3, i4, i5, i6, i7, i8, i9, i10, i11, i12, i13, i14⟩ := hi
      have hT2 := hT.2
      have i4' := i4.2
      subst i3
      subst i5
      unfold B_X5_read_21 at h
      unfold B_X12_law_56 at k
      have h := zk_f (show ¬ (120 : Int32) ≤ x0 by
        rw [i32_le, show (120 : Int32).toInt = 120 from by decide]
        omega) h
      have k := zk_f (show ¬ 0 ≤ g by rw [i32_le, z32_0]; omega) k
      obtain ⟨r6, w7, c2, h⟩ := zk_o2 h
      obtain ⟨r13, w14, c1, k⟩ := zk_o2 k
      have hb1 := mb_look hT hR i4 c1
      rcases c5_accept hT (fun _ => i4) (x1 := 59) (n := 59) ⟨by decide, by decide⟩ c2 with ⟨_, z, r1, r2, r3⟩ | ⟨z, r1, r2⟩
      · have r1 := r1.symm
        subst r1
        subst r2
        have k := zk_t ((BR_e hb1 ⟨by decide, by decide, by decide⟩).mpr z) k
        have h := zk_f (show ¬ (1 : Int32) = 0 by decide) h
        obtain ⟨v23, e23, k⟩ := zk_lt k
        subst e23
        obtain ⟨u1, u2, u3, u4, a1, h⟩ := zk_o4 h
        obtain ⟨y1, y2, y3, y4, y5, y6, y7, y8, y9, b1, k⟩ := zk_o9 k
        obtain ⟨v16, e16, h⟩ := zk_lt h
        subst e16
        have r3' := r3.2
        have en := i32_s (a := he) (by have := i4.1; omega)
        have ex := i32_s (a := x0) (by omega)
        have hp : LPR ts 0 sz (he + 1) f (he + 1) g 0 l := ⟨i1, i2, rfl, r3, rfl, by decide, by decide, i6.1, by omega, i7.1, by omega⟩
        rcases ln_rel hT hR hB hp (by omega) a1 b1 with ⟨⟨j1, j2, j3, j4, j5, j6, j7, j8, j9, j10⟩, jl, ln, js, jc, jn, jf, jm, jl2, jfa, jft⟩ | hb
        · dsimp only at j1 j2 j3 j4 j5 j6 j7 j8 j9 j10 jl jc jn jf jm jl2 jfa jft
          have e1 : (lm 32).toInt.toNat = Ls.length := by omega
          have el : (lm 32 + 1).toInt = (lm 32).toInt + 1 := i32_s (by omega)
          have e2 : y4.toInt.toNat = l.toInt.toNat + ln.1.length + ln.2.length := by omega
          have e3 : u1.toInt.toNat = sz.toInt.toNat + lnl ln := by omega
          have hi2 : RDI ts (Ls ++ [ln]) (x0 + 1) u1 u2 u3 y1 y2 y3 y4 u4 y5 y6 y7 y8 y9 := by
            refine ⟨j1, j2, j3, j4, j5, ⟨j6, j7⟩, ⟨j8, j9⟩, ?_, ?_, ?_, ?_, ?_, ?_, ?_⟩
            · rw [jl, upd_at rfl, el, List.length_append]
              simp only [List.length_cons, List.length_nil]
              omega
            · rw [List.length_append]
              omega
            · rw [List.length_append]
              simp only [List.length_cons, List.length_nil]
              omega
            · rw [List.length_append]
              simp only [List.length_cons, List.length_nil]
              omega
            · rw [e3]
              exact LLC_sn Ls 0 _ i12 (fun i hi => jf i hi) jc
            · rw [e2]
              rw [e1] at jm jft
              exact LLM_sn Ls 1952 0 _ rfl i13 (fun i hi => jfa i hi) (fun i hi => jft i (by omega)) jm
            · intro ln2 hm
              rcases List.mem_append.mp hm with hm | hm
              · exact i14 ln2 hm
              · rw [List.mem_singleton.mp hm]
                exact js
          have q := ih m _ _ _ _ _ _ _ _ _ _ _ _ _ _ _ R S hi2 h k
          rcases q with q | ⟨q1, q2, q3, q4, q5⟩
          · exact Or.inl q
          · refine Or.inr ⟨q1, q2, q3, FRM_tr ⟨fun i hi => jfa i (by omega), fun i hi => jft i (by omega), fun i hi => ?_⟩ q4, q5⟩
            rw [jl]
            exact upd_n (by omega)
        · dsimp only at hb
          have q := rd_bad hT hb h
          have q2 := rd_badM (LBAD_g hb) k
          exact Or.inl ⟨q.1, by rw [q.2]; exact LBAD_g hb, by rw [q.2]; exact q2⟩
      · subst r1
        have r2 := r2.symm
        subst r2
        have z : bZ ts tb he ≠ 59 := z.elim (fun y => by omega) id
        have k := zk_f (fun y => z ((BR_e hb1 ⟨by decide, by decide, by decide⟩).mp y)) k
        have h := zk_t rfl h
        by_cases c : ts ≤ he
        · unfold B_X5_read_46 at h
          have h := zk_t c h
          unfold B_X5_read_64 at h
          have h := zk_f (show ¬ 0 ≤ f by rw [i32_le, z32_0]; omega) h
          obtain ⟨_, h⟩ := zk_gd h
          unfold B_X12_law_89 at k
          have k := zk_f (show ¬ 0 ≤ g by rw [i32_le, z32_0]; omega) k
          have k := zk_t c k
          rw [← Option.some.inj h]
          exact rd_ok hi0 h1 h2 h3 hT k
        · unfold B_X5_read_46 at h
          have h := zk_f c h
          obtain ⟨u, k2, h⟩ := zk_o1 h
          unfold B_X5_read_64 at h
          unfold B_X12_law_89 at k
          have k := zk_f (show ¬ 0 ≤ g by rw [i32_le, z32_0]; omega) k
          have k := zk_f c k
          obtain ⟨w, k3, k⟩ := zk_o1 k
          have hu : u = he := by
            rcases c5_fail k2 with ⟨_, e⟩ | ⟨e, _⟩
            · exact e
            · omega
          have hw : w = he := by
            rcases mb_wrong k3 with ⟨_, e⟩ | ⟨e, _⟩
            · exact e
            · omega
          subst hu
          subst hw
          have h := Option.some.inj (zk_t (show 0 ≤ u by rw [i32_le, z32_0]; exact i4.1) h)
          unfold B_X12_law_111 at k
          have k := Option.some.inj (zk_f (show ¬ u < 0 by rw [i32_lt, z32_0]; have := i4.1; omega) k)
          rw [← h, ← k]
          exact Or.inl ⟨rfl, i4.1, rfl⟩
theorem ul_mod {x1 : Int32} (h : 0 ≤ x1.toInt) : 0 ≤ (x1 - x1 / 10 * 10).toInt ∧ (x1 - x1 / 10 * 10).toInt ≤ 9 := by
  have e := zs_dv10 x1 h
  have e10 : (10 : Int32).toInt = 10 := by decide
  have hlt := Int32.toInt_lt x1
  rw [Int32.toInt_sub, Int32.toInt_mul, e, e10]
  rw [zi_bm2 (e := x1.toInt / 10 * 10) (by omega) (by omega)]
  rw [zi_bm2 (by omega) (by omega)]
  omega
set_option maxHeartbeats 4000000 in
set_option maxRecDepth 20000 in
theorem law_top {mod_code : Int32} {court_shoeCount : Int32} {mod_claims : Int32} {ts : Int32} {court_suitCount : Int32} {mod_doneMany : Int32} {mod_undoneMany : Int32} {mod_isBoth : Int32} {mod_wished : Int32} {mod_bestMany : Int32} {mod_bestRow : Int32} {mod_ringDigits : Int32} {mod_traces : Int32} {tm : Nat → Int32} {tb : Nat → Int32} {n m : Nat} {x1 sz a f he g o l : Int32} {cd ac wi lm te le : Nat → Int32} {R : Bool × Int32 × Int32 × Int32 × (Nat → Int32)} {S : Int32 × Int32 × Int32 × Int32 × Int32 × Int32 × (Nat → Int32) × (Nat → Int32) × (Nat → Int32) × (Nat → Int32) × (Nat → Int32)} (hT : TS ts) (hR : TR ts tb tm) (hB : ∀ k, k < ts.toInt.toNat → (tb k).toInt ≤ 255) (hx : ¬ (x1.toInt < 0 ∨ 4 ≤ (x1 / 10).toInt ∨ ¬ (x1 - x1 / 10 * 10).toInt < 8)) (h : f_X5_read n ts tb sz a f cd = some R) (k : f_X12_law m x1 mod_code court_shoeCount mod_claims ts he g court_suitCount mod_doneMany mod_undoneMany o l mod_isBoth mod_wished mod_bestMany mod_bestRow mod_ringDigits mod_traces tm ac wi lm te le = some S) : RDO (((8 : Int32) * (x1 / 10)) + (x1 - x1 / 10 * 10)).toInt.toNat ac wi lm te le R S := by
  have h1 : 0 ≤ x1.toInt := by omega
  have h2 : (x1 / 10).toInt < 4 := by omega
  have h3 : (x1 - x1 / 10 * 10).toInt < 8 := by omega
  have hT1 := hT.1
  have hT2 := hT.2
  have e32 : (32 : Int32).toNatClampNeg = 32 := by decide
  unfold f_X5_read B_X5_read_0 at h
  unfold f_X12_law B_X12_law_0 at k
  obtain ⟨u1, u2, u3, u4, a1, h⟩ := zk_o4 h
  have k := zk_f (show ¬ x1 < 0 by rw [i32_lt, z32_0]; omega) k
  have k := zk_f (show ¬ (3 : Int32) < x1 / (10 : Int32) by rw [i32_lt, show (3 : Int32).toInt = 3 from by decide]; omega) k
  obtain ⟨r3, w3, c3, k⟩ := zk_o2 k
  have er : r3 = 1 := by
    unfold f_X12_isLand B_X12_isLand_0 at c3
    obtain ⟨r1, w1, c1, c3⟩ := zk_o2 c3
    rw [pe_in] at c1
    have e := congrArg Prod.fst (Option.some.inj c1)
    dsimp only at e
    have hm := ul_mod h1
    rw [if_neg (by rw [i32_lt, i32_lt, z32_0, show (7 : Int32).toInt = 7 from by decide]; omega)] at e
    subst e
    obtain ⟨_, c3⟩ := zk_gd c3
    exact (congrArg Prod.fst (Option.some.inj c3)).symm
  have k := zk_f (by rw [er]; decide) k
  obtain ⟨f7, e7, k⟩ := zk_lt k
  rw [e32] at e7
  obtain ⟨y1, y2, y3, y4, y5, y6, y7, y8, y9, b1, k⟩ := zk_o9 k
  have l0 : (f7 32).toInt = 0 := by rw [e7, upd_at rfl, z32_0]
  have hp : LPR ts 0 0 0 (-1) 0 (-1) 0 0 := ⟨by decide, by decide, rfl, ⟨by decide, by rw [z32_0]; exact hT1⟩, rfl, by decide, by decide, by decide, by decide, by decide, by decide⟩
  rcases ln_rel hT hR hB hp (by omega) a1 b1 with ⟨⟨j1, j2, j3, j4, j5, j6, j7, j8, j9, j10⟩, jl, ln, js, jc, jn, jf, jm, jl2, jfa, jft⟩ | hb
  · dsimp only at j1 j2 j3 j4 j5 j6 j7 j8 j9 j10 jl jc jn jf jm jl2 jfa jft
    rw [z32_0] at j10 jc jn jm jl2
    have e1 : (f7 32).toInt.toNat = 0 := by omega
    rw [e1] at jm jft
    have el : (f7 32 + 1).toInt = (f7 32).toInt + 1 := i32_s (by omega)
    have hi2 : RDI ts [ln] 0 u1 u2 u3 y1 y2 y3 y4 u4 y5 y6 y7 y8 y9 := by
      refine ⟨j1, j2, j3, j4, j5, ⟨j6, j7⟩, ⟨j8, j9⟩, ?_, Nat.le_refl 1, ?_, ?_, ?_, ?_, ?_⟩
      · rw [jl, upd_at rfl, el, l0]
        rfl
      · show 2 * ((1 : Nat) : Int) ≤ u2.toInt + 1
        omega
      · show (0 : Int32).toInt + 1 = ((1 : Nat) : Int)
        rw [z32_0]
        rfl
      · exact ⟨jc, by show 0 + lnl ln = u1.toInt.toNat; omega⟩
      · exact ⟨jm, by show 0 + ln.1.length + ln.2.length = y4.toInt.toNat; omega⟩
      · intro ln2 hm
        rw [List.mem_singleton.mp hm]
        exact js
    rcases rd_go hT hR hB h1 h2 h3 _ _ _ _ _ _ _ _ _ _ _ _ _ _ _ _ _ R S hi2 h k with q | ⟨q1, q2, q3, q4, q5⟩
    · exact Or.inl q
    · refine Or.inr ⟨q1, q2, q3, FRM_tr ⟨fun i hi => jfa i (by omega), fun i hi => jft i (by omega), fun i hi => ?_⟩ q4, q5⟩
      rw [jl, upd_n (by omega), e7, upd_n (by omega)]
  · dsimp only at hb
    have q := rd_bad hT hb h
    have q2 := rd_badM (LBAD_g hb) k
    exact Or.inl ⟨q.1, by rw [q.2]; exact LBAD_g hb, by rw [q.2]; exact q2⟩
