
set_option maxHeartbeats 4000000 in
set_option maxRecDepth 20000 in
theorem lw_bad {mod_code : Int32} {court_shoeCount : Int32} {mod_claims : Int32} {ts : Int32} {court_suitCount : Int32} {mod_doneMany : Int32} {mod_undoneMany : Int32} {mod_isBoth : Int32} {mod_wished : Int32} {mod_bestMany : Int32} {mod_bestRow : Int32} {mod_ringDigits : Int32} {mod_traces : Int32} {tm : Nat → Int32} {m : Nat} {x1 he g o l : Int32} {ac wi lm te le : Nat → Int32} {S : Int32 × Int32 × Int32 × Int32 × Int32 × Int32 × (Nat → Int32) × (Nat → Int32) × (Nat → Int32) × (Nat → Int32) × (Nat → Int32)} (hx : x1.toInt < 0 ∨ 4 ≤ (x1 / 10).toInt ∨ ¬ (x1 - x1 / 10 * 10).toInt < 8) (k : f_X12_law m x1 mod_code court_shoeCount mod_claims ts he g court_suitCount mod_doneMany mod_undoneMany o l mod_isBoth mod_wished mod_bestMany mod_bestRow mod_ringDigits mod_traces tm ac wi lm te le = some S) : S.1 = -1 := by
  unfold f_X12_law B_X12_law_0 at k
  by_cases c1 : x1 < 0
  · rw [← Option.some.inj (zk_t c1 k)]
  replace k := zk_f c1 k
  rw [i32_lt, z32_0] at c1
  by_cases c2 : (3 : Int32) < x1 / (10 : Int32)
  · rw [← Option.some.inj (zk_t c2 k)]
  replace k := zk_f c2 k
  rw [i32_lt, show (3 : Int32).toInt = 3 from by decide] at c2
  replace k := zk_o2 k
  obtain ⟨r3, w3, c3, k⟩ := k
  have er : r3 = 0 := by
    unfold f_X12_isLand B_X12_isLand_0 at c3
    obtain ⟨r1, w1, c4, c3⟩ := zk_o2 c3
    rw [pe_in] at c4
    have e := congrArg Prod.fst (Option.some.inj c4)
    dsimp only at e
    rw [if_pos (by rw [i32_lt, i32_lt, z32_0, show (7 : Int32).toInt = 7 from by decide]; omega)] at e
    subst e
    obtain ⟨_, c3⟩ := zk_gd c3
    exact (congrArg Prod.fst (Option.some.inj c3)).symm
  rw [← Option.some.inj (zk_t er k)]
def STK (sk : Nat → Int32) : List Int32 → Prop
  | [] => True
  | v :: t => sk t.length = v ∧ STK sk t
theorem STK_u {sk : Nat → Int32} {v : Int32} {k : Nat} : ∀ st : List Int32, STK sk st → st.length ≤ k → STK (upd sk k v) st
  | [], _, _ => trivial
  | x :: t, h, hk => by
    have hk : t.length + 1 ≤ k := hk
    refine ⟨?_, STK_u t h.2 (by omega)⟩
    rw [upd_n (by omega)]
    exact h.1
theorem STK_p {sk : Nat → Int32} {v : Int32} {k : Nat} {st : List Int32} (h : STK sk st) (hk : k = st.length) : STK (upd sk k v) (v :: st) := by
  subst hk
  exact ⟨upd_at rfl, STK_u st h (Nat.le_refl _)⟩
theorem tnc {y : Int32} {n : Nat} (h : y.toInt = (n : Int)) : y.toNatClampNeg = n := by
  show y.toInt.toNat = n
  omega
def val (fs : Nat → Int32) (L : List (Int32 × Int32)) : Int32 := match evs fs L [] with
  | some (v :: _) => v
  | _ => 0
def lev (fs : Nat → Int32) : List (List (Int32 × Int32) × List (Int32 × Int32)) → Int32
  | [] => 0
  | ln :: t => if ln.1.length = 0 ∨ ¬ val fs ln.1 = 0 then val fs ln.2 else lev fs t
theorem val_e {H : Nat} {L : List (Int32 × Int32)} (h : TSG H L) (fs : Nat → Int32) : evs fs L [] = some [val fs L] ∧ ∀ K, H ≤ K → evk fs K L [] = some [val fs L] := by
  obtain ⟨v, e, f⟩ := h fs []
  have ev : val fs L = v := by
    unfold val
    rw [e]
  rw [ev]
  exact ⟨e, fun K hK => f K (by simp only [List.length_nil]; omega)⟩
theorem CTk_tl {cd : Nat → Int32} {a : Nat} {x : Int32 × Int32} {L : List (Int32 × Int32)} (h : CTk cd a (x :: L)) : (cd a = enc x ∧ TKV x) ∧ CTk cd (a + 1) L := by
  refine ⟨h 0 x rfl, fun k y hk => ?_⟩
  have q := h (k + 1) y hk
  have e : a + (k + 1) = a + 1 + k := by omega
  rw [e] at q
  exact q
theorem MTk_tl {ac wi : Nat → Int32} {a : Nat} {x : Int32 × Int32} {L : List (Int32 × Int32)} (h : MTk ac wi a (x :: L)) : (ac a = x.1 ∧ wi a = x.2) ∧ MTk ac wi (a + 1) L := by
  refine ⟨h 0 x rfl, fun k y hk => ?_⟩
  have q := h (k + 1) y hk
  have e : a + (k + 1) = a + 1 + k := by omega
  rw [e] at q
  exact q
theorem MTk_l {ac wi : Nat → Int32} {a : Nat} {L L2 : List (Int32 × Int32)} (h : MTk ac wi a (L ++ L2)) : MTk ac wi a L ∧ MTk ac wi (a + L.length) L2 := by
  refine ⟨fun k x hk => h k x ?_, fun k x hk => ?_⟩
  · rw [List.getElem?_append_left (List.getElem?_eq_some_iff.mp hk).1]
    exact hk
  · have q := h (L.length + k) x (by rw [List.getElem?_append_right (by omega), Nat.add_sub_cancel_left]; exact hk)
    rw [← Nat.add_assoc] at q
    exact q
theorem en_num : ∀ (p : Fin 100) (q : Fin 100), (((Int32.ofNat (100 * p.val + q.val)) <<< ((5 : Int32) &&& 31)) ||| (0 : Int32)) &&& 31 = 0 ∧ ((((Int32.ofNat (100 * p.val + q.val)) <<< ((5 : Int32) &&& 31)) ||| (0 : Int32)) >>> ((5 : Int32) &&& 31)) = Int32.ofNat (100 * p.val + q.val) := by decide +kernel
theorem en_nam : ∀ n : Fin 11, (((Int32.ofNat n.val) <<< ((5 : Int32) &&& 31)) ||| (1 : Int32)) &&& 31 = 1 ∧ ((((Int32.ofNat n.val) <<< ((5 : Int32) &&& 31)) ||| (1 : Int32)) >>> ((5 : Int32) &&& 31)) = Int32.ofNat n.val := by decide +kernel
theorem en_unl : ∀ n : Fin 200, (((Int32.ofNat n.val) <<< ((5 : Int32) &&& 31)) ||| (3 : Int32)) &&& 31 = 3 ∧ ((((Int32.ofNat n.val) <<< ((5 : Int32) &&& 31)) ||| (3 : Int32)) >>> ((5 : Int32) &&& 31)) = Int32.ofNat n.val := by decide +kernel
theorem enc_num {x : Int32 × Int32} (h : x.1 = 1) (h0 : 0 ≤ x.2.toInt) (h1 : x.2.toInt ≤ 9999) : enc x &&& 31 = 0 ∧ enc x >>> ((5 : Int32) &&& 31) = x.2 := by
  have e : enc x = (x.2 <<< ((5 : Int32) &&& 31)) ||| (0 : Int32) := if_pos h
  have k := en_num ⟨x.2.toInt.toNat / 100, by omega⟩ ⟨x.2.toInt.toNat % 100, by omega⟩
  dsimp only at k
  rw [Nat.div_add_mod] at k
  rw [← i32_n h0] at k
  rw [e]
  exact k
theorem enc_nam {x : Int32 × Int32} (h : x.1 = 2) (h0 : 0 ≤ x.2.toInt) (h1 : x.2.toInt ≤ 10) : enc x &&& 31 = 1 ∧ enc x >>> ((5 : Int32) &&& 31) = x.2 := by
  have e : enc x = (x.2 <<< ((5 : Int32) &&& 31)) ||| (1 : Int32) := by
    unfold enc
    rw [if_neg (by rw [h]; decide), if_pos h]
  have k := en_nam ⟨x.2.toInt.toNat, by omega⟩
  dsimp only at k
  rw [← i32_n h0] at k
  rw [e]
  exact k
theorem i32_dv (a : Int32) : a / (-1 : Int32) = -a := by
  rw [← Int32.toBitVec_inj]
  show a.toBitVec.sdiv (-1#32) = -a.toBitVec
  rw [BitVec.sdiv_neg (by decide), BitVec.sdiv_one]
theorem enc_124 (y : Int32) : enc ((124 : Int32), y) = (6 : Int32) := by
  unfold enc
  dsimp only
  rw [if_neg (by decide), if_neg (by decide), if_neg (by decide), if_neg (by decide), if_pos rfl]
theorem enc_38 (y : Int32) : enc ((38 : Int32), y) = (7 : Int32) := by
  unfold enc
  dsimp only
  rw [if_neg (by decide), if_neg (by decide), if_neg (by decide), if_neg (by decide), if_neg (by decide), if_pos rfl]
theorem enc_60 (y : Int32) : enc ((60 : Int32), y) = (8 : Int32) := by
  unfold enc
  dsimp only
  rw [if_neg (by decide), if_neg (by decide), if_neg (by decide), if_neg (by decide), if_neg (by decide), if_neg (by decide), if_pos rfl]
theorem enc_61 (y : Int32) : enc ((61 : Int32), y) = (9 : Int32) := by
  unfold enc
  dsimp only
  rw [if_neg (by decide), if_neg (by decide), if_neg (by decide), if_neg (by decide), if_neg (by decide), if_neg (by decide), if_neg (by decide), if_pos rfl]
theorem enc_62 (y : Int32) : enc ((62 : Int32), y) = (10 : Int32) := by
  unfold enc
  dsimp only
  rw [if_neg (by decide), if_neg (by decide), if_neg (by decide), if_neg (by decide), if_neg (by decide), if_neg (by decide), if_neg (by decide), if_neg (by decide), if_pos rfl]
theorem enc_43 (y : Int32) : enc ((43 : Int32), y) = (11 : Int32) := by
  unfold enc
  dsimp only
  rw [if_neg (by decide), if_neg (by decide), if_neg (by decide), if_neg (by decide), if_neg (by decide), if_neg (by decide), if_neg (by decide), if_neg (by decide), if_neg (by decide), if_pos rfl]
theorem enc_45 (y : Int32) : enc ((45 : Int32), y) = (12 : Int32) := by
  unfold enc
  dsimp only
  rw [if_neg (by decide), if_neg (by decide), if_neg (by decide), if_neg (by decide), if_neg (by decide), if_neg (by decide), if_neg (by decide), if_neg (by decide), if_neg (by decide), if_neg (by decide), if_pos rfl]
theorem enc_42 (y : Int32) : enc ((42 : Int32), y) = (13 : Int32) := by
  unfold enc
  dsimp only
  rw [if_neg (by decide), if_neg (by decide), if_neg (by decide), if_neg (by decide), if_neg (by decide), if_neg (by decide), if_neg (by decide), if_neg (by decide), if_neg (by decide), if_neg (by decide), if_neg (by decide), if_pos rfl]
theorem enc_47 (y : Int32) : enc ((47 : Int32), y) = (14 : Int32) := by
  unfold enc
  dsimp only
  rw [if_neg (by decide), if_neg (by decide), if_neg (by decide), if_neg (by decide), if_neg (by decide), if_neg (by decide), if_neg (by decide), if_neg (by decide), if_neg (by decide), if_neg (by decide), if_neg (by decide), if_neg (by decide), if_pos rfl]
theorem enc_37 (y : Int32) : enc ((37 : Int32), y) = (15 : Int32) := by
  unfold enc
  dsimp only
  rw [if_neg (by decide), if_neg (by decide), if_neg (by decide), if_neg (by decide), if_neg (by decide), if_neg (by decide), if_neg (by decide), if_neg (by decide), if_neg (by decide), if_neg (by decide), if_neg (by decide), if_neg (by decide), if_neg (by decide)]
theorem enc_3 (y : Int32) : enc ((3 : Int32), y) = (4 : Int32) := by
  unfold enc
  dsimp only
  rw [if_neg (by decide), if_neg (by decide), if_pos rfl]
theorem enc_4 (y : Int32) : enc ((4 : Int32), y) = (5 : Int32) := by
  unfold enc
  dsimp only
  rw [if_neg (by decide), if_neg (by decide), if_neg (by decide), if_pos rfl]
theorem op2_124 (a b : Int32) : op2 (124 : Int32) a b = (if a = 0 ∧ b = 0 then 0 else 1) := by
  unfold op2
  rw [if_neg (by decide), if_neg (by decide), if_neg (by decide), if_neg (by decide), if_neg (by decide), if_neg (by decide), if_neg (by decide), if_neg (by decide), if_neg (by decide)]
theorem op2_38 (a b : Int32) : op2 (38 : Int32) a b = (if a = 0 ∨ b = 0 then 0 else 1) := by
  unfold op2
  rw [if_neg (by decide), if_neg (by decide), if_neg (by decide), if_neg (by decide), if_neg (by decide), if_neg (by decide), if_neg (by decide), if_neg (by decide), if_pos rfl]
theorem op2_60 (a b : Int32) : op2 (60 : Int32) a b = (if a < b then 1 else 0) := by
  unfold op2
  rw [if_neg (by decide), if_neg (by decide), if_neg (by decide), if_neg (by decide), if_neg (by decide), if_pos rfl]
theorem op2_61 (a b : Int32) : op2 (61 : Int32) a b = (if a = b then 1 else 0) := by
  unfold op2
  rw [if_neg (by decide), if_neg (by decide), if_neg (by decide), if_neg (by decide), if_neg (by decide), if_neg (by decide), if_pos rfl]
theorem op2_62 (a b : Int32) : op2 (62 : Int32) a b = (if b < a then 1 else 0) := by
  unfold op2
  rw [if_neg (by decide), if_neg (by decide), if_neg (by decide), if_neg (by decide), if_neg (by decide), if_neg (by decide), if_neg (by decide), if_pos rfl]
theorem op2_43 (a b : Int32) : op2 (43 : Int32) a b = a + b := by
  unfold op2
  rw [if_pos rfl]
theorem op2_45 (a b : Int32) : op2 (45 : Int32) a b = a - b := by
  unfold op2
  rw [if_neg (by decide), if_pos rfl]
theorem op2_42 (a b : Int32) : op2 (42 : Int32) a b = a * b := by
  unfold op2
  rw [if_neg (by decide), if_neg (by decide), if_pos rfl]
theorem op2_47 (a b : Int32) : op2 (47 : Int32) a b = (if b = 0 then 0 else a / b) := by
  unfold op2
  rw [if_neg (by decide), if_neg (by decide), if_neg (by decide), if_pos rfl]
theorem op2_37 (a b : Int32) : op2 (37 : Int32) a b = (if b = 0 then 0 else a - a / b * b) := by
  unfold op2
  rw [if_neg (by decide), if_neg (by decide), if_neg (by decide), if_neg (by decide), if_pos rfl]
theorem i32_mm (a : Int32) : a - -a * (-1 : Int32) = 0 := by
  rw [Int32.mul_neg, Int32.mul_one, Int32.neg_neg, Int32.sub_self]
set_option maxHeartbeats 4000000 in
set_option maxRecDepth 20000 in
theorem jn_124  {a b r : Int32} {u : Unit} (k : f_X4_join (6 : Int32) a b = some (r, u)) : r = op2 (124 : Int32) a b := by
  unfold f_X4_join at k
  unfold B_X4_join_0 at k
  replace k := zk_t rfl k
  by_cases qc1 : a = 0
  · replace k := zk_t qc1 k
    have qc1n := qc1
    (try simp only [i32_lt, i32_le, i32_e, z32_0, z32_1] at qc1n)
    by_cases qc2 : b = 0
    · replace k := zk_t qc2 k
      have qc2n := qc2
      (try simp only [i32_lt, i32_le, i32_e, z32_0, z32_1] at qc2n)
      replace k := (congrArg Prod.fst (Option.some.inj k)).symm
      dsimp only at k
      rw [k, op2_124]
      rw [if_pos ⟨qc1, qc2⟩]
    · replace k := zk_f qc2 k
      have qc2n := qc2
      (try simp only [i32_lt, i32_le, i32_e, z32_0, z32_1] at qc2n)
      unfold B_X4_join_60 at k
      replace k := (congrArg Prod.fst (Option.some.inj k)).symm
      dsimp only at k
      rw [k, op2_124]
      rw [if_neg (fun z => qc2 z.2)]
  · replace k := zk_f qc1 k
    have qc1n := qc1
    (try simp only [i32_lt, i32_le, i32_e, z32_0, z32_1] at qc1n)
    unfold B_X4_join_60 at k
    replace k := (congrArg Prod.fst (Option.some.inj k)).symm
    dsimp only at k
    rw [k, op2_124]
    rw [if_neg (fun z => qc1 z.1)]
set_option maxHeartbeats 4000000 in
set_option maxRecDepth 20000 in
theorem tw_124  {a b r : Int32} {u : Unit} (k : f_X12_twoOf (124 : Int32) a b = some (r, u)) : r = op2 (124 : Int32) a b := by
  unfold f_X12_twoOf at k
  unfold B_X12_twoOf_0 at k
  replace k := zk_f (by decide) k
  replace k := zk_f (by decide) k
  replace k := zk_f (by decide) k
  replace k := zk_f (by decide) k
  replace k := zk_f (by decide) k
  replace k := zk_f (by decide) k
  replace k := zk_f (by decide) k
  replace k := zk_f (by decide) k
  replace k := zk_f (by decide) k
  replace k := zk_f (by decide) k
  replace k := zk_f (by decide) k
  replace k := zk_f (by decide) k
  replace k := zk_f (by decide) k
  replace k := zk_f (by decide) k
  replace k := zk_f (by decide) k
  replace k := zk_f (by decide) k
  replace k := zk_f (by decide) k
  replace k := zk_f (by decide) k
  replace k := zk_f (by decide) k
  replace k := zk_f (by decide) k
  replace k := zk_f (by decide) k
  replace k := zk_f (by decide) k
  replace k := zk_f (by decide) k
  replace k := zk_f (by decide) k
  replace k := zk_f (by decide) k
  replace k := zk_f (by decide) k
  by_cases qc1 : a = 0
  · replace k := zk_t qc1 k
    have qc1n := qc1
    (try simp only [i32_lt, i32_le, i32_e, z32_0, z32_1] at qc1n)
    by_cases qc2 : b = 0
    · replace k := zk_t qc2 k
      have qc2n := qc2
      (try simp only [i32_lt, i32_le, i32_e, z32_0, z32_1] at qc2n)
      replace k := (congrArg Prod.fst (Option.some.inj k)).symm
      dsimp only at k
      rw [k, op2_124]
      rw [if_pos ⟨qc1, qc2⟩]
    · replace k := zk_f qc2 k
      have qc2n := qc2
      (try simp only [i32_lt, i32_le, i32_e, z32_0, z32_1] at qc2n)
      unfold B_X12_twoOf_226 at k
      replace k := (congrArg Prod.fst (Option.some.inj k)).symm
      dsimp only at k
      rw [k, op2_124]
      rw [if_neg (fun z => qc2 z.2)]
  · replace k := zk_f qc1 k
    have qc1n := qc1
    (try simp only [i32_lt, i32_le, i32_e, z32_0, z32_1] at qc1n)
    unfold B_X12_twoOf_226 at k
    replace k := (congrArg Prod.fst (Option.some.inj k)).symm
    dsimp only at k
    rw [k, op2_124]
    rw [if_neg (fun z => qc1 z.1)]
set_option maxHeartbeats 4000000 in
set_option maxRecDepth 20000 in
theorem jn_38  {a b r : Int32} {u : Unit} (k : f_X4_join (7 : Int32) a b = some (r, u)) : r = op2 (38 : Int32) a b := by
  unfold f_X4_join at k
  unfold B_X4_join_0 at k
  replace k := zk_f (by decide) k
  replace k := zk_t rfl k
  by_cases qc1 : a = 0
  · replace k := zk_t qc1 k
    have qc1n := qc1
    (try simp only [i32_lt, i32_le, i32_e, z32_0, z32_1] at qc1n)
    replace k := (congrArg Prod.fst (Option.some.inj k)).symm
    dsimp only at k
    rw [k, op2_38]
    rw [if_pos (Or.inl qc1)]
  · replace k := zk_f qc1 k
    have qc1n := qc1
    (try simp only [i32_lt, i32_le, i32_e, z32_0, z32_1] at qc1n)
    by_cases qc2 : b = 0
    · replace k := zk_t qc2 k
      have qc2n := qc2
      (try simp only [i32_lt, i32_le, i32_e, z32_0, z32_1] at qc2n)
      replace k := (congrArg Prod.fst (Option.some.inj k)).symm
      dsimp only at k
      rw [k, op2_38]
      rw [if_pos (Or.inr qc2)]
    · replace k := zk_f qc2 k
      have qc2n := qc2
      (try simp only [i32_lt, i32_le, i32_e, z32_0, z32_1] at qc2n)
      replace k := (congrArg Prod.fst (Option.some.inj k)).symm
      dsimp only at k
      rw [k, op2_38]
      rw [if_neg (fun z => z.elim qc1 qc2)]
set_option maxHeartbeats 4000000 in
set_option maxRecDepth 20000 in
theorem tw_38  {a b r : Int32} {u : Unit} (k : f_X12_twoOf (38 : Int32) a b = some (r, u)) : r = op2 (38 : Int32) a b := by
  unfold f_X12_twoOf at k
  unfold B_X12_twoOf_0 at k
  replace k := zk_f (by decide) k
  replace k := zk_t rfl k
  by_cases qc1 : a = 0
  · replace k := zk_t qc1 k
    have qc1n := qc1
    (try simp only [i32_lt, i32_le, i32_e, z32_0, z32_1] at qc1n)
    replace k := (congrArg Prod.fst (Option.some.inj k)).symm
    dsimp only at k
    rw [k, op2_38]
    rw [if_pos (Or.inl qc1)]
  · replace k := zk_f qc1 k
    have qc1n := qc1
    (try simp only [i32_lt, i32_le, i32_e, z32_0, z32_1] at qc1n)
    by_cases qc2 : b = 0
    · replace k := zk_t qc2 k
      have qc2n := qc2
      (try simp only [i32_lt, i32_le, i32_e, z32_0, z32_1] at qc2n)
      replace k := (congrArg Prod.fst (Option.some.inj k)).symm
      dsimp only at k
      rw [k, op2_38]
      rw [if_pos (Or.inr qc2)]
    · replace k := zk_f qc2 k
      have qc2n := qc2
      (try simp only [i32_lt, i32_le, i32_e, z32_0, z32_1] at qc2n)
      replace k := (congrArg Prod.fst (Option.some.inj k)).symm
      dsimp only at k
      rw [k, op2_38]
      rw [if_neg (fun z => z.elim qc1 qc2)]
set_option maxHeartbeats 4000000 in
set_option maxRecDepth 20000 in
theorem jn_60  {a b r : Int32} {u : Unit} (k : f_X4_join (8 : Int32) a b = some (r, u)) : r = op2 (60 : Int32) a b := by
  unfold f_X4_join at k
  unfold B_X4_join_0 at k
  replace k := zk_f (by decide) k
  replace k := zk_f (by decide) k
  replace k := zk_t rfl k
  by_cases qc1 : b ≤ a
  · replace k := zk_t qc1 k
    have qc1n := qc1
    (try simp only [i32_lt, i32_le, i32_e, z32_0, z32_1] at qc1n)
    replace k := (congrArg Prod.fst (Option.some.inj k)).symm
    dsimp only at k
    rw [k, op2_60]
    rw [if_neg (by rw [i32_lt]; rw [i32_le] at qc1; omega)]
  · replace k := zk_f qc1 k
    have qc1n := qc1
    (try simp only [i32_lt, i32_le, i32_e, z32_0, z32_1] at qc1n)
    replace k := (congrArg Prod.fst (Option.some.inj k)).symm
    dsimp only at k
    rw [k, op2_60]
    rw [if_pos (by rw [i32_lt]; rw [i32_le] at qc1; omega)]
set_option maxHeartbeats 4000000 in
set_option maxRecDepth 20000 in
theorem tw_60  {a b r : Int32} {u : Unit} (k : f_X12_twoOf (60 : Int32) a b = some (r, u)) : r = op2 (60 : Int32) a b := by
  unfold f_X12_twoOf at k
  unfold B_X12_twoOf_0 at k
  replace k := zk_f (by decide) k
  replace k := zk_f (by decide) k
  replace k := zk_f (by decide) k
  replace k := zk_f (by decide) k
  replace k := zk_f (by decide) k
  replace k := zk_f (by decide) k
  replace k := zk_f (by decide) k
  replace k := zk_f (by decide) k
  replace k := zk_f (by decide) k
  replace k := zk_f (by decide) k
  replace k := zk_f (by decide) k
  replace k := zk_f (by decide) k
  replace k := zk_f (by decide) k
  replace k := zk_f (by decide) k
  replace k := zk_f (by decide) k
  replace k := zk_f (by decide) k
  replace k := zk_f (by decide) k
  replace k := zk_f (by decide) k
  replace k := zk_f (by decide) k
  replace k := zk_f (by decide) k
  replace k := zk_f (by decide) k
  replace k := zk_f (by decide) k
  replace k := zk_f (by decide) k
  replace k := zk_t rfl k
  by_cases qc1 : b ≤ a
  · replace k := zk_t qc1 k
    have qc1n := qc1
    (try simp only [i32_lt, i32_le, i32_e, z32_0, z32_1] at qc1n)
    replace k := (congrArg Prod.fst (Option.some.inj k)).symm
    dsimp only at k
    rw [k, op2_60]
    rw [if_neg (by rw [i32_lt]; rw [i32_le] at qc1; omega)]
  · replace k := zk_f qc1 k
    have qc1n := qc1
    (try simp only [i32_lt, i32_le, i32_e, z32_0, z32_1] at qc1n)
    replace k := (congrArg Prod.fst (Option.some.inj k)).symm
    dsimp only at k
    rw [k, op2_60]
    rw [if_pos (by rw [i32_lt]; rw [i32_le] at qc1; omega)]
set_option maxHeartbeats 4000000 in
set_option maxRecDepth 20000 in
theorem jn_61  {a b r : Int32} {u : Unit} (k : f_X4_join (9 : Int32) a b = some (r, u)) : r = op2 (61 : Int32) a b := by
  unfold f_X4_join at k
  unfold B_X4_join_0 at k
  replace k := zk_f (by decide) k
  replace k := zk_f (by decide) k
  replace k := zk_f (by decide) k
  replace k := zk_t rfl k
  by_cases qc1 : a = b
  · replace k := zk_t qc1 k
    have qc1n := qc1
    (try simp only [i32_lt, i32_le, i32_e, z32_0, z32_1] at qc1n)
    replace k := (congrArg Prod.fst (Option.some.inj k)).symm
    dsimp only at k
    rw [k, op2_61]
    rw [if_pos qc1]
  · replace k := zk_f qc1 k
    have qc1n := qc1
    (try simp only [i32_lt, i32_le, i32_e, z32_0, z32_1] at qc1n)
    replace k := (congrArg Prod.fst (Option.some.inj k)).symm
    dsimp only at k
    rw [k, op2_61]
    rw [if_neg qc1]
set_option maxHeartbeats 4000000 in
set_option maxRecDepth 20000 in
theorem tw_61  {a b r : Int32} {u : Unit} (k : f_X12_twoOf (61 : Int32) a b = some (r, u)) : r = op2 (61 : Int32) a b := by
  unfold f_X12_twoOf at k
  unfold B_X12_twoOf_0 at k
  replace k := zk_f (by decide) k
  replace k := zk_f (by decide) k
  replace k := zk_f (by decide) k
  replace k := zk_f (by decide) k
  replace k := zk_f (by decide) k
  replace k := zk_f (by decide) k
  replace k := zk_f (by decide) k
  replace k := zk_f (by decide) k
  replace k := zk_f (by decide) k
  replace k := zk_f (by decide) k
  replace k := zk_f (by decide) k
  replace k := zk_f (by decide) k
  replace k := zk_f (by decide) k
  replace k := zk_f (by decide) k
  replace k := zk_f (by decide) k
  replace k := zk_f (by decide) k
  replace k := zk_f (by decide) k
  replace k := zk_f (by decide) k
  replace k := zk_f (by decide) k
  replace k := zk_f (by decide) k
  replace k := zk_f (by decide) k
  replace k := zk_f (by decide) k
  replace k := zk_f (by decide) k
  replace k := zk_f (by decide) k
  replace k := zk_t rfl k
  by_cases qc1 : a = b
  · replace k := zk_t qc1 k
    have qc1n := qc1
    (try simp only [i32_lt, i32_le, i32_e, z32_0, z32_1] at qc1n)
    replace k := (congrArg Prod.fst (Option.some.inj k)).symm
    dsimp only at k
    rw [k, op2_61]
    rw [if_pos qc1]
  · replace k := zk_f qc1 k
    have qc1n := qc1
    (try simp only [i32_lt, i32_le, i32_e, z32_0, z32_1] at qc1n)
    replace k := (congrArg Prod.fst (Option.some.inj k)).symm
    dsimp only at k
    rw [k, op2_61]
    rw [if_neg qc1]
set_option maxHeartbeats 4000000 in
set_option maxRecDepth 20000 in
theorem jn_62  {a b r : Int32} {u : Unit} (k : f_X4_join (10 : Int32) a b = some (r, u)) : r = op2 (62 : Int32) a b := by
  unfold f_X4_join at k
  unfold B_X4_join_0 at k
  replace k := zk_f (by decide) k
  replace k := zk_f (by decide) k
  replace k := zk_f (by decide) k
  replace k := zk_f (by decide) k
  replace k := zk_t rfl k
  by_cases qc1 : a ≤ b
  · replace k := zk_t qc1 k
    have qc1n := qc1
    (try simp only [i32_lt, i32_le, i32_e, z32_0, z32_1] at qc1n)
    replace k := (congrArg Prod.fst (Option.some.inj k)).symm
    dsimp only at k
    rw [k, op2_62]
    rw [if_neg (by rw [i32_lt]; rw [i32_le] at qc1; omega)]
  · replace k := zk_f qc1 k
    have qc1n := qc1
    (try simp only [i32_lt, i32_le, i32_e, z32_0, z32_1] at qc1n)
    replace k := (congrArg Prod.fst (Option.some.inj k)).symm
    dsimp only at k
    rw [k, op2_62]
    rw [if_pos (by rw [i32_lt]; rw [i32_le] at qc1; omega)]
set_option maxHeartbeats 4000000 in
set_option maxRecDepth 20000 in
theorem tw_62  {a b r : Int32} {u : Unit} (k : f_X12_twoOf (62 : Int32) a b = some (r, u)) : r = op2 (62 : Int32) a b := by
  unfold f_X12_twoOf at k
  unfold B_X12_twoOf_0 at k
  replace k := zk_f (by decide) k
  replace k := zk_f (by decide) k
  replace k := zk_f (by decide) k
  replace k := zk_f (by decide) k
  replace k := zk_f (by decide) k
  replace k := zk_f (by decide) k
  replace k := zk_f (by decide) k
  replace k := zk_f (by decide) k
  replace k := zk_f (by decide) k
  replace k := zk_f (by decide) k
  replace k := zk_f (by decide) k
  replace k := zk_f (by decide) k
  replace k := zk_f (by decide) k
  replace k := zk_f (by decide) k
  replace k := zk_f (by decide) k
  replace k := zk_f (by decide) k
  replace k := zk_f (by decide) k
  replace k := zk_f (by decide) k
  replace k := zk_f (by decide) k
  replace k := zk_f (by decide) k
  replace k := zk_f (by decide) k
  replace k := zk_f (by decide) k
  replace k := zk_f (by decide) k
  replace k := zk_f (by decide) k
  replace k := zk_f (by decide) k
  replace k := zk_t rfl k
  by_cases qc1 : a ≤ b
  · replace k := zk_t qc1 k
    have qc1n := qc1
    (try simp only [i32_lt, i32_le, i32_e, z32_0, z32_1] at qc1n)
    replace k := (congrArg Prod.fst (Option.some.inj k)).symm
    dsimp only at k
    rw [k, op2_62]
    rw [if_neg (by rw [i32_lt]; rw [i32_le] at qc1; omega)]
  · replace k := zk_f qc1 k
    have qc1n := qc1
    (try simp only [i32_lt, i32_le, i32_e, z32_0, z32_1] at qc1n)
    replace k := (congrArg Prod.fst (Option.some.inj k)).symm
    dsimp only at k
    rw [k, op2_62]
    rw [if_pos (by rw [i32_lt]; rw [i32_le] at qc1; omega)]
set_option maxHeartbeats 4000000 in
set_option maxRecDepth 20000 in
theorem jn_43  {a b r : Int32} {u : Unit} (k : f_X4_join (11 : Int32) a b = some (r, u)) : r = op2 (43 : Int32) a b := by
  unfold f_X4_join at k
  unfold B_X4_join_0 at k
  replace k := zk_f (by decide) k
  replace k := zk_f (by decide) k
  replace k := zk_f (by decide) k
  replace k := zk_f (by decide) k
  replace k := zk_f (by decide) k
  replace k := zk_t rfl k
  replace k := (congrArg Prod.fst (Option.some.inj k)).symm
  dsimp only at k
  rw [k, op2_43]
set_option maxHeartbeats 4000000 in
set_option maxRecDepth 20000 in
theorem tw_43  {a b r : Int32} {u : Unit} (k : f_X12_twoOf (43 : Int32) a b = some (r, u)) : r = op2 (43 : Int32) a b := by
  unfold f_X12_twoOf at k
  unfold B_X12_twoOf_0 at k
  replace k := zk_f (by decide) k
  replace k := zk_f (by decide) k
  replace k := zk_f (by decide) k
  replace k := zk_f (by decide) k
  replace k := zk_f (by decide) k
  replace k := zk_f (by decide) k
  replace k := zk_t rfl k
  replace k := (congrArg Prod.fst (Option.some.inj k)).symm
  dsimp only at k
  rw [k, op2_43]
set_option maxHeartbeats 4000000 in
set_option maxRecDepth 20000 in
theorem jn_45  {a b r : Int32} {u : Unit} (k : f_X4_join (12 : Int32) a b = some (r, u)) : r = op2 (45 : Int32) a b := by
  unfold f_X4_join at k
  unfold B_X4_join_0 at k
  replace k := zk_f (by decide) k
  replace k := zk_f (by decide) k
  replace k := zk_f (by decide) k
  replace k := zk_f (by decide) k
  replace k := zk_f (by decide) k
  replace k := zk_f (by decide) k
  replace k := zk_t rfl k
  replace k := (congrArg Prod.fst (Option.some.inj k)).symm
  dsimp only at k
  rw [k, op2_45]
set_option maxHeartbeats 4000000 in
set_option maxRecDepth 20000 in
theorem tw_45  {a b r : Int32} {u : Unit} (k : f_X12_twoOf (45 : Int32) a b = some (r, u)) : r = op2 (45 : Int32) a b := by
  unfold f_X12_twoOf at k
  unfold B_X12_twoOf_0 at k
  replace k := zk_f (by decide) k
  replace k := zk_f (by decide) k
  replace k := zk_f (by decide) k
  replace k := zk_f (by decide) k
  replace k := zk_f (by decide) k
  replace k := zk_f (by decide) k
  replace k := zk_f (by decide) k
  replace k := zk_f (by decide) k
  replace k := zk_t rfl k
  replace k := (congrArg Prod.fst (Option.some.inj k)).symm
  dsimp only at k
  rw [k, op2_45]
set_option maxHeartbeats 4000000 in
set_option maxRecDepth 20000 in
theorem jn_42  {a b r : Int32} {u : Unit} (k : f_X4_join (13 : Int32) a b = some (r, u)) : r = op2 (42 : Int32) a b := by
  unfold f_X4_join at k
  unfold B_X4_join_0 at k
  replace k := zk_f (by decide) k
  replace k := zk_f (by decide) k
  replace k := zk_f (by decide) k
  replace k := zk_f (by decide) k
  replace k := zk_f (by decide) k
  replace k := zk_f (by decide) k
  replace k := zk_f (by decide) k
  replace k := zk_t rfl k
  replace k := (congrArg Prod.fst (Option.some.inj k)).symm
  dsimp only at k
  rw [k, op2_42]
set_option maxHeartbeats 4000000 in
set_option maxRecDepth 20000 in
theorem tw_42  {a b r : Int32} {u : Unit} (k : f_X12_twoOf (42 : Int32) a b = some (r, u)) : r = op2 (42 : Int32) a b := by
  unfold f_X12_twoOf at k
  unfold B_X12_twoOf_0 at k
  replace k := zk_f (by decide) k
  replace k := zk_f (by decide) k
  replace k := zk_f (by decide) k
  replace k := zk_f (by decide) k
  replace k := zk_f (by decide) k
  replace k := zk_t rfl k
  replace k := (congrArg Prod.fst (Option.some.inj k)).symm
  dsimp only at k
  rw [k, op2_42]
set_option maxHeartbeats 4000000 in
set_option maxRecDepth 20000 in
theorem jn_47  {a b r : Int32} {u : Unit} (k : f_X4_join (14 : Int32) a b = some (r, u)) : r = op2 (47 : Int32) a b := by
  unfold f_X4_join at k
  unfold B_X4_join_0 at k
  replace k := zk_f (by decide) k
  replace k := zk_f (by decide) k
  replace k := zk_f (by decide) k
  replace k := zk_f (by decide) k
  replace k := zk_f (by decide) k
  replace k := zk_f (by decide) k
  replace k := zk_f (by decide) k
  replace k := zk_f (by decide) k
  replace k := zk_t rfl k
  by_cases qc1 : b = 0
  · replace k := zk_t qc1 k
    have qc1n := qc1
    (try simp only [i32_lt, i32_le, i32_e, z32_0, z32_1] at qc1n)
    replace k := (congrArg Prod.fst (Option.some.inj k)).symm
    dsimp only at k
    rw [k, op2_47]
    rw [if_pos qc1]
  · replace k := zk_f qc1 k
    have qc1n := qc1
    (try simp only [i32_lt, i32_le, i32_e, z32_0, z32_1] at qc1n)
    replace k := zk_gd k
    obtain ⟨_, k⟩ := k
    replace k := (congrArg Prod.fst (Option.some.inj k)).symm
    dsimp only at k
    rw [k, op2_47]
    rw [if_neg qc1]
set_option maxHeartbeats 4000000 in
set_option maxRecDepth 20000 in
theorem tw_47  {a b r : Int32} {u : Unit} (k : f_X12_twoOf (47 : Int32) a b = some (r, u)) : r = op2 (47 : Int32) a b := by
  unfold f_X12_twoOf at k
  unfold B_X12_twoOf_0 at k
  replace k := zk_f (by decide) k
  replace k := zk_f (by decide) k
  replace k := zk_f (by decide) k
  replace k := zk_f (by decide) k
  replace k := zk_f (by decide) k
  replace k := zk_f (by decide) k
  replace k := zk_f (by decide) k
  replace k := zk_f (by decide) k
  replace k := zk_f (by decide) k
  replace k := zk_f (by decide) k
  replace k := zk_t rfl k
  by_cases qc1 : b = 0
  · replace k := zk_t qc1 k
    have qc1n := qc1
    (try simp only [i32_lt, i32_le, i32_e, z32_0, z32_1] at qc1n)
    replace k := (congrArg Prod.fst (Option.some.inj k)).symm
    dsimp only at k
    rw [k, op2_47]
    rw [if_pos qc1]
  · replace k := zk_f qc1 k
    have qc1n := qc1
    (try simp only [i32_lt, i32_le, i32_e, z32_0, z32_1] at qc1n)
    by_cases qc2 : b = (-1 : Int32)
    · replace k := zk_t qc2 k
      have qc2n := qc2
      (try simp only [i32_lt, i32_le, i32_e, z32_0, z32_1, z32N_1] at qc2n)
      replace k := (congrArg Prod.fst (Option.some.inj k)).symm
      dsimp only at k
      rw [k, op2_47]
      rw [if_neg qc1, qc2, i32_dv]
    · replace k := zk_f qc2 k
      have qc2n := qc2
      (try simp only [i32_lt, i32_le, i32_e, z32_0, z32_1, z32N_1] at qc2n)
      replace k := zk_gd k
      obtain ⟨_, k⟩ := k
      replace k := (congrArg Prod.fst (Option.some.inj k)).symm
      dsimp only at k
      rw [k, op2_47]
      rw [if_neg qc1]
set_option maxHeartbeats 4000000 in
set_option maxRecDepth 20000 in
theorem jn_37  {a b r : Int32} {u : Unit} (k : f_X4_join (15 : Int32) a b = some (r, u)) : r = op2 (37 : Int32) a b := by
  unfold f_X4_join at k
  unfold B_X4_join_0 at k
  replace k := zk_f (by decide) k
  replace k := zk_f (by decide) k
  replace k := zk_f (by decide) k
  replace k := zk_f (by decide) k
  replace k := zk_f (by decide) k
  replace k := zk_f (by decide) k
  replace k := zk_f (by decide) k
  replace k := zk_f (by decide) k
  replace k := zk_f (by decide) k
  by_cases qc1 : b = 0
  · replace k := zk_t qc1 k
    have qc1n := qc1
    (try simp only [i32_lt, i32_le, i32_e, z32_0, z32_1] at qc1n)
    replace k := (congrArg Prod.fst (Option.some.inj k)).symm
    dsimp only at k
    rw [k, op2_37]
    rw [if_pos qc1]
  · replace k := zk_f qc1 k
    have qc1n := qc1
    (try simp only [i32_lt, i32_le, i32_e, z32_0, z32_1] at qc1n)
    replace k := zk_gd k
    obtain ⟨_, k⟩ := k
    replace k := (congrArg Prod.fst (Option.some.inj k)).symm
    dsimp only at k
    rw [k, op2_37]
    rw [if_neg qc1]
set_option maxHeartbeats 4000000 in
set_option maxRecDepth 20000 in
theorem tw_37  {a b r : Int32} {u : Unit} (k : f_X12_twoOf (37 : Int32) a b = some (r, u)) : r = op2 (37 : Int32) a b := by
  unfold f_X12_twoOf at k
  unfold B_X12_twoOf_0 at k
  replace k := zk_t rfl k
  by_cases qc1 : b = 0
  · replace k := zk_t qc1 k
    have qc1n := qc1
    (try simp only [i32_lt, i32_le, i32_e, z32_0, z32_1] at qc1n)
    unfold B_X12_twoOf_163 at k
    replace k := (congrArg Prod.fst (Option.some.inj k)).symm
    dsimp only at k
    rw [k, op2_37]
    rw [if_pos qc1]
  · replace k := zk_f qc1 k
    have qc1n := qc1
    (try simp only [i32_lt, i32_le, i32_e, z32_0, z32_1] at qc1n)
    by_cases qc2 : b = (-1 : Int32)
    · replace k := zk_t qc2 k
      have qc2n := qc2
      (try simp only [i32_lt, i32_le, i32_e, z32_0, z32_1, z32N_1] at qc2n)
      unfold B_X12_twoOf_163 at k
      replace k := (congrArg Prod.fst (Option.some.inj k)).symm
      dsimp only at k
      rw [k, op2_37]
      rw [if_neg qc1, qc2, i32_dv, i32_mm]
    · replace k := zk_f qc2 k
      have qc2n := qc2
      (try simp only [i32_lt, i32_le, i32_e, z32_0, z32_1, z32N_1] at qc2n)
      replace k := zk_gd k
      obtain ⟨_, k⟩ := k
      replace k := (congrArg Prod.fst (Option.some.inj k)).symm
      dsimp only at k
      rw [k, op2_37]
      rw [if_neg qc1]
def OPT (x : Int32 × Int32) : Prop := x.1 = 124 ∨ x.1 = 38 ∨ x.1 = 60 ∨ x.1 = 61 ∨ x.1 = 62 ∨ x.1 = 43 ∨ x.1 = 45 ∨ x.1 = 42 ∨ x.1 = 47 ∨ x.1 = 37
theorem TKV_c {x : Int32 × Int32} (h : TKV x) : (x.1 = 1 ∧ 0 ≤ x.2.toInt ∧ x.2.toInt ≤ 9999) ∨ (x.1 = 2 ∧ 0 ≤ x.2.toInt ∧ x.2.toInt ≤ 10) ∨ x.1 = 3 ∨ x.1 = 4 ∨ OPT x := by
  rcases h with h | h | ⟨h, _⟩
  · exact Or.inl h
  · exact Or.inr (Or.inl h)
  · rcases h with h | h | h | h | h | h | h | h | h | h | h | h
    · exact Or.inr (Or.inr (Or.inl h))
    · exact Or.inr (Or.inr (Or.inr (Or.inl h)))
    · exact Or.inr (Or.inr (Or.inr (Or.inr (Or.inl h))))
    · exact Or.inr (Or.inr (Or.inr (Or.inr (Or.inr (Or.inl h)))))
    · exact Or.inr (Or.inr (Or.inr (Or.inr (Or.inr (Or.inr (Or.inl h))))))
    · exact Or.inr (Or.inr (Or.inr (Or.inr (Or.inr (Or.inr (Or.inr (Or.inl h)))))))
    · exact Or.inr (Or.inr (Or.inr (Or.inr (Or.inr (Or.inr (Or.inr (Or.inr (Or.inl h))))))))
    · exact Or.inr (Or.inr (Or.inr (Or.inr (Or.inr (Or.inr (Or.inr (Or.inr (Or.inr (Or.inl h)))))))))
    · exact Or.inr (Or.inr (Or.inr (Or.inr (Or.inr (Or.inr (Or.inr (Or.inr (Or.inr (Or.inr (Or.inl h))))))))))
    · exact Or.inr (Or.inr (Or.inr (Or.inr (Or.inr (Or.inr (Or.inr (Or.inr (Or.inr (Or.inr (Or.inr (Or.inl h)))))))))))
    · exact Or.inr (Or.inr (Or.inr (Or.inr (Or.inr (Or.inr (Or.inr (Or.inr (Or.inr (Or.inr (Or.inr (Or.inr (Or.inl h))))))))))))
    · exact Or.inr (Or.inr (Or.inr (Or.inr (Or.inr (Or.inr (Or.inr (Or.inr (Or.inr (Or.inr (Or.inr (Or.inr (Or.inr (h)))))))))))))
theorem opt_n {x : Int32 × Int32} (h : OPT x) : ¬ x.1 = 1 ∧ ¬ x.1 = 2 ∧ ¬ x.1 = 3 ∧ ¬ x.1 = 4 := by
  rcases h with h | h | h | h | h | h | h | h | h | h <;> rw [h] <;> decide
theorem enc_op {x : Int32 × Int32} (h : OPT x) : enc x &&& 31 = enc x ∧ 6 ≤ (enc x).toInt ∧ (enc x).toInt ≤ 15 := by
  obtain ⟨w, y⟩ := x
  rcases h with h | h | h | h | h | h | h | h | h | h <;> (have h : w = _ := h; subst h)
  · rw [enc_124]
    decide
  · rw [enc_38]
    decide
  · rw [enc_60]
    decide
  · rw [enc_61]
    decide
  · rw [enc_62]
    decide
  · rw [enc_43]
    decide
  · rw [enc_45]
    decide
  · rw [enc_42]
    decide
  · rw [enc_47]
    decide
  · rw [enc_37]
    decide
set_option maxHeartbeats 4000000 in
set_option maxRecDepth 20000 in
theorem jn_op  {x : Int32 × Int32} {a b r : Int32} {u : Unit} (h : OPT x) (k : f_X4_join (enc x) a b = some (r, u)) : r = op2 x.1 a b := by
  obtain ⟨w, y⟩ := x
  rcases h with h | h | h | h | h | h | h | h | h | h <;> (have h : w = _ := h; subst h)
  · rw [enc_124] at k
    exact jn_124 k
  · rw [enc_38] at k
    exact jn_38 k
  · rw [enc_60] at k
    exact jn_60 k
  · rw [enc_61] at k
    exact jn_61 k
  · rw [enc_62] at k
    exact jn_62 k
  · rw [enc_43] at k
    exact jn_43 k
  · rw [enc_45] at k
    exact jn_45 k
  · rw [enc_42] at k
    exact jn_42 k
  · rw [enc_47] at k
    exact jn_47 k
  · rw [enc_37] at k
    exact jn_37 k
set_option maxHeartbeats 4000000 in
set_option maxRecDepth 20000 in
theorem tw_op  {x : Int32 × Int32} {a b r : Int32} {u : Unit} (h : OPT x) (k : f_X12_twoOf x.1 a b = some (r, u)) : r = op2 x.1 a b := by
  obtain ⟨w, y⟩ := x
  rcases h with h | h | h | h | h | h | h | h | h | h <;> (have h : w = _ := h; subst h)
  · exact tw_124 k
  · exact tw_38 k
  · exact tw_60 k
  · exact tw_61 k
  · exact tw_62 k
  · exact tw_43 k
  · exact tw_45 k
  · exact tw_42 k
  · exact tw_47 k
  · exact tw_37 k
set_option maxHeartbeats 4000000 in
set_option maxRecDepth 20000 in
theorem cv_step  {fs cd : Nat → Int32} {cn : Nat} {sk : Nat → Int32} {x3 x4 : Int32} {n : Nat} {R : Int32 × (Nat → Int32)} {x : Int32 × Int32} {st st2 : List Int32} (hx : TKV x) (hc : cd x4.toInt.toNat = enc x) (ha : 0 ≤ x4.toInt ∧ x4.toInt < (cn : Int)) (hcn : cn ≤ 121) (h3 : x3.toInt = (st.length : Int)) (hl : st.length ≤ 36) (hs : STK sk st) (hk : ¬ ((x.1 = 1 ∨ x.1 = 2) ∧ 36 ≤ st.length)) (he : ev1 fs x st = some st2) (h : B_X4_value_5 (G_X4_value fs 11 36 cd cn n) fs 11 36 cd cn x3 x4 sk = some R) : ∃ (y : Int32) (sk2 : Nat → Int32), y.toInt = (st2.length : Int) ∧ st2.length ≤ 36 ∧ STK sk2 st2 ∧ G_X4_value fs 11 36 cd cn n y (x4 + 1) sk2 = some R := by
  unfold B_X4_value_5 at h
  replace h := zk_f (show ¬ Int32.ofNat cn ≤ x4 by rw [i32_le, Int32.toInt_ofNat_of_lt (by omega)]; omega) h
  replace h := zk_gd h
  obtain ⟨_, h⟩ := h
  replace h := zk_lt h
  obtain ⟨v3, e3, h⟩ := h
  replace h := zk_gd h
  obtain ⟨_, h⟩ := h
  replace h := zk_lt h
  obtain ⟨v5, e5, h⟩ := h
  have ex : x4.toNatClampNeg = x4.toInt.toNat := rfl
  rw [ex, hc] at e3 e5
  have e36 : (Int32.ofNat 36).toInt = 36 := by decide
  rcases TKV_c hx with ⟨t, t2, t3⟩ | ⟨t, t2, t3⟩ | t | t | t
  · obtain ⟨q1, q2⟩ := enc_num t t2 t3
    rw [q1] at e3
    rw [q2] at e5
    subst e3
    have hl2 : st.length < 36 := by
      by_cases c : 36 ≤ st.length
      · exact absurd ⟨Or.inl t, c⟩ hk
      · omega
    replace h := zk_f (show ¬ (1 : Int32) < 0 by decide) h
    replace h := zk_t (show x3 < Int32.ofNat 36 by rw [i32_lt, e36]; omega) h
    replace h := zk_t rfl h
    unfold ev1 at he
    rw [if_pos t] at he
    have he := Option.some.inj he
    subst he
    unfold B_X4_value_79 at h
    replace h := zk_gd h
    obtain ⟨_, h⟩ := h
    replace h := zk_lt h
    obtain ⟨f, ef, h⟩ := h
    replace h := zk_lt h
    obtain ⟨w, ew, h⟩ := h
    unfold B_X4_value_214 at h
    replace h := zk_lt h
    obtain ⟨w2, rfl, h⟩ := h
    refine ⟨w, f, ?_, ?_, ?_, h⟩
    · rw [ew, i32_s (by omega), h3]
      rfl
    · show st.length + 1 ≤ 36
      omega
    · rw [ef]
      rw [e5]
      exact STK_p hs (tnc h3)
  · obtain ⟨q1, q2⟩ := enc_nam t t2 t3
    rw [q1] at e3
    rw [q2] at e5
    subst e3
    have hl2 : st.length < 36 := by
      by_cases c : 36 ≤ st.length
      · exact absurd ⟨Or.inr t, c⟩ hk
      · omega
    replace h := zk_f (show ¬ (1 : Int32) < 1 by decide) h
    replace h := zk_t (show x3 < Int32.ofNat 36 by rw [i32_lt, e36]; omega) h
    replace h := zk_f (show ¬ (1 : Int32) = 0 by decide) h
    have e11 : (Int32.ofNat 11).toInt = 11 := by decide
    replace h := zk_f (show ¬ Int32.ofNat 11 ≤ v5 by rw [i32_le, e11, e5]; omega) h
    replace h := zk_gd h
    obtain ⟨_, h⟩ := h
    unfold ev1 at he
    rw [if_neg (by rw [t]; decide), if_pos t] at he
    have he := Option.some.inj he
    subst he
    unfold B_X4_value_79 at h
    replace h := zk_gd h
    obtain ⟨_, h⟩ := h
    replace h := zk_lt h
    obtain ⟨f, ef, h⟩ := h
    replace h := zk_lt h
    obtain ⟨w, ew, h⟩ := h
    unfold B_X4_value_214 at h
    replace h := zk_lt h
    obtain ⟨w2, rfl, h⟩ := h
    refine ⟨w, f, ?_, ?_, ?_, h⟩
    · rw [ew, i32_s (by omega), h3]
      rfl
    · show st.length + 1 ≤ 36
      omega
    · rw [ef]
      rw [e5, show x.2.toNatClampNeg = x.2.toInt.toNat from rfl]
      exact STK_p hs (tnc h3)
  · have ee : enc x = 4 := by
      obtain ⟨w, y⟩ := x
      have t : w = 3 := t
      subst t
      exact enc_3 y
    cases st with
    | nil =>
      unfold ev1 at he
      rw [if_neg (by rw [t]; decide), if_neg (by rw [t]; decide), if_pos t] at he
      cases he
    | cons a tl =>
      have h3 : x3.toInt = ((tl.length + 1 : Nat) : Int) := h3
      unfold ev1 at he
      rw [if_neg (by rw [t]; decide), if_neg (by rw [t]; decide), if_pos t] at he
      have he := Option.some.inj he
      subst he
      rw [ee] at e3
      have e3 : v3 = (4 : Int32) := by rw [e3]; decide
      subst e3
      replace h := zk_t (show (1 : Int32) < 4 by decide) h
      replace h := zk_t (show (1 : Int32) ≤ x3 by rw [i32_le, z32_1]; omega) h
      replace h := zk_f (show ¬ (4 : Int32) = 2 by decide) h
      replace h := zk_f (show ¬ (4 : Int32) = 3 by decide) h
      replace h := zk_t (show (4 : Int32) = 4 from rfl) h
      have em := i32_m1 (a := x3) (by omega)
      have en : (x3 - 1).toNatClampNeg = tl.length := tnc (by omega)
      have ha : sk (x3 - 1).toNatClampNeg = a := by rw [en]; exact hs.1
      replace h := zk_gd h
      obtain ⟨_, h⟩ := h
      by_cases c0 : sk (x3 - 1).toNatClampNeg = 0
      · replace h := zk_t c0 h
        rw [ha] at c0
        unfold B_X4_value_162 at h
        replace h := zk_gd h
        obtain ⟨_, h⟩ := h
        replace h := zk_lt h
        obtain ⟨f, ef, h⟩ := h
        unfold B_X4_value_214 at h
        replace h := zk_lt h
        obtain ⟨w2, rfl, h⟩ := h
        refine ⟨x3, f, h3, hl, ?_, h⟩
        rw [ef, en, if_pos c0]
        exact STK_p hs.2 rfl
      · replace h := zk_f c0 h
        rw [ha] at c0
        unfold B_X4_value_162 at h
        replace h := zk_gd h
        obtain ⟨_, h⟩ := h
        replace h := zk_lt h
        obtain ⟨f, ef, h⟩ := h
        unfold B_X4_value_214 at h
        replace h := zk_lt h
        obtain ⟨w2, rfl, h⟩ := h
        refine ⟨x3, f, h3, hl, ?_, h⟩
        rw [ef, en, if_neg c0]
        exact STK_p hs.2 rfl
  · have ee : enc x = 5 := by
      obtain ⟨w, y⟩ := x
      have t : w = 4 := t
      subst t
      exact enc_4 y
    cases st with
    | nil =>
      unfold ev1 at he
      rw [if_neg (by rw [t]; decide), if_neg (by rw [t]; decide), if_neg (by rw [t]; decide), if_pos t] at he
      cases he
    | cons a tl =>
      have h3 : x3.toInt = ((tl.length + 1 : Nat) : Int) := h3
      unfold ev1 at he
      rw [if_neg (by rw [t]; decide), if_neg (by rw [t]; decide), if_neg (by rw [t]; decide), if_pos t] at he
      have he := Option.some.inj he
      subst he
      rw [ee] at e3
      have e3 : v3 = (5 : Int32) := by rw [e3]; decide
      subst e3
      replace h := zk_t (show (1 : Int32) < 5 by decide) h
      replace h := zk_t (show (1 : Int32) ≤ x3 by rw [i32_le, z32_1]; omega) h
      replace h := zk_f (show ¬ (5 : Int32) = 2 by decide) h
      replace h := zk_f (show ¬ (5 : Int32) = 3 by decide) h
      replace h := zk_f (show ¬ (5 : Int32) = 4 by decide) h
      replace h := zk_t (show (5 : Int32) = 5 from rfl) h
      have em := i32_m1 (a := x3) (by omega)
      have en : (x3 - 1).toNatClampNeg = tl.length := tnc (by omega)
      have ha : sk (x3 - 1).toNatClampNeg = a := by rw [en]; exact hs.1
      replace h := zk_gd h
      obtain ⟨_, h⟩ := h
      replace h := zk_lt h
      obtain ⟨v, ev, h⟩ := h
      replace h := zk_gd h
      obtain ⟨_, h⟩ := h
      replace h := zk_lt h
      obtain ⟨f, ef, h⟩ := h
      unfold B_X4_value_214 at h
      replace h := zk_lt h
      obtain ⟨w2, rfl, h⟩ := h
      refine ⟨x3, f, h3, hl, ?_, h⟩
      rw [ef, en, ev, ha]
      exact STK_p hs.2 rfl
  · obtain ⟨q1, q2, q3⟩ := enc_op t
    obtain ⟨n1, n2, n3, n4⟩ := opt_n t
    rw [q1] at e3
    unfold ev1 at he
    rw [if_neg n1, if_neg n2, if_neg n3, if_neg n4] at he
    cases st with
    | nil => cases he
    | cons b t1 =>
      cases t1 with
      | nil => cases he
      | cons a t2 =>
        have he := Option.some.inj he
        subst he
        have h3 : x3.toInt = ((t2.length + 1 + 1 : Nat) : Int) := h3
        have hl : t2.length + 1 + 1 ≤ 36 := hl
        have e3i : v3.toInt = (enc x).toInt := by rw [e3]
        replace h := zk_t (show (1 : Int32) < v3 by rw [i32_lt, z32_1]; omega) h
        replace h := zk_t (show (1 : Int32) ≤ x3 by rw [i32_le, z32_1]; omega) h
        have nv : ∀ c : Int32, c.toInt ≤ 5 → ¬ v3 = c := fun c hc z => by
          rw [z] at e3i
          omega
        replace h := zk_f (nv 2 (by decide)) h
        replace h := zk_f (nv 3 (by decide)) h
        replace h := zk_f (nv 4 (by decide)) h
        replace h := zk_f (nv 5 (by decide)) h
        replace h := zk_t (show (2 : Int32) ≤ x3 by rw [i32_le, show (2 : Int32).toInt = 2 from by decide]; omega) h
        replace h := zk_lt h
        obtain ⟨v13, e13, h⟩ := h
        have em : v13.toInt = x3.toInt - 1 := by
          rw [e13, i32_a (by omega) (by decide), show (-1 : Int32).toInt = -1 from by decide]
          omega
        have em2 := i32_m1 (a := v13) (by omega)
        have en : v13.toNatClampNeg = t2.length + 1 := tnc (by omega)
        have en2 : (v13 - 1).toNatClampNeg = t2.length := tnc (by omega)
        replace h := zk_gd h
        obtain ⟨_, h⟩ := h
        replace h := zk_gd h
        obtain ⟨_, h⟩ := h
        replace h := zk_o2 h
        obtain ⟨r, u, k, h⟩ := h
        rw [e3, en, en2] at k
        have hb : sk (t2.length + 1) = b := hs.1
        have ha2 : sk t2.length = a := hs.2.1
        rw [hb, ha2] at k
        have er := jn_op t k
        replace h := zk_gd h
        obtain ⟨_, h⟩ := h
        replace h := zk_lt h
        obtain ⟨f, ef, h⟩ := h
        unfold B_X4_value_214 at h
        replace h := zk_lt h
        obtain ⟨w2, rfl, h⟩ := h
        refine ⟨v13, f, by show v13.toInt = ((t2.length + 1 : Nat) : Int); omega, by show t2.length + 1 ≤ 36; omega, ?_, h⟩
        rw [ef, en2, er]
        exact STK_p hs.2.2 rfl
