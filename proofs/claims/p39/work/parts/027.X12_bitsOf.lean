theorem zh_cX12_bitsOf_0 : zck [3, 60, 26, 61, 28, 153, 0, 15, 132, 1, 1, 28, 28, 4, 100, 126, 61, 167, 255, 243, 27, 172] (zdu 0 cX12_bitsOf.data.toList) = true := by decide +kernel
theorem dX12_bitsOf_0 : decode cX12_bitsOf 0 = .ok (.iconst 0, 1) := zo_3 zh_cX12_bitsOf_0 0 rfl
theorem dX12_bitsOf_1 : decode cX12_bitsOf 1 = .ok (.istore_n 1, 1) := zo_60 zh_cX12_bitsOf_0 1 rfl
theorem dX12_bitsOf_2 : decode cX12_bitsOf 2 = .ok (.iload_n 0, 1) := zo_26 zh_cX12_bitsOf_0 2 rfl
theorem dX12_bitsOf_3 : decode cX12_bitsOf 3 = .ok (.istore_n 2, 1) := zo_61 zh_cX12_bitsOf_0 3 rfl
theorem dX12_bitsOf_4 : decode cX12_bitsOf 4 = .ok (.iload_n 2, 1) := zo_28 zh_cX12_bitsOf_0 4 rfl
theorem dX12_bitsOf_5 : decode cX12_bitsOf 5 = .ok (.ifCond .eq 15, 3) := zo_p153 zh_cX12_bitsOf_0 5 15 rfl rfl
theorem dX12_bitsOf_8 : decode cX12_bitsOf 8 = .ok (.iinc 1 1, 3) := zo_p132 zh_cX12_bitsOf_0 8 1 rfl rfl
theorem dX12_bitsOf_11 : decode cX12_bitsOf 11 = .ok (.iload_n 2, 1) := zo_28 zh_cX12_bitsOf_0 11 rfl
theorem dX12_bitsOf_12 : decode cX12_bitsOf 12 = .ok (.iload_n 2, 1) := zo_28 zh_cX12_bitsOf_0 12 rfl
theorem dX12_bitsOf_13 : decode cX12_bitsOf 13 = .ok (.iconst 1, 1) := zo_4 zh_cX12_bitsOf_0 13 rfl
theorem dX12_bitsOf_14 : decode cX12_bitsOf 14 = .ok (.isub, 1) := zo_100 zh_cX12_bitsOf_0 14 rfl
theorem dX12_bitsOf_15 : decode cX12_bitsOf 15 = .ok (.iand, 1) := zo_126 zh_cX12_bitsOf_0 15 rfl
theorem dX12_bitsOf_16 : decode cX12_bitsOf 16 = .ok (.istore_n 2, 1) := zo_61 zh_cX12_bitsOf_0 16 rfl
theorem dX12_bitsOf_17 : decode cX12_bitsOf 17 = .ok (.goto (-13), 3) := zo_n167 zh_cX12_bitsOf_0 17 12 rfl rfl
theorem zh_cX12_bitsOf_1 : zck [27, 172] (zdu 20 cX12_bitsOf.data.toList) = true := by decide +kernel
theorem dX12_bitsOf_20 : decode cX12_bitsOf 20 = .ok (.iload_n 1, 1) := zo_27 zh_cX12_bitsOf_1 0 rfl
theorem dX12_bitsOf_21 : decode cX12_bitsOf 21 = .ok (.ireturn, 1) := zo_172 zh_cX12_bitsOf_1 1 rfl
abbrev z_X12_bitsOf : List Cond := .code yX12_bitsOf cX12_bitsOf 3 (some .int) :: zW
abbrev wl_X12_bitsOf (ad : Nat → Nat) (cs : Nat → ClassId)   : va_W := []
def Q_X12_bitsOf (D : va_G) (cs : Nat → ClassId) (ad : Nat → Nat)   (A : Nat → Prop) (R : Int32 × Unit) : Array Value → State → Outcome → State → Prop :=
  va_Qi (fun (r : Int32) (u : Unit) => (r, u) = R) (fun (u : Unit) (t : State) => va_P D classes (wl_X12_bitsOf ad cs ) t.heap ∧ va_D A (wl_X12_bitsOf ad cs )) A
abbrev rm_X12_bitsOf : Room := { frames := 0, cells := 0, slots := 0, locals := 0 }
def B_X12_bitsOf_4   (g4 : Int32 → Int32 → (Option (Int32 × Unit)))  (x1 : Int32) (x2 : Int32) : Option (Int32 × Unit) :=
  (if x2 = 0 then (some (x1, ())) else (zk_let (x1 + (1 : Int32)) (fun v_2 => (zk_let (x2 &&& (x2 - (1 : Int32))) (fun v_3 => (g4 v_2 v_3))))))
def B_X12_bitsOf_0   (g4 : Int32 → Int32 → (Option (Int32 × Unit)))  (x0 : Int32) : Option (Int32 × Unit) :=
  (g4 (0 : Int32) x0)
def G_X12_bitsOf    (n : Nat) : (Int32 → Int32 → (Option (Int32 × Unit))) :=
  Nat.rec (motive := fun _ => (Int32 → Int32 → (Option (Int32 × Unit)))) ((fun _ _ => none)) (fun _ ih => (B_X12_bitsOf_4   ih )) n
def f_X12_bitsOf   (n : Nat) (x0 : Int32)  : Option (Int32 × Unit) := B_X12_bitsOf_0   ((G_X12_bitsOf    n))  x0 
set_option maxHeartbeats 4000000 in
set_option maxRecDepth 100000 in
theorem L_X12_bitsOf_4 {p : Program} {l : Launch} {e : Env} {s : State} {m : MethodId} {args : Array Value} {below : List Frame} {meth : Method} {c : Code} {A : Nat → Prop} {D : va_G} {cs : Nat → ClassId} {ad : Nat → Nat} {R : Int32 × Unit} {g4 : Int32 → Int32 → (Option (Int32 × Unit))} (C0 : zC p s m args meth c cX12_bitsOf 3 (some .int) RX12 zW) (hK : va_K D classes (zT cs) s) (hA : ∀ q : Nat, s.heap.size ≤ q → A q) (ih4 : ∀ (x1 : Int32) (x2 : Int32) (h : g4 x1 x2 = some R) (H : Heap) (locs : List Loc) (ls : Array Slot) (hP : va_P D classes (wl_X12_bitsOf ad cs ) H) (hD : va_D A (wl_X12_bitsOf ad cs )) (hS : va_S A s.heap H locs) (hl : lv_has ls 3 [(1, .int x1), (2, .int x2)]), W p l e rm_X12_bitsOf s m args below meth c H locs 0 0 (MQ below (Q_X12_bitsOf D cs ad  A R) args s 0 0 A) (F0 m 4 ls [])) (x1 : Int32) (x2 : Int32) (h : B_X12_bitsOf_4 g4 x1 x2 = some R) (H : Heap) (locs : List Loc) (ls : Array Slot) (hP : va_P D classes (wl_X12_bitsOf ad cs ) H) (hD : va_D A (wl_X12_bitsOf ad cs )) (hS : va_S A s.heap H locs) (hl : lv_has ls 3 [(1, .int x1), (2, .int x2)]) : W p l e rm_X12_bitsOf s m args below meth c H locs 0 0 (MQ below (Q_X12_bitsOf D cs ad  A R) args s 0 0 A) (F0 m 4 ls []) := by
  obtain ⟨hx, hb, hr, hml, hown, ht, hlocks⟩ := id C0
  refine lv_iload_n hx hb dX12_bitsOf_4 rfl (lv_at hl 1 rfl) ?_
  refine lv_if_eq (tgt := 20) hx hb dX12_bitsOf_5 (by decide) (fun c_1 => ?_) (fun c_1 => ?_)
  · have h := zk_t c_1 h
    refine lv_iload_n hx hb dX12_bitsOf_20 rfl (lv_at hl 0 rfl) ?_
    exact W.iret (v := x1) hx hb hr (fun t ht2 hW => ⟨⟨x1, (), rfl, Option.some.inj h, by rw [ht2]; exact hP, hD⟩, hS.F ht2⟩) hS.2.2 dX12_bitsOf_21 hlocks
  · have h := zk_f c_1 h
    obtain ⟨v_2, ev_2, h⟩ := zk_lt h
    refine lv_iinc (v := v_2) (lv' := [(1, .int v_2), (2, .int x2)]) hx hb dX12_bitsOf_8 hl (k := 0) rfl (by rw [ev_2]; rfl) (by decide) rfl (fun ls hl => ?_)
    refine lv_iload_n hx hb dX12_bitsOf_11 rfl (lv_at hl 1 rfl) ?_
    refine lv_iload_n hx hb dX12_bitsOf_12 rfl (lv_at hl 1 rfl) ?_
    refine lv_iconst (v := (1 : Int32)) hx hb dX12_bitsOf_13 (by decide) ?_
    refine lv_isub hx hb dX12_bitsOf_14 ?_
    refine lv_iand hx hb dX12_bitsOf_15 ?_
    obtain ⟨v_3, ev_3, h⟩ := zk_lt h
    refine W.eq (g2 := F0 m 16 ls [.int v_3]) (by rw [ev_3]) ?_
    refine lv_istore_n (lv' := [(2, .int v_3), (1, .int v_2)]) hx hb dX12_bitsOf_16 rfl hl (by decide) rfl (fun ls hl => ?_)
    refine lv_goto (tgt := 4) hx hb dX12_bitsOf_17 (by decide) ?_
    exact ih4 v_2 v_3 h H locs ls hP hD hS (lv_sub hl [1, 0] rfl)
set_option maxHeartbeats 4000000 in
set_option maxRecDepth 100000 in
theorem L_X12_bitsOf_0 {p : Program} {l : Launch} {e : Env} {s : State} {m : MethodId} {args : Array Value} {below : List Frame} {meth : Method} {c : Code} {A : Nat → Prop} {D : va_G} {cs : Nat → ClassId} {ad : Nat → Nat} {R : Int32 × Unit} {g4 : Int32 → Int32 → (Option (Int32 × Unit))} (C0 : zC p s m args meth c cX12_bitsOf 3 (some .int) RX12 zW) (hK : va_K D classes (zT cs) s) (hA : ∀ q : Nat, s.heap.size ≤ q → A q) (ih4 : ∀ (x1 : Int32) (x2 : Int32) (h : g4 x1 x2 = some R) (H : Heap) (locs : List Loc) (ls : Array Slot) (hP : va_P D classes (wl_X12_bitsOf ad cs ) H) (hD : va_D A (wl_X12_bitsOf ad cs )) (hS : va_S A s.heap H locs) (hl : lv_has ls 3 [(1, .int x1), (2, .int x2)]), W p l e rm_X12_bitsOf s m args below meth c H locs 0 0 (MQ below (Q_X12_bitsOf D cs ad  A R) args s 0 0 A) (F0 m 4 ls [])) (x0 : Int32) (h : B_X12_bitsOf_0 g4 x0 = some R) (H : Heap) (locs : List Loc) (ls : Array Slot) (hP : va_P D classes (wl_X12_bitsOf ad cs ) H) (hD : va_D A (wl_X12_bitsOf ad cs )) (hS : va_S A s.heap H locs) (hl : lv_has ls 3 [(0, .int x0)]) : W p l e rm_X12_bitsOf s m args below meth c H locs 0 0 (MQ below (Q_X12_bitsOf D cs ad  A R) args s 0 0 A) (F0 m 0 ls []) := by
  obtain ⟨hx, hb, hr, hml, hown, ht, hlocks⟩ := id C0
  refine lv_iconst (v := (0 : Int32)) hx hb dX12_bitsOf_0 (by decide) ?_
  refine lv_istore_n (lv' := [(1, .int (0 : Int32)), (0, .int x0)]) hx hb dX12_bitsOf_1 rfl hl (by decide) rfl (fun ls hl => ?_)
  refine lv_iload_n hx hb dX12_bitsOf_2 rfl (lv_at hl 1 rfl) ?_
  refine lv_istore_n (lv' := [(2, .int x0), (1, .int (0 : Int32)), (0, .int x0)]) hx hb dX12_bitsOf_3 rfl hl (by decide) rfl (fun ls hl => ?_)
  exact ih4 (0 : Int32) x0 h H locs ls hP hD hS (lv_sub hl [1, 0] rfl)
theorem LG_X12_bitsOf {p : Program} {l : Launch} {e : Env} {s : State} {m : MethodId} {args : Array Value} {below : List Frame} {meth : Method} {c : Code} {A : Nat → Prop} {D : va_G} {cs : Nat → ClassId} {ad : Nat → Nat} {R : Int32 × Unit} (C0 : zC p s m args meth c cX12_bitsOf 3 (some .int) RX12 zW) (hK : va_K D classes (zT cs) s) (hA : ∀ q : Nat, s.heap.size ≤ q → A q) : ∀ n : Nat, (∀ (x1 : Int32) (x2 : Int32) (h : (G_X12_bitsOf    n) x1 x2 = some R) (H : Heap) (locs : List Loc) (ls : Array Slot) (hP : va_P D classes (wl_X12_bitsOf ad cs ) H) (hD : va_D A (wl_X12_bitsOf ad cs )) (hS : va_S A s.heap H locs) (hl : lv_has ls 3 [(1, .int x1), (2, .int x2)]), W p l e rm_X12_bitsOf s m args below meth c H locs 0 0 (MQ below (Q_X12_bitsOf D cs ad  A R) args s 0 0 A) (F0 m 4 ls [])) := by
  intro n
  induction n with
  | zero =>
    refine ?_ <;> (intros; rename_i h _ _ _ _ _ _ _; cases h)
  | succ n ih =>
    exact L_X12_bitsOf_4 C0 hK hA  ih
set_option maxHeartbeats 4000000 in
set_option maxRecDepth 100000 in
theorem c_X12_bitsOf (l : Launch) (D : va_G) (cs : Nat → ClassId) (ad : Nat → Nat) (sz : Nat) (n : Nat) (x0 : Int32)  (R : Int32 × Unit) (h : f_X12_bitsOf   n x0  = some R) : Met l yX12_bitsOf (z_X12_bitsOf) rm_X12_bitsOf (va_Pc [.int x0] (zPre D cs (wl_X12_bitsOf ad cs ) sz)) (Q_X12_bitsOf D cs ad  (va_A (wl_X12_bitsOf ad cs ) sz) R) 0 0 (va_A (wl_X12_bitsOf ad cs ) sz) := by
  refine Met.ofW (cc := cX12_bitsOf) (maxL := 3) (ret := (some .int)) (by decide) rfl ?_
  intro p e s m args below meth c s₁ B hml hv
  obtain ⟨rfl, hsz, hP, hK, hD0⟩ := hv
  subst hsz
  have hD := hD0.self (sz := s.heap.size)
  have C0 : zC p s m _ meth c cX12_bitsOf 3 (some .int) RX12 zW := ⟨B.exec, B.bytes, B.returns, hml, findClass_of_methodNamed B.named, fun w hw => atoms_spec (ws := z_X12_bitsOf) B.pre w (List.mem_cons_of_mem _ hw), B.notSynchronized⟩
  have hA : ∀ q : Nat, s.heap.size ≤ q → va_A (wl_X12_bitsOf ad cs ) s.heap.size q := fun q h => Or.inr h
  have hl := lv_entry ([.int x0]) (n := 3) (Nat.le_of_ble_eq_true rfl)
  rw [lg_entry_eq]
  generalize (lg_sl ([.int x0]) ++ List.replicate (3 - (lg_sl ([.int x0])).length) Slot.unset).toArray = ls at hl ⊢
  exact L_X12_bitsOf_0 C0 hK hA  ((LG_X12_bitsOf C0 hK hA  n)) x0  h s.heap [] ls hP hD va_S.rf hl
