theorem kw_235 : Cond.fieldLink RX9 9 "AlreadyJudged$Tape" "bytes" "[I" ∈ zW := zwI (i := 235) (by decide +kernel) (by decide +kernel)
theorem kw_237 : Cond.fieldLink RX9 15 "AlreadyJudged$Tape" "size" "I" ∈ zW := zwI (i := 237) (by decide +kernel) (by decide +kernel)
theorem dX9_byteAt_0 : decode cX9_byteAt 0 = .ok (.iload_n 1, 1) := by decide +kernel
theorem dX9_byteAt_1 : decode cX9_byteAt 1 = .ok (.ifCond .lt 26, 3) := by decide +kernel
theorem dX9_byteAt_4 : decode cX9_byteAt 4 = .ok (.iload_n 1, 1) := by decide +kernel
theorem dX9_byteAt_5 : decode cX9_byteAt 5 = .ok (.aload_n 0, 1) := by decide +kernel
theorem dX9_byteAt_6 : decode cX9_byteAt 6 = .ok (.getfield 15, 3) := by decide +kernel
theorem dX9_byteAt_9 : decode cX9_byteAt 9 = .ok (.if_icmp .ge 18, 3) := by decide +kernel
theorem dX9_byteAt_12 : decode cX9_byteAt 12 = .ok (.iload_n 1, 1) := by decide +kernel
theorem dX9_byteAt_13 : decode cX9_byteAt 13 = .ok (.bipush 120, 2) := by decide +kernel
theorem dX9_byteAt_15 : decode cX9_byteAt 15 = .ok (.if_icmp .ge 12, 3) := by decide +kernel
theorem dX9_byteAt_18 : decode cX9_byteAt 18 = .ok (.aload_n 0, 1) := by decide +kernel
theorem dX9_byteAt_19 : decode cX9_byteAt 19 = .ok (.getfield 9, 3) := by decide +kernel
theorem dX9_byteAt_22 : decode cX9_byteAt 22 = .ok (.iload_n 1, 1) := by decide +kernel
theorem dX9_byteAt_23 : decode cX9_byteAt 23 = .ok (.iaload, 1) := by decide +kernel
theorem dX9_byteAt_24 : decode cX9_byteAt 24 = .ok (.goto 4, 3) := by decide +kernel
theorem dX9_byteAt_27 : decode cX9_byteAt 27 = .ok (.iconst (-1), 1) := by decide +kernel
theorem dX9_byteAt_28 : decode cX9_byteAt 28 = .ok (.ireturn, 1) := by decide +kernel
abbrev z_X9_byteAt : List Cond := .code yX9_byteAt cX9_byteAt 2 (some .int) :: zW
abbrev wl_X9_byteAt (ad : Nat → Nat) (cs : Nat → ClassId)  (tape_size : Int32) (tape_bytes : Nat → Int32) : va_W := [((ad 23), .inr (9, [.ref (ad 24), .int tape_size])), ((ad 24), .inl (cs 0, 120, .inl tape_bytes))]
def Q_X9_byteAt (D : va_G) (cs : Nat → ClassId) (ad : Nat → Nat)  (tape_size : Int32) (tape_bytes : Nat → Int32) (A : Nat → Prop) (R : Int32 × Unit) : Array Value → State → Outcome → State → Prop :=
  va_Qi (fun (r : Int32) (u : Unit) => (r, u) = R) (fun (u : Unit) (t : State) => va_P D classes (wl_X9_byteAt ad cs tape_size tape_bytes) t.heap ∧ va_D A (wl_X9_byteAt ad cs tape_size tape_bytes)) A
abbrev rm_X9_byteAt : Room := { frames := 0, cells := 0, slots := 0, locals := 0 }
def B_X9_byteAt_0   (tape_size : Int32) (tape_bytes : Nat → Int32) (x1 : Int32) : Option (Int32 × Unit) :=
  (if x1 < 0 then (some ((-1 : Int32), ())) else (if tape_size ≤ x1 then (some ((-1 : Int32), ())) else (if (120 : Int32) ≤ x1 then (some ((-1 : Int32), ())) else (if (x1 < 0 ∨ 120 ≤ x1.toNatClampNeg) then none else (some (tape_bytes x1.toNatClampNeg, ()))))))
def f_X9_byteAt  (x1 : Int32) (tape_size : Int32) (tape_bytes : Nat → Int32) : Option (Int32 × Unit) := B_X9_byteAt_0  tape_size tape_bytes x1 
set_option maxHeartbeats 4000000 in
set_option maxRecDepth 100000 in
theorem L_X9_byteAt_0 {p : Program} {l : Launch} {e : Env} {s : State} {m : MethodId} {args : Array Value} {below : List Frame} {meth : Method} {c : Code} {A : Nat → Prop} {D : va_G} {cs : Nat → ClassId} {ad : Nat → Nat} {tape_size : Int32} {tape_bytes : Nat → Int32} {R : Int32 × Unit} (C0 : zC p s m args meth c cX9_byteAt 2 (some .int) RX9 zW) (hK : va_K D classes (zT cs) s) (hA : ∀ q : Nat, s.heap.size ≤ q → A q) (x1 : Int32) (h : B_X9_byteAt_0 tape_size tape_bytes x1 = some R) (H : Heap) (locs : List Loc) (ls : Array Slot) (hP : va_P D classes (wl_X9_byteAt ad cs tape_size tape_bytes) H) (hD : va_D A (wl_X9_byteAt ad cs tape_size tape_bytes)) (hS : va_S A s.heap H locs) (hl : lv_has ls 2 [(0, .ref (ad 23)), (1, .int x1)]) : W p l e rm_X9_byteAt s m args below meth c H locs 0 0 (MQ below (Q_X9_byteAt D cs ad tape_size tape_bytes A R) args s 0 0 A) (F0 m 0 ls []) := by
  obtain ⟨hx, hb, hr, hml, hown, ht, hlocks⟩ := id C0
  refine lv_iload_n hx hb dX9_byteAt_0 rfl (lv_at hl 1 rfl) ?_
  refine lv_if_lt (tgt := 27) hx hb dX9_byteAt_1 (by decide) (fun c_1 => ?_) (fun c_1 => ?_)
  · have h := zk_t c_1 h
    refine lv_iconst (v := (-1 : Int32)) hx hb dX9_byteAt_27 (by decide) ?_
    exact W.iret (v := (-1 : Int32)) hx hb hr (fun t ht2 hW => ⟨⟨(-1 : Int32), (), rfl, Option.some.inj h, by rw [ht2]; exact hP, hD⟩, hS.F ht2⟩) hS.2.2 dX9_byteAt_28 hlocks
  · have h := zk_f c_1 h
    refine lv_iload_n hx hb dX9_byteAt_4 rfl (lv_at hl 1 rfl) ?_
    refine lv_aload_n hx hb dX9_byteAt_5 rfl (lv_at hl 0 rfl) ?_
    refine va_get (D := D) (ci := 9) (v := .int tape_size) (C := RX9) (T := TX9) (N := 2) hx hb ht iX9 hown hK hP 0 rfl rfl 1 (by decide) (ht _ kw_237) (fun _ h9 => h9) rfl dX9_byteAt_6 ?_
    refine lv_icmp_ge (tgt := 27) hx hb dX9_byteAt_9 (by decide) (fun c_2 => ?_) (fun c_2 => ?_)
    · have h := zk_t c_2 h
      refine lv_iconst (v := (-1 : Int32)) hx hb dX9_byteAt_27 (by decide) ?_
      exact W.iret (v := (-1 : Int32)) hx hb hr (fun t ht2 hW => ⟨⟨(-1 : Int32), (), rfl, Option.some.inj h, by rw [ht2]; exact hP, hD⟩, hS.F ht2⟩) hS.2.2 dX9_byteAt_28 hlocks
    · have h := zk_f c_2 h
      refine lv_iload_n hx hb dX9_byteAt_12 rfl (lv_at hl 1 rfl) ?_
      refine lv_bipush (v := (120 : Int32)) hx hb dX9_byteAt_13 (by decide) ?_
      refine lv_icmp_ge (tgt := 27) hx hb dX9_byteAt_15 (by decide) (fun c_3 => ?_) (fun c_3 => ?_)
      · have h := zk_t c_3 h
        refine lv_iconst (v := (-1 : Int32)) hx hb dX9_byteAt_27 (by decide) ?_
        exact W.iret (v := (-1 : Int32)) hx hb hr (fun t ht2 hW => ⟨⟨(-1 : Int32), (), rfl, Option.some.inj h, by rw [ht2]; exact hP, hD⟩, hS.F ht2⟩) hS.2.2 dX9_byteAt_28 hlocks
      · have h := zk_f c_3 h
        refine lv_aload_n hx hb dX9_byteAt_18 rfl (lv_at hl 0 rfl) ?_
        refine va_get (D := D) (ci := 9) (v := .ref (ad 24)) (C := RX9) (T := TX9) (N := 2) hx hb ht iX9 hown hK hP 0 rfl rfl 0 (by decide) (ht _ kw_235) (fun _ h9 => h9) rfl dX9_byteAt_19 ?_
        refine lv_iload_n hx hb dX9_byteAt_22 rfl (lv_at hl 1 rfl) ?_
        obtain ⟨g_4, h⟩ := zk_gd h
        refine va_iald hx hb hK hP 1 0 rfl rfl g_4 dX9_byteAt_23 ?_
        refine lv_goto (tgt := 28) hx hb dX9_byteAt_24 (by decide) ?_
        exact W.iret (v := tape_bytes x1.toNatClampNeg) hx hb hr (fun t ht2 hW => ⟨⟨tape_bytes x1.toNatClampNeg, (), rfl, Option.some.inj h, by rw [ht2]; exact hP, hD⟩, hS.F ht2⟩) hS.2.2 dX9_byteAt_28 hlocks
set_option maxHeartbeats 4000000 in
set_option maxRecDepth 100000 in
theorem c_X9_byteAt (l : Launch) (D : va_G) (cs : Nat → ClassId) (ad : Nat → Nat) (sz : Nat) (x1 : Int32) (tape_size : Int32) (tape_bytes : Nat → Int32) (R : Int32 × Unit) (h : f_X9_byteAt  x1 tape_size tape_bytes = some R) : Met l yX9_byteAt (z_X9_byteAt) rm_X9_byteAt (va_Pc [.ref (ad 23), .int x1] (zPre D cs (wl_X9_byteAt ad cs tape_size tape_bytes) sz)) (Q_X9_byteAt D cs ad tape_size tape_bytes (va_A (wl_X9_byteAt ad cs tape_size tape_bytes) sz) R) 0 0 (va_A (wl_X9_byteAt ad cs tape_size tape_bytes) sz) := by
  refine Met.ofW (cc := cX9_byteAt) (maxL := 2) (ret := (some .int)) (by decide) rfl ?_
  intro p e s m args below meth c s₁ B hml hv
  obtain ⟨rfl, hsz, hP, hK, hD0⟩ := hv
  subst hsz
  have hD := hD0.self (sz := s.heap.size)
  have C0 : zC p s m _ meth c cX9_byteAt 2 (some .int) RX9 zW := ⟨B.exec, B.bytes, B.returns, hml, findClass_of_methodNamed B.named, fun w hw => atoms_spec (ws := z_X9_byteAt) B.pre w (List.mem_cons_of_mem _ hw), B.notSynchronized⟩
  have hA : ∀ q : Nat, s.heap.size ≤ q → va_A (wl_X9_byteAt ad cs tape_size tape_bytes) s.heap.size q := fun q h => Or.inr h
  have hl := lv_entry ([.ref (ad 23), .int x1]) (n := 2) (Nat.le_of_ble_eq_true rfl)
  rw [lg_entry_eq]
  generalize (lg_sl ([.ref (ad 23), .int x1]) ++ List.replicate (2 - (lg_sl ([.ref (ad 23), .int x1])).length) Slot.unset).toArray = ls at hl ⊢
  exact L_X9_byteAt_0 C0 hK hA   x1  h s.heap [] ls hP hD va_S.rf hl
theorem kw_78 : Cond.initialized RX9 ∈ zW := zwI (i := 78) (by decide +kernel) (by decide +kernel)
theorem kw_554 : Cond.instanceMethod yX9_byteAt ∈ zW := zwI (i := 554) (by decide +kernel) (by decide +kernel)
theorem kw_555 : Cond.selects RX9 yX9_byteAt yX9_byteAt ∈ zW := zwI (i := 555) (by decide +kernel) (by decide +kernel)
theorem kw_556 : Cond.code yX9_byteAt cX9_byteAt 2 (some .int) ∈ zW := zwI (i := 556) (by decide +kernel) (by decide +kernel)
theorem kw_561 : Cond.methodLink RX9 33 yX9_byteAt ∈ zW := zwI (i := 561) (by decide +kernel) (by decide +kernel)
theorem dX9_isDigitAt_0 : decode cX9_isDigitAt 0 = .ok (.aload_n 0, 1) := by decide +kernel
theorem dX9_isDigitAt_1 : decode cX9_isDigitAt 1 = .ok (.iload_n 1, 1) := by decide +kernel
theorem dX9_isDigitAt_2 : decode cX9_isDigitAt 2 = .ok (.invokevirtual 33, 3) := by decide +kernel
theorem dX9_isDigitAt_5 : decode cX9_isDigitAt 5 = .ok (.istore_n 2, 1) := by decide +kernel
theorem dX9_isDigitAt_6 : decode cX9_isDigitAt 6 = .ok (.iload_n 2, 1) := by decide +kernel
theorem dX9_isDigitAt_7 : decode cX9_isDigitAt 7 = .ok (.bipush 48, 2) := by decide +kernel
theorem dX9_isDigitAt_9 : decode cX9_isDigitAt 9 = .ok (.if_icmp .lt 13, 3) := by decide +kernel
theorem dX9_isDigitAt_12 : decode cX9_isDigitAt 12 = .ok (.iload_n 2, 1) := by decide +kernel
theorem dX9_isDigitAt_13 : decode cX9_isDigitAt 13 = .ok (.bipush 57, 2) := by decide +kernel
theorem dX9_isDigitAt_15 : decode cX9_isDigitAt 15 = .ok (.if_icmp .gt 7, 3) := by decide +kernel
theorem dX9_isDigitAt_18 : decode cX9_isDigitAt 18 = .ok (.iconst 1, 1) := by decide +kernel
theorem dX9_isDigitAt_19 : decode cX9_isDigitAt 19 = .ok (.goto 4, 3) := by decide +kernel
theorem dX9_isDigitAt_22 : decode cX9_isDigitAt 22 = .ok (.iconst 0, 1) := by decide +kernel
theorem dX9_isDigitAt_23 : decode cX9_isDigitAt 23 = .ok (.ireturn, 1) := by decide +kernel
abbrev z_X9_isDigitAt : List Cond := .code yX9_isDigitAt cX9_isDigitAt 3 (some .boolean) :: zW
abbrev wl_X9_isDigitAt (ad : Nat → Nat) (cs : Nat → ClassId)  (tape_size : Int32) (tape_bytes : Nat → Int32) : va_W := [((ad 23), .inr (9, [.ref (ad 24), .int tape_size])), ((ad 24), .inl (cs 0, 120, .inl tape_bytes))]
def Q_X9_isDigitAt (D : va_G) (cs : Nat → ClassId) (ad : Nat → Nat)  (tape_size : Int32) (tape_bytes : Nat → Int32) (A : Nat → Prop) (R : Int32 × Unit) : Array Value → State → Outcome → State → Prop :=
  va_Qi (fun (r : Int32) (u : Unit) => (r, u) = R) (fun (u : Unit) (t : State) => va_P D classes (wl_X9_isDigitAt ad cs tape_size tape_bytes) t.heap ∧ va_D A (wl_X9_isDigitAt ad cs tape_size tape_bytes)) A
abbrev rm_X9_isDigitAt : Room := { frames := 1, cells := 0, slots := 0, locals := 21 }
theorem g_X9_33 : GoodIn zW (wsV RX9 33 RX9 yX9_byteAt z_X9_byteAt) := zGV kw_561 kw_554 kw_555 kw_78 kw_556
def B_X9_isDigitAt_0   (tape_size : Int32) (tape_bytes : Nat → Int32) (x1 : Int32) : Option (Int32 × Unit) :=
  (zk_b2 (f_X9_byteAt x1 tape_size tape_bytes) (fun r_1 u_2 => (if r_1 < (48 : Int32) then (some ((0 : Int32), ())) else (if (57 : Int32) < r_1 then (some ((0 : Int32), ())) else (some ((1 : Int32), ()))))))
def f_X9_isDigitAt  (x1 : Int32) (tape_size : Int32) (tape_bytes : Nat → Int32) : Option (Int32 × Unit) := B_X9_isDigitAt_0  tape_size tape_bytes x1 
set_option maxHeartbeats 4000000 in
set_option maxRecDepth 100000 in
theorem L_X9_isDigitAt_0 {p : Program} {l : Launch} {e : Env} {s : State} {m : MethodId} {args : Array Value} {below : List Frame} {meth : Method} {c : Code} {A : Nat → Prop} {D : va_G} {cs : Nat → ClassId} {ad : Nat → Nat} {tape_size : Int32} {tape_bytes : Nat → Int32} {R : Int32 × Unit} (C0 : zC p s m args meth c cX9_isDigitAt 3 (some .boolean) RX9 zW) (hK : va_K D classes (zT cs) s) (hA : ∀ q : Nat, s.heap.size ≤ q → A q) (x1 : Int32) (h : B_X9_isDigitAt_0 tape_size tape_bytes x1 = some R) (H : Heap) (locs : List Loc) (ls : Array Slot) (hP : va_P D classes (wl_X9_isDigitAt ad cs tape_size tape_bytes) H) (hD : va_D A (wl_X9_isDigitAt ad cs tape_size tape_bytes)) (hS : va_S A s.heap H locs) (hl : lv_has ls 3 [(0, .ref (ad 23)), (1, .int x1)]) : W p l e rm_X9_isDigitAt s m args below meth c H locs 0 0 (MQ below (Q_X9_isDigitAt D cs ad tape_size tape_bytes A R) args s 0 0 A) (F0 m 0 ls []) := by
  obtain ⟨hx, hb, hr, hml, hown, ht, hlocks⟩ := id C0
  refine lv_aload_n hx hb dX9_isDigitAt_0 rfl (lv_at hl 0 rfl) ?_
  refine lv_iload_n hx hb dX9_isDigitAt_1 rfl (lv_at hl 1 rfl) ?_
  obtain ⟨r_1, u_2, hc_3, h⟩ := zk_o2 h
  refine zk_vi (post := (fun r u => (r, u) = (r_1, u_2))) (w1 := fun u => (wl_X9_byteAt ad cs tape_size tape_bytes)) (As := [.int x1]) (rest := []) (c_X9_byteAt l D cs ad  H.size x1 tape_size tape_bytes _ hc_3) ⟨hx, hb, hml, hown, ht⟩ (cwV 1 ht g_X9_33 rfl rfl rfl (by decide +kernel) ⟨Nat.le_of_ble_eq_true rfl, Nat.le_of_ble_eq_true rfl⟩) (va_recv hK hP (ci := 9) (q0 := 0) rfl rfl) hP hD hS hK hA [0, 1] [] rfl rfl rfl rfl (by decide) rfl hl.1 (Nat.le_of_ble_eq_true rfl) dX9_isDigitAt_2 ⟨Nat.zero_le _, Nat.zero_le _⟩ (fun r u H locs hq hP hD hS => ?_)
  cases hq
  have hP : va_P D classes (wl_X9_isDigitAt ad cs tape_size tape_bytes) H := hP.sub [0, 1] rfl
  have hD : va_D A (wl_X9_isDigitAt ad cs tape_size tape_bytes) := hD.sub [0, 1] rfl rfl
  refine lv_istore_n (lv' := [(2, .int r_1), (0, .ref (ad 23)), (1, .int x1)]) hx hb dX9_isDigitAt_5 rfl hl (by decide) rfl (fun ls hl => ?_)
  refine lv_iload_n hx hb dX9_isDigitAt_6 rfl (lv_at hl 0 rfl) ?_
  refine lv_bipush (v := (48 : Int32)) hx hb dX9_isDigitAt_7 (by decide) ?_
  refine lv_icmp_lt (tgt := 22) hx hb dX9_isDigitAt_9 (by decide) (fun c_4 => ?_) (fun c_4 => ?_)
  · have h := zk_t c_4 h
    refine lv_iconst (v := (0 : Int32)) hx hb dX9_isDigitAt_22 (by decide) ?_
    exact W.zret (ty := .boolean) (v := (0 : Int32)) hx hb hr rfl (fun t ht2 hW => ⟨⟨(0 : Int32), (), rfl, Option.some.inj h, by rw [ht2]; exact hP, hD⟩, hS.F ht2⟩) hS.2.2 dX9_isDigitAt_23 hlocks
  · have h := zk_f c_4 h
    refine lv_iload_n hx hb dX9_isDigitAt_12 rfl (lv_at hl 0 rfl) ?_
    refine lv_bipush (v := (57 : Int32)) hx hb dX9_isDigitAt_13 (by decide) ?_
    refine lv_icmp_gt (tgt := 22) hx hb dX9_isDigitAt_15 (by decide) (fun c_5 => ?_) (fun c_5 => ?_)
    · have h := zk_t c_5 h
      refine lv_iconst (v := (0 : Int32)) hx hb dX9_isDigitAt_22 (by decide) ?_
      exact W.zret (ty := .boolean) (v := (0 : Int32)) hx hb hr rfl (fun t ht2 hW => ⟨⟨(0 : Int32), (), rfl, Option.some.inj h, by rw [ht2]; exact hP, hD⟩, hS.F ht2⟩) hS.2.2 dX9_isDigitAt_23 hlocks
    · have h := zk_f c_5 h
      refine lv_iconst (v := (1 : Int32)) hx hb dX9_isDigitAt_18 (by decide) ?_
      refine lv_goto (tgt := 23) hx hb dX9_isDigitAt_19 (by decide) ?_
      exact W.zret (ty := .boolean) (v := (1 : Int32)) hx hb hr rfl (fun t ht2 hW => ⟨⟨(1 : Int32), (), rfl, Option.some.inj h, by rw [ht2]; exact hP, hD⟩, hS.F ht2⟩) hS.2.2 dX9_isDigitAt_23 hlocks
set_option maxHeartbeats 4000000 in
set_option maxRecDepth 100000 in
theorem c_X9_isDigitAt (l : Launch) (D : va_G) (cs : Nat → ClassId) (ad : Nat → Nat) (sz : Nat) (x1 : Int32) (tape_size : Int32) (tape_bytes : Nat → Int32) (R : Int32 × Unit) (h : f_X9_isDigitAt  x1 tape_size tape_bytes = some R) : Met l yX9_isDigitAt (z_X9_isDigitAt) rm_X9_isDigitAt (va_Pc [.ref (ad 23), .int x1] (zPre D cs (wl_X9_isDigitAt ad cs tape_size tape_bytes) sz)) (Q_X9_isDigitAt D cs ad tape_size tape_bytes (va_A (wl_X9_isDigitAt ad cs tape_size tape_bytes) sz) R) 0 0 (va_A (wl_X9_isDigitAt ad cs tape_size tape_bytes) sz) := by
  refine Met.ofW (cc := cX9_isDigitAt) (maxL := 3) (ret := (some .boolean)) (by decide) rfl ?_
  intro p e s m args below meth c s₁ B hml hv
  obtain ⟨rfl, hsz, hP, hK, hD0⟩ := hv
  subst hsz
  have hD := hD0.self (sz := s.heap.size)
  have C0 : zC p s m _ meth c cX9_isDigitAt 3 (some .boolean) RX9 zW := ⟨B.exec, B.bytes, B.returns, hml, findClass_of_methodNamed B.named, fun w hw => atoms_spec (ws := z_X9_isDigitAt) B.pre w (List.mem_cons_of_mem _ hw), B.notSynchronized⟩
  have hA : ∀ q : Nat, s.heap.size ≤ q → va_A (wl_X9_isDigitAt ad cs tape_size tape_bytes) s.heap.size q := fun q h => Or.inr h
  have hl := lv_entry ([.ref (ad 23), .int x1]) (n := 3) (Nat.le_of_ble_eq_true rfl)
  rw [lg_entry_eq]
  generalize (lg_sl ([.ref (ad 23), .int x1]) ++ List.replicate (3 - (lg_sl ([.ref (ad 23), .int x1])).length) Slot.unset).toArray = ls at hl ⊢
  exact L_X9_isDigitAt_0 C0 hK hA   x1  h s.heap [] ls hP hD va_S.rf hl
theorem dX9_add_0 : decode cX9_add 0 = .ok (.aload_n 0, 1) := by decide +kernel
theorem dX9_add_1 : decode cX9_add 1 = .ok (.getfield 15, 3) := by decide +kernel
theorem dX9_add_4 : decode cX9_add 4 = .ok (.bipush 120, 2) := by decide +kernel
theorem dX9_add_6 : decode cX9_add 6 = .ok (.if_icmp .ge 23, 3) := by decide +kernel
theorem dX9_add_9 : decode cX9_add 9 = .ok (.aload_n 0, 1) := by decide +kernel
theorem dX9_add_10 : decode cX9_add 10 = .ok (.getfield 9, 3) := by decide +kernel
theorem dX9_add_13 : decode cX9_add 13 = .ok (.aload_n 0, 1) := by decide +kernel
theorem dX9_add_14 : decode cX9_add 14 = .ok (.getfield 15, 3) := by decide +kernel
theorem dX9_add_17 : decode cX9_add 17 = .ok (.iload_n 1, 1) := by decide +kernel
theorem dX9_add_18 : decode cX9_add 18 = .ok (.iastore, 1) := by decide +kernel
theorem dX9_add_19 : decode cX9_add 19 = .ok (.aload_n 0, 1) := by decide +kernel
theorem dX9_add_20 : decode cX9_add 20 = .ok (.dup, 1) := by decide +kernel
theorem dX9_add_21 : decode cX9_add 21 = .ok (.getfield 15, 3) := by decide +kernel
theorem dX9_add_24 : decode cX9_add 24 = .ok (.iconst 1, 1) := by decide +kernel
theorem dX9_add_25 : decode cX9_add 25 = .ok (.iadd, 1) := by decide +kernel
theorem dX9_add_26 : decode cX9_add 26 = .ok (.putfield 15, 3) := by decide +kernel
theorem dX9_add_29 : decode cX9_add 29 = .ok (.return_, 1) := by decide +kernel
abbrev z_X9_add : List Cond := .code yX9_add cX9_add 2 none :: zW
abbrev wl_X9_add (ad : Nat → Nat) (cs : Nat → ClassId)  (tape_size : Int32) (tape_bytes : Nat → Int32) : va_W := [((ad 23), .inr (9, [.ref (ad 24), .int tape_size])), ((ad 24), .inl (cs 0, 120, .inl tape_bytes))]
def Q_X9_add (D : va_G) (cs : Nat → ClassId) (ad : Nat → Nat)   (A : Nat → Prop) (R : Int32 × (Nat → Int32)) : Array Value → State → Outcome → State → Prop :=
  va_Qv (fun u : Int32 × (Nat → Int32) => u = R) (fun (u : Int32 × (Nat → Int32)) (t : State) => va_P D classes (wl_X9_add ad cs u.1 u.2) t.heap ∧ va_D A (wl_X9_add ad cs u.1 u.2)) A
abbrev rm_X9_add : Room := { frames := 0, cells := 0, slots := 0, locals := 0 }
def B_X9_add_0    (x1 : Int32) (tape_size : Int32) (tape_bytes : Nat → Int32) : Option (Int32 × (Nat → Int32)) :=
  (if (120 : Int32) ≤ tape_size then (some (tape_size, tape_bytes)) else (if (tape_size < 0 ∨ 120 ≤ tape_size.toNatClampNeg) then none else (zk_let (upd tape_bytes tape_size.toNatClampNeg x1) (fun f_3 => (zk_let (tape_size + (1 : Int32)) (fun v_4 => (some (v_4, f_3))))))))
def f_X9_add  (x1 : Int32) (tape_size : Int32) (tape_bytes : Nat → Int32) : Option (Int32 × (Nat → Int32)) := B_X9_add_0   x1 tape_size tape_bytes
set_option maxHeartbeats 4000000 in
set_option maxRecDepth 100000 in
theorem L_X9_add_0 {p : Program} {l : Launch} {e : Env} {s : State} {m : MethodId} {args : Array Value} {below : List Frame} {meth : Method} {c : Code} {A : Nat → Prop} {D : va_G} {cs : Nat → ClassId} {ad : Nat → Nat} {R : Int32 × (Nat → Int32)} (C0 : zC p s m args meth c cX9_add 2 none RX9 zW) (hK : va_K D classes (zT cs) s) (hA : ∀ q : Nat, s.heap.size ≤ q → A q) (x1 : Int32) (tape_size : Int32) (tape_bytes : Nat → Int32) (h : B_X9_add_0 x1 tape_size tape_bytes = some R) (H : Heap) (locs : List Loc) (ls : Array Slot) (hP : va_P D classes (wl_X9_add ad cs tape_size tape_bytes) H) (hD : va_D A (wl_X9_add ad cs tape_size tape_bytes)) (hS : va_S A s.heap H locs) (hl : lv_has ls 2 [(0, .ref (ad 23)), (1, .int x1)]) : W p l e rm_X9_add s m args below meth c H locs 0 0 (MQ below (Q_X9_add D cs ad  A R) args s 0 0 A) (F0 m 0 ls []) := by
  obtain ⟨hx, hb, hr, hml, hown, ht, hlocks⟩ := id C0
  refine lv_aload_n hx hb dX9_add_0 rfl (lv_at hl 0 rfl) ?_
  refine va_get (D := D) (ci := 9) (v := .int tape_size) (C := RX9) (T := TX9) (N := 2) hx hb ht iX9 hown hK hP 0 rfl rfl 1 (by decide) (ht _ kw_237) (fun _ h9 => h9) rfl dX9_add_1 ?_
  refine lv_bipush (v := (120 : Int32)) hx hb dX9_add_4 (by decide) ?_
  refine lv_icmp_ge (tgt := 29) hx hb dX9_add_6 (by decide) (fun c_1 => ?_) (fun c_1 => ?_)
  · have h := zk_t c_1 h
    exact W.vret hx hb hr (fun t ht2 hW => ⟨⟨(tape_size, tape_bytes), rfl, Option.some.inj h, by rw [ht2]; exact hP, hD⟩, hS.F ht2⟩) hS.2.2 dX9_add_29 hlocks
  · have h := zk_f c_1 h
    refine lv_aload_n hx hb dX9_add_9 rfl (lv_at hl 0 rfl) ?_
    refine va_get (D := D) (ci := 9) (v := .ref (ad 24)) (C := RX9) (T := TX9) (N := 2) hx hb ht iX9 hown hK hP 0 rfl rfl 0 (by decide) (ht _ kw_235) (fun _ h9 => h9) rfl dX9_add_10 ?_
    refine lv_aload_n hx hb dX9_add_13 rfl (lv_at hl 0 rfl) ?_
    refine va_get (D := D) (ci := 9) (v := .int tape_size) (C := RX9) (T := TX9) (N := 2) hx hb ht iX9 hown hK hP 0 rfl rfl 1 (by decide) (ht _ kw_237) (fun _ h9 => h9) rfl dX9_add_14 ?_
    refine lv_iload_n hx hb dX9_add_17 rfl (lv_at hl 1 rfl) ?_
    obtain ⟨g_2, h⟩ := zk_gd h
    obtain ⟨f_3, ef_3, h⟩ := zk_lt h
    refine va_iast hx hb hK hP hD hS 1 0 rfl rfl g_2 dX9_add_18 (fun H locs hP hD hS => ?_)
    have hP : va_P D classes (wl_X9_add ad cs tape_size f_3) H := by rw [ef_3]; exact hP
    have hD : va_D A (wl_X9_add ad cs tape_size f_3) := by rw [ef_3]; exact hD
    refine lv_aload_n hx hb dX9_add_19 rfl (lv_at hl 0 rfl) ?_
    refine lv_dup hx hb dX9_add_20 rfl ?_
    refine va_get (D := D) (ci := 9) (v := .int tape_size) (C := RX9) (T := TX9) (N := 2) hx hb ht iX9 hown hK hP 0 rfl rfl 1 (by decide) (ht _ kw_237) (fun _ h9 => h9) rfl dX9_add_21 ?_
    refine lv_iconst (v := (1 : Int32)) hx hb dX9_add_24 (by decide) ?_
    refine lv_iadd hx hb dX9_add_25 ?_
    obtain ⟨v_4, ev_4, h⟩ := zk_lt h
    refine W.eq (g2 := F0 m 26 ls [.int v_4, .ref (ad 23)]) (by rw [ev_4]) ?_
    refine va_put (D := D) (ci := 9) (v := .int v_4) (ty := .int) (C := RX9) (T := TX9) (N := 2) hx hb ht iX9 tyX9 tyX9_ok nmX9 hown hK hP hD hS 0 rfl rfl 1 (by decide) (ht _ kw_237) (fun _ h9 => h9) rfl (by decide +kernel) rfl rfl (Nat.le_of_ble_eq_true rfl) dX9_add_26 (fun H locs hP hD hS => ?_)
    have hP : va_P D classes (wl_X9_add ad cs v_4 f_3) H := hP
    have hD : va_D A (wl_X9_add ad cs v_4 f_3) := hD
    exact W.vret hx hb hr (fun t ht2 hW => ⟨⟨(v_4, f_3), rfl, Option.some.inj h, by rw [ht2]; exact hP, hD⟩, hS.F ht2⟩) hS.2.2 dX9_add_29 hlocks
set_option maxHeartbeats 4000000 in
set_option maxRecDepth 100000 in
theorem c_X9_add (l : Launch) (D : va_G) (cs : Nat → ClassId) (ad : Nat → Nat) (sz : Nat) (x1 : Int32) (tape_size : Int32) (tape_bytes : Nat → Int32) (R : Int32 × (Nat → Int32)) (h : f_X9_add  x1 tape_size tape_bytes = some R) : Met l yX9_add (z_X9_add) rm_X9_add (va_Pc [.ref (ad 23), .int x1] (zPre D cs (wl_X9_add ad cs tape_size tape_bytes) sz)) (Q_X9_add D cs ad  (va_A (wl_X9_add ad cs tape_size tape_bytes) sz) R) 0 0 (va_A (wl_X9_add ad cs tape_size tape_bytes) sz) := by
  refine Met.ofW (cc := cX9_add) (maxL := 2) (ret := none) (by decide) rfl ?_
  intro p e s m args below meth c s₁ B hml hv
  obtain ⟨rfl, hsz, hP, hK, hD0⟩ := hv
  subst hsz
  have hD := hD0.self (sz := s.heap.size)
  have C0 : zC p s m _ meth c cX9_add 2 none RX9 zW := ⟨B.exec, B.bytes, B.returns, hml, findClass_of_methodNamed B.named, fun w hw => atoms_spec (ws := z_X9_add) B.pre w (List.mem_cons_of_mem _ hw), B.notSynchronized⟩
  have hA : ∀ q : Nat, s.heap.size ≤ q → va_A (wl_X9_add ad cs tape_size tape_bytes) s.heap.size q := fun q h => Or.inr h
  have hl := lv_entry ([.ref (ad 23), .int x1]) (n := 2) (Nat.le_of_ble_eq_true rfl)
  rw [lg_entry_eq]
  generalize (lg_sl ([.ref (ad 23), .int x1]) ++ List.replicate (2 - (lg_sl ([.ref (ad 23), .int x1])).length) Slot.unset).toArray = ls at hl ⊢
  exact L_X9_add_0 C0 hK hA   x1 tape_size tape_bytes h s.heap [] ls hP hD va_S.rf hl
theorem kw_274 : Cond.fieldLink RX5 15 "AlreadyJudged$LawReader" "tape" "LAlreadyJudged$Tape;" ∈ zW := zwI (i := 274) (by decide +kernel) (by decide +kernel)
theorem kw_277 : Cond.fieldLink RX5 19 "AlreadyJudged$LawReader" "at" "I" ∈ zW := zwI (i := 277) (by decide +kernel) (by decide +kernel)
theorem kw_278 : Cond.fieldLink RX5 26 "AlreadyJudged$LawReader" "fault" "I" ∈ zW := zwI (i := 278) (by decide +kernel) (by decide +kernel)
theorem kw_553 : Cond.methodLink RX5 68 yX9_byteAt ∈ zW := zwI (i := 553) (by decide +kernel) (by decide +kernel)
theorem dX5_accept_0 : decode cX5_accept 0 = .ok (.aload_n 0, 1) := by decide +kernel
theorem dX5_accept_1 : decode cX5_accept 1 = .ok (.getfield 26, 3) := by decide +kernel
theorem dX5_accept_4 : decode cX5_accept 4 = .ok (.ifCond .ge 18, 3) := by decide +kernel
theorem dX5_accept_7 : decode cX5_accept 7 = .ok (.aload_n 0, 1) := by decide +kernel
theorem dX5_accept_8 : decode cX5_accept 8 = .ok (.getfield 15, 3) := by decide +kernel
theorem dX5_accept_11 : decode cX5_accept 11 = .ok (.aload_n 0, 1) := by decide +kernel
theorem dX5_accept_12 : decode cX5_accept 12 = .ok (.getfield 19, 3) := by decide +kernel
theorem dX5_accept_15 : decode cX5_accept 15 = .ok (.invokevirtual 68, 3) := by decide +kernel
theorem dX5_accept_18 : decode cX5_accept 18 = .ok (.iload_n 1, 1) := by decide +kernel
theorem dX5_accept_19 : decode cX5_accept 19 = .ok (.if_icmp .eq 5, 3) := by decide +kernel
theorem dX5_accept_22 : decode cX5_accept 22 = .ok (.iconst 0, 1) := by decide +kernel
theorem dX5_accept_23 : decode cX5_accept 23 = .ok (.ireturn, 1) := by decide +kernel
theorem dX5_accept_24 : decode cX5_accept 24 = .ok (.aload_n 0, 1) := by decide +kernel
theorem dX5_accept_25 : decode cX5_accept 25 = .ok (.dup, 1) := by decide +kernel
theorem dX5_accept_26 : decode cX5_accept 26 = .ok (.getfield 19, 3) := by decide +kernel
theorem dX5_accept_29 : decode cX5_accept 29 = .ok (.iconst 1, 1) := by decide +kernel
theorem dX5_accept_30 : decode cX5_accept 30 = .ok (.iadd, 1) := by decide +kernel
theorem dX5_accept_31 : decode cX5_accept 31 = .ok (.putfield 19, 3) := by decide +kernel
theorem dX5_accept_34 : decode cX5_accept 34 = .ok (.iconst 1, 1) := by decide +kernel
theorem dX5_accept_35 : decode cX5_accept 35 = .ok (.ireturn, 1) := by decide +kernel
abbrev z_X5_accept : List Cond := .code yX5_accept cX5_accept 2 (some .boolean) :: zW
abbrev wl_X5_accept (ad : Nat → Nat) (cs : Nat → ClassId)  (tape_size : Int32) (tape_bytes : Nat → Int32) (lr_size : Int32) (lr_at : Int32) (lr_fault : Int32) : va_W := [((ad 23), .inr (9, [.ref (ad 24), .int tape_size])), ((ad 24), .inl (cs 0, 120, .inl tape_bytes)), ((ad 26), .inr (5, [.ref (ad 23), .ref (ad 27), .int lr_size, .int lr_at, .int lr_fault]))]
def Q_X5_accept (D : va_G) (cs : Nat → ClassId) (ad : Nat → Nat)  (tape_size : Int32) (tape_bytes : Nat → Int32) (lr_size : Int32) (lr_fault : Int32) (A : Nat → Prop) (R : Int32 × Int32) : Array Value → State → Outcome → State → Prop :=
  va_Qi (fun (r : Int32) (u : Int32) => (r, u) = R) (fun (u : Int32) (t : State) => va_P D classes (wl_X5_accept ad cs tape_size tape_bytes lr_size u lr_fault) t.heap ∧ va_D A (wl_X5_accept ad cs tape_size tape_bytes lr_size u lr_fault)) A
abbrev rm_X5_accept : Room := { frames := 1, cells := 0, slots := 0, locals := 21 }
theorem g_X5_68 : GoodIn zW (wsV RX5 68 RX9 yX9_byteAt z_X9_byteAt) := zGV kw_553 kw_554 kw_555 kw_78 kw_556
def B_X5_accept_0   (tape_size : Int32) (tape_bytes : Nat → Int32) (lr_size : Int32) (lr_fault : Int32) (x1 : Int32) (lr_at : Int32) : Option (Int32 × Int32) :=
  (if 0 ≤ lr_fault then (some ((0 : Int32), lr_at)) else (zk_b2 (f_X9_byteAt lr_at tape_size tape_bytes) (fun r_2 u_3 => (if r_2 = x1 then (zk_let (lr_at + (1 : Int32)) (fun v_6 => (some ((1 : Int32), v_6)))) else (some ((0 : Int32), lr_at))))))
def f_X5_accept  (x1 : Int32) (tape_size : Int32) (tape_bytes : Nat → Int32) (lr_size : Int32) (lr_at : Int32) (lr_fault : Int32) : Option (Int32 × Int32) := B_X5_accept_0  tape_size tape_bytes lr_size lr_fault x1 lr_at
set_option maxHeartbeats 4000000 in
set_option maxRecDepth 100000 in
theorem L_X5_accept_0 {p : Program} {l : Launch} {e : Env} {s : State} {m : MethodId} {args : Array Value} {below : List Frame} {meth : Method} {c : Code} {A : Nat → Prop} {D : va_G} {cs : Nat → ClassId} {ad : Nat → Nat} {tape_size : Int32} {tape_bytes : Nat → Int32} {lr_size : Int32} {lr_fault : Int32} {R : Int32 × Int32} (C0 : zC p s m args meth c cX5_accept 2 (some .boolean) RX5 zW) (hK : va_K D classes (zT cs) s) (hA : ∀ q : Nat, s.heap.size ≤ q → A q) (x1 : Int32) (lr_at : Int32) (h : B_X5_accept_0 tape_size tape_bytes lr_size lr_fault x1 lr_at = some R) (H : Heap) (locs : List Loc) (ls : Array Slot) (hP : va_P D classes (wl_X5_accept ad cs tape_size tape_bytes lr_size lr_at lr_fault) H) (hD : va_D A (wl_X5_accept ad cs tape_size tape_bytes lr_size lr_at lr_fault)) (hS : va_S A s.heap H locs) (hl : lv_has ls 2 [(0, .ref (ad 26)), (1, .int x1)]) : W p l e rm_X5_accept s m args below meth c H locs 0 0 (MQ below (Q_X5_accept D cs ad tape_size tape_bytes lr_size lr_fault A R) args s 0 0 A) (F0 m 0 ls []) := by
  obtain ⟨hx, hb, hr, hml, hown, ht, hlocks⟩ := id C0
  refine lv_aload_n hx hb dX5_accept_0 rfl (lv_at hl 0 rfl) ?_
  refine va_get (D := D) (ci := 5) (v := .int lr_fault) (C := RX5) (T := TX5) (N := 5) hx hb ht iX5 hown hK hP 2 rfl rfl 4 (by decide) (ht _ kw_278) (fun _ h9 => h9) rfl dX5_accept_1 ?_
  refine lv_if_ge (tgt := 22) hx hb dX5_accept_4 (by decide) (fun c_1 => ?_) (fun c_1 => ?_)
  · have h := zk_t c_1 h
    refine lv_iconst (v := (0 : Int32)) hx hb dX5_accept_22 (by decide) ?_
    exact W.zret (ty := .boolean) (v := (0 : Int32)) hx hb hr rfl (fun t ht2 hW => ⟨⟨(0 : Int32), lr_at, rfl, Option.some.inj h, by rw [ht2]; exact hP, hD⟩, hS.F ht2⟩) hS.2.2 dX5_accept_23 hlocks
  · have h := zk_f c_1 h
    refine lv_aload_n hx hb dX5_accept_7 rfl (lv_at hl 0 rfl) ?_
    refine va_get (D := D) (ci := 5) (v := .ref (ad 23)) (C := RX5) (T := TX5) (N := 5) hx hb ht iX5 hown hK hP 2 rfl rfl 0 (by decide) (ht _ kw_274) (fun _ h9 => h9) rfl dX5_accept_8 ?_
    refine lv_aload_n hx hb dX5_accept_11 rfl (lv_at hl 0 rfl) ?_
    refine va_get (D := D) (ci := 5) (v := .int lr_at) (C := RX5) (T := TX5) (N := 5) hx hb ht iX5 hown hK hP 2 rfl rfl 3 (by decide) (ht _ kw_277) (fun _ h9 => h9) rfl dX5_accept_12 ?_
    obtain ⟨r_2, u_3, hc_4, h⟩ := zk_o2 h
    refine zk_vi (post := (fun r u => (r, u) = (r_2, u_3))) (w1 := fun u => (wl_X9_byteAt ad cs tape_size tape_bytes)) (As := [.int lr_at]) (rest := []) (c_X9_byteAt l D cs ad  H.size lr_at tape_size tape_bytes _ hc_4) ⟨hx, hb, hml, hown, ht⟩ (cwV 1 ht g_X5_68 rfl rfl rfl (by decide +kernel) ⟨Nat.le_of_ble_eq_true rfl, Nat.le_of_ble_eq_true rfl⟩) (va_recv hK hP (ci := 9) (q0 := 0) rfl rfl) hP hD hS hK hA [0, 1] [2] rfl rfl rfl rfl (by decide) rfl hl.1 (Nat.le_of_ble_eq_true rfl) dX5_accept_15 ⟨Nat.zero_le _, Nat.zero_le _⟩ (fun r u H locs hq hP hD hS => ?_)
    cases hq
    have hP : va_P D classes (wl_X5_accept ad cs tape_size tape_bytes lr_size lr_at lr_fault) H := hP.sub [1, 2, 0] rfl
    have hD : va_D A (wl_X5_accept ad cs tape_size tape_bytes lr_size lr_at lr_fault) := hD.sub [1, 2, 0] rfl rfl
    refine lv_iload_n hx hb dX5_accept_18 rfl (lv_at hl 1 rfl) ?_
    refine lv_icmp_eq (tgt := 24) hx hb dX5_accept_19 (by decide) (fun c_5 => ?_) (fun c_5 => ?_)
    · have h := zk_t c_5 h
      refine lv_aload_n hx hb dX5_accept_24 rfl (lv_at hl 0 rfl) ?_
      refine lv_dup hx hb dX5_accept_25 rfl ?_
      refine va_get (D := D) (ci := 5) (v := .int lr_at) (C := RX5) (T := TX5) (N := 5) hx hb ht iX5 hown hK hP 2 rfl rfl 3 (by decide) (ht _ kw_277) (fun _ h9 => h9) rfl dX5_accept_26 ?_
      refine lv_iconst (v := (1 : Int32)) hx hb dX5_accept_29 (by decide) ?_
      refine lv_iadd hx hb dX5_accept_30 ?_
      obtain ⟨v_6, ev_6, h⟩ := zk_lt h
      refine W.eq (g2 := F0 m 31 ls [.int v_6, .ref (ad 26)]) (by rw [ev_6]) ?_
      refine va_put (D := D) (ci := 5) (v := .int v_6) (ty := .int) (C := RX5) (T := TX5) (N := 5) hx hb ht iX5 tyX5 tyX5_ok nmX5 hown hK hP hD hS 2 rfl rfl 3 (by decide) (ht _ kw_277) (fun _ h9 => h9) rfl (by decide +kernel) rfl rfl (Nat.le_of_ble_eq_true rfl) dX5_accept_31 (fun H locs hP hD hS => ?_)
      have hP : va_P D classes (wl_X5_accept ad cs tape_size tape_bytes lr_size v_6 lr_fault) H := hP
      have hD : va_D A (wl_X5_accept ad cs tape_size tape_bytes lr_size v_6 lr_fault) := hD
      refine lv_iconst (v := (1 : Int32)) hx hb dX5_accept_34 (by decide) ?_
      exact W.zret (ty := .boolean) (v := (1 : Int32)) hx hb hr rfl (fun t ht2 hW => ⟨⟨(1 : Int32), v_6, rfl, Option.some.inj h, by rw [ht2]; exact hP, hD⟩, hS.F ht2⟩) hS.2.2 dX5_accept_35 hlocks
    · have h := zk_f c_5 h
      refine lv_iconst (v := (0 : Int32)) hx hb dX5_accept_22 (by decide) ?_
      exact W.zret (ty := .boolean) (v := (0 : Int32)) hx hb hr rfl (fun t ht2 hW => ⟨⟨(0 : Int32), lr_at, rfl, Option.some.inj h, by rw [ht2]; exact hP, hD⟩, hS.F ht2⟩) hS.2.2 dX5_accept_23 hlocks
set_option maxHeartbeats 4000000 in
set_option maxRecDepth 100000 in
theorem c_X5_accept (l : Launch) (D : va_G) (cs : Nat → ClassId) (ad : Nat → Nat) (sz : Nat) (x1 : Int32) (tape_size : Int32) (tape_bytes : Nat → Int32) (lr_size : Int32) (lr_at : Int32) (lr_fault : Int32) (R : Int32 × Int32) (h : f_X5_accept  x1 tape_size tape_bytes lr_size lr_at lr_fault = some R) : Met l yX5_accept (z_X5_accept) rm_X5_accept (va_Pc [.ref (ad 26), .int x1] (zPre D cs (wl_X5_accept ad cs tape_size tape_bytes lr_size lr_at lr_fault) sz)) (Q_X5_accept D cs ad tape_size tape_bytes lr_size lr_fault (va_A (wl_X5_accept ad cs tape_size tape_bytes lr_size lr_at lr_fault) sz) R) 0 0 (va_A (wl_X5_accept ad cs tape_size tape_bytes lr_size lr_at lr_fault) sz) := by
  refine Met.ofW (cc := cX5_accept) (maxL := 2) (ret := (some .boolean)) (by decide) rfl ?_
  intro p e s m args below meth c s₁ B hml hv
  obtain ⟨rfl, hsz, hP, hK, hD0⟩ := hv
  subst hsz
  have hD := hD0.self (sz := s.heap.size)
  have C0 : zC p s m _ meth c cX5_accept 2 (some .boolean) RX5 zW := ⟨B.exec, B.bytes, B.returns, hml, findClass_of_methodNamed B.named, fun w hw => atoms_spec (ws := z_X5_accept) B.pre w (List.mem_cons_of_mem _ hw), B.notSynchronized⟩
  have hA : ∀ q : Nat, s.heap.size ≤ q → va_A (wl_X5_accept ad cs tape_size tape_bytes lr_size lr_at lr_fault) s.heap.size q := fun q h => Or.inr h
  have hl := lv_entry ([.ref (ad 26), .int x1]) (n := 2) (Nat.le_of_ble_eq_true rfl)
  rw [lg_entry_eq]
  generalize (lg_sl ([.ref (ad 26), .int x1]) ++ List.replicate (2 - (lg_sl ([.ref (ad 26), .int x1])).length) Slot.unset).toArray = ls at hl ⊢
  exact L_X5_accept_0 C0 hK hA   x1 lr_at h s.heap [] ls hP hD va_S.rf hl
theorem dX5_fail_0 : decode cX5_fail 0 = .ok (.aload_n 0, 1) := by decide +kernel
theorem dX5_fail_1 : decode cX5_fail 1 = .ok (.getfield 26, 3) := by decide +kernel
theorem dX5_fail_4 : decode cX5_fail 4 = .ok (.ifCond .ge 11, 3) := by decide +kernel
theorem dX5_fail_7 : decode cX5_fail 7 = .ok (.aload_n 0, 1) := by decide +kernel
theorem dX5_fail_8 : decode cX5_fail 8 = .ok (.aload_n 0, 1) := by decide +kernel
theorem dX5_fail_9 : decode cX5_fail 9 = .ok (.getfield 19, 3) := by decide +kernel
theorem dX5_fail_12 : decode cX5_fail 12 = .ok (.putfield 26, 3) := by decide +kernel
theorem dX5_fail_15 : decode cX5_fail 15 = .ok (.return_, 1) := by decide +kernel
abbrev z_X5_fail : List Cond := .code yX5_fail cX5_fail 1 none :: zW
abbrev wl_X5_fail (ad : Nat → Nat) (cs : Nat → ClassId)  (lr_size : Int32) (lr_at : Int32) (lr_fault : Int32) : va_W := [((ad 26), .inr (5, [.ref (ad 23), .ref (ad 27), .int lr_size, .int lr_at, .int lr_fault]))]
def Q_X5_fail (D : va_G) (cs : Nat → ClassId) (ad : Nat → Nat)  (lr_size : Int32) (lr_at : Int32) (A : Nat → Prop) (R : Int32) : Array Value → State → Outcome → State → Prop :=
  va_Qv (fun u : Int32 => u = R) (fun (u : Int32) (t : State) => va_P D classes (wl_X5_fail ad cs lr_size lr_at u) t.heap ∧ va_D A (wl_X5_fail ad cs lr_size lr_at u)) A
abbrev rm_X5_fail : Room := { frames := 0, cells := 0, slots := 0, locals := 0 }
def B_X5_fail_0   (lr_size : Int32) (lr_at : Int32) (lr_fault : Int32) : Option (Int32) :=
  (if 0 ≤ lr_fault then (some lr_fault) else (some lr_at))
def f_X5_fail   (lr_size : Int32) (lr_at : Int32) (lr_fault : Int32) : Option (Int32) := B_X5_fail_0  lr_size lr_at  lr_fault
set_option maxHeartbeats 4000000 in
set_option maxRecDepth 100000 in
theorem L_X5_fail_0 {p : Program} {l : Launch} {e : Env} {s : State} {m : MethodId} {args : Array Value} {below : List Frame} {meth : Method} {c : Code} {A : Nat → Prop} {D : va_G} {cs : Nat → ClassId} {ad : Nat → Nat} {lr_size : Int32} {lr_at : Int32} {R : Int32} (C0 : zC p s m args meth c cX5_fail 1 none RX5 zW) (hK : va_K D classes (zT cs) s) (hA : ∀ q : Nat, s.heap.size ≤ q → A q) (lr_fault : Int32) (h : B_X5_fail_0 lr_size lr_at lr_fault = some R) (H : Heap) (locs : List Loc) (ls : Array Slot) (hP : va_P D classes (wl_X5_fail ad cs lr_size lr_at lr_fault) H) (hD : va_D A (wl_X5_fail ad cs lr_size lr_at lr_fault)) (hS : va_S A s.heap H locs) (hl : lv_has ls 1 [(0, .ref (ad 26))]) : W p l e rm_X5_fail s m args below meth c H locs 0 0 (MQ below (Q_X5_fail D cs ad lr_size lr_at A R) args s 0 0 A) (F0 m 0 ls []) := by
  obtain ⟨hx, hb, hr, hml, hown, ht, hlocks⟩ := id C0
  refine lv_aload_n hx hb dX5_fail_0 rfl (lv_at hl 0 rfl) ?_
  refine va_get (D := D) (ci := 5) (v := .int lr_fault) (C := RX5) (T := TX5) (N := 5) hx hb ht iX5 hown hK hP 0 rfl rfl 4 (by decide) (ht _ kw_278) (fun _ h9 => h9) rfl dX5_fail_1 ?_
  refine lv_if_ge (tgt := 15) hx hb dX5_fail_4 (by decide) (fun c_1 => ?_) (fun c_1 => ?_)
  · have h := zk_t c_1 h
    exact W.vret hx hb hr (fun t ht2 hW => ⟨⟨lr_fault, rfl, Option.some.inj h, by rw [ht2]; exact hP, hD⟩, hS.F ht2⟩) hS.2.2 dX5_fail_15 hlocks
  · have h := zk_f c_1 h
    refine lv_aload_n hx hb dX5_fail_7 rfl (lv_at hl 0 rfl) ?_
    refine lv_aload_n hx hb dX5_fail_8 rfl (lv_at hl 0 rfl) ?_
    refine va_get (D := D) (ci := 5) (v := .int lr_at) (C := RX5) (T := TX5) (N := 5) hx hb ht iX5 hown hK hP 0 rfl rfl 3 (by decide) (ht _ kw_277) (fun _ h9 => h9) rfl dX5_fail_9 ?_
    refine va_put (D := D) (ci := 5) (v := .int lr_at) (ty := .int) (C := RX5) (T := TX5) (N := 5) hx hb ht iX5 tyX5 tyX5_ok nmX5 hown hK hP hD hS 0 rfl rfl 4 (by decide) (ht _ kw_278) (fun _ h9 => h9) rfl (by decide +kernel) rfl rfl (Nat.le_of_ble_eq_true rfl) dX5_fail_12 (fun H locs hP hD hS => ?_)
    have hP : va_P D classes (wl_X5_fail ad cs lr_size lr_at lr_at) H := hP
    have hD : va_D A (wl_X5_fail ad cs lr_size lr_at lr_at) := hD
    exact W.vret hx hb hr (fun t ht2 hW => ⟨⟨lr_at, rfl, Option.some.inj h, by rw [ht2]; exact hP, hD⟩, hS.F ht2⟩) hS.2.2 dX5_fail_15 hlocks
set_option maxHeartbeats 4000000 in
set_option maxRecDepth 100000 in
theorem c_X5_fail (l : Launch) (D : va_G) (cs : Nat → ClassId) (ad : Nat → Nat) (sz : Nat)  (lr_size : Int32) (lr_at : Int32) (lr_fault : Int32) (R : Int32) (h : f_X5_fail   lr_size lr_at lr_fault = some R) : Met l yX5_fail (z_X5_fail) rm_X5_fail (va_Pc [.ref (ad 26)] (zPre D cs (wl_X5_fail ad cs lr_size lr_at lr_fault) sz)) (Q_X5_fail D cs ad lr_size lr_at (va_A (wl_X5_fail ad cs lr_size lr_at lr_fault) sz) R) 0 0 (va_A (wl_X5_fail ad cs lr_size lr_at lr_fault) sz) := by
  refine Met.ofW (cc := cX5_fail) (maxL := 1) (ret := none) (by decide) rfl ?_
  intro p e s m args below meth c s₁ B hml hv
  obtain ⟨rfl, hsz, hP, hK, hD0⟩ := hv
  subst hsz
  have hD := hD0.self (sz := s.heap.size)
  have C0 : zC p s m _ meth c cX5_fail 1 none RX5 zW := ⟨B.exec, B.bytes, B.returns, hml, findClass_of_methodNamed B.named, fun w hw => atoms_spec (ws := z_X5_fail) B.pre w (List.mem_cons_of_mem _ hw), B.notSynchronized⟩
  have hA : ∀ q : Nat, s.heap.size ≤ q → va_A (wl_X5_fail ad cs lr_size lr_at lr_fault) s.heap.size q := fun q h => Or.inr h
  have hl := lv_entry ([.ref (ad 26)]) (n := 1) (Nat.le_of_ble_eq_true rfl)
  rw [lg_entry_eq]
  generalize (lg_sl ([.ref (ad 26)]) ++ List.replicate (1 - (lg_sl ([.ref (ad 26)])).length) Slot.unset).toArray = ls at hl ⊢
  exact L_X5_fail_0 C0 hK hA    lr_fault h s.heap [] ls hP hD va_S.rf hl
theorem kw_275 : Cond.fieldLink RX5 9 "AlreadyJudged$LawReader" "code" "[I" ∈ zW := zwI (i := 275) (by decide +kernel) (by decide +kernel)
theorem kw_276 : Cond.fieldLink RX5 23 "AlreadyJudged$LawReader" "size" "I" ∈ zW := zwI (i := 276) (by decide +kernel) (by decide +kernel)
theorem dX5_emit_0 : decode cX5_emit 0 = .ok (.aload_n 0, 1) := by decide +kernel
theorem dX5_emit_1 : decode cX5_emit 1 = .ok (.getfield 26, 3) := by decide +kernel
theorem dX5_emit_4 : decode cX5_emit 4 = .ok (.ifCond .ge 35, 3) := by decide +kernel
theorem dX5_emit_7 : decode cX5_emit 7 = .ok (.aload_n 0, 1) := by decide +kernel
theorem dX5_emit_8 : decode cX5_emit 8 = .ok (.getfield 23, 3) := by decide +kernel
theorem dX5_emit_11 : decode cX5_emit 11 = .ok (.aload_n 0, 1) := by decide +kernel
theorem dX5_emit_12 : decode cX5_emit 12 = .ok (.getfield 9, 3) := by decide +kernel
theorem dX5_emit_15 : decode cX5_emit 15 = .ok (.arraylength, 1) := by decide +kernel
theorem dX5_emit_16 : decode cX5_emit 16 = .ok (.if_icmp .ge 23, 3) := by decide +kernel
theorem dX5_emit_19 : decode cX5_emit 19 = .ok (.aload_n 0, 1) := by decide +kernel
theorem dX5_emit_20 : decode cX5_emit 20 = .ok (.getfield 9, 3) := by decide +kernel
theorem dX5_emit_23 : decode cX5_emit 23 = .ok (.aload_n 0, 1) := by decide +kernel
theorem dX5_emit_24 : decode cX5_emit 24 = .ok (.getfield 23, 3) := by decide +kernel
theorem dX5_emit_27 : decode cX5_emit 27 = .ok (.iload_n 1, 1) := by decide +kernel
theorem dX5_emit_28 : decode cX5_emit 28 = .ok (.iastore, 1) := by decide +kernel
theorem dX5_emit_29 : decode cX5_emit 29 = .ok (.aload_n 0, 1) := by decide +kernel
theorem dX5_emit_30 : decode cX5_emit 30 = .ok (.dup, 1) := by decide +kernel
theorem dX5_emit_31 : decode cX5_emit 31 = .ok (.getfield 23, 3) := by decide +kernel
theorem dX5_emit_34 : decode cX5_emit 34 = .ok (.iconst 1, 1) := by decide +kernel
theorem dX5_emit_35 : decode cX5_emit 35 = .ok (.iadd, 1) := by decide +kernel
theorem dX5_emit_36 : decode cX5_emit 36 = .ok (.putfield 23, 3) := by decide +kernel
theorem dX5_emit_39 : decode cX5_emit 39 = .ok (.return_, 1) := by decide +kernel
abbrev z_X5_emit : List Cond := .code yX5_emit cX5_emit 2 none :: zW
abbrev wl_X5_emit (ad : Nat → Nat) (cs : Nat → ClassId)  (lr_size : Int32) (lr_at : Int32) (lr_fault : Int32) (lr_code : Nat → Int32) : va_W := [((ad 26), .inr (5, [.ref (ad 23), .ref (ad 27), .int lr_size, .int lr_at, .int lr_fault])), ((ad 27), .inl (cs 0, 121, .inl lr_code))]
def Q_X5_emit (D : va_G) (cs : Nat → ClassId) (ad : Nat → Nat)  (lr_at : Int32) (lr_fault : Int32) (A : Nat → Prop) (R : Int32 × (Nat → Int32)) : Array Value → State → Outcome → State → Prop :=
  va_Qv (fun u : Int32 × (Nat → Int32) => u = R) (fun (u : Int32 × (Nat → Int32)) (t : State) => va_P D classes (wl_X5_emit ad cs u.1 lr_at lr_fault u.2) t.heap ∧ va_D A (wl_X5_emit ad cs u.1 lr_at lr_fault u.2)) A
abbrev rm_X5_emit : Room := { frames := 0, cells := 0, slots := 0, locals := 0 }
def B_X5_emit_0   (lr_at : Int32) (lr_fault : Int32) (x1 : Int32) (lr_size : Int32) (lr_code : Nat → Int32) : Option (Int32 × (Nat → Int32)) :=
  (if 0 ≤ lr_fault then (some (lr_size, lr_code)) else (if (121 : Int32) ≤ lr_size then (some (lr_size, lr_code)) else (if (lr_size < 0 ∨ 121 ≤ lr_size.toNatClampNeg) then none else (zk_let (upd lr_code lr_size.toNatClampNeg x1) (fun f_4 => (zk_let (lr_size + (1 : Int32)) (fun v_5 => (some (v_5, f_4)))))))))
def f_X5_emit  (x1 : Int32) (lr_size : Int32) (lr_at : Int32) (lr_fault : Int32) (lr_code : Nat → Int32) : Option (Int32 × (Nat → Int32)) := B_X5_emit_0  lr_at lr_fault x1 lr_size lr_code
set_option maxHeartbeats 4000000 in
set_option maxRecDepth 100000 in
theorem L_X5_emit_0 {p : Program} {l : Launch} {e : Env} {s : State} {m : MethodId} {args : Array Value} {below : List Frame} {meth : Method} {c : Code} {A : Nat → Prop} {D : va_G} {cs : Nat → ClassId} {ad : Nat → Nat} {lr_at : Int32} {lr_fault : Int32} {R : Int32 × (Nat → Int32)} (C0 : zC p s m args meth c cX5_emit 2 none RX5 zW) (hK : va_K D classes (zT cs) s) (hA : ∀ q : Nat, s.heap.size ≤ q → A q) (x1 : Int32) (lr_size : Int32) (lr_code : Nat → Int32) (h : B_X5_emit_0 lr_at lr_fault x1 lr_size lr_code = some R) (H : Heap) (locs : List Loc) (ls : Array Slot) (hP : va_P D classes (wl_X5_emit ad cs lr_size lr_at lr_fault lr_code) H) (hD : va_D A (wl_X5_emit ad cs lr_size lr_at lr_fault lr_code)) (hS : va_S A s.heap H locs) (hl : lv_has ls 2 [(0, .ref (ad 26)), (1, .int x1)]) : W p l e rm_X5_emit s m args below meth c H locs 0 0 (MQ below (Q_X5_emit D cs ad lr_at lr_fault A R) args s 0 0 A) (F0 m 0 ls []) := by
  obtain ⟨hx, hb, hr, hml, hown, ht, hlocks⟩ := id C0
  refine lv_aload_n hx hb dX5_emit_0 rfl (lv_at hl 0 rfl) ?_
  refine va_get (D := D) (ci := 5) (v := .int lr_fault) (C := RX5) (T := TX5) (N := 5) hx hb ht iX5 hown hK hP 0 rfl rfl 4 (by decide) (ht _ kw_278) (fun _ h9 => h9) rfl dX5_emit_1 ?_
  refine lv_if_ge (tgt := 39) hx hb dX5_emit_4 (by decide) (fun c_1 => ?_) (fun c_1 => ?_)
  · have h := zk_t c_1 h
    exact W.vret hx hb hr (fun t ht2 hW => ⟨⟨(lr_size, lr_code), rfl, Option.some.inj h, by rw [ht2]; exact hP, hD⟩, hS.F ht2⟩) hS.2.2 dX5_emit_39 hlocks
  · have h := zk_f c_1 h
    refine lv_aload_n hx hb dX5_emit_7 rfl (lv_at hl 0 rfl) ?_
    refine va_get (D := D) (ci := 5) (v := .int lr_size) (C := RX5) (T := TX5) (N := 5) hx hb ht iX5 hown hK hP 0 rfl rfl 2 (by decide) (ht _ kw_276) (fun _ h9 => h9) rfl dX5_emit_8 ?_
    refine lv_aload_n hx hb dX5_emit_11 rfl (lv_at hl 0 rfl) ?_
    refine va_get (D := D) (ci := 5) (v := .ref (ad 27)) (C := RX5) (T := TX5) (N := 5) hx hb ht iX5 hown hK hP 0 rfl rfl 1 (by decide) (ht _ kw_275) (fun _ h9 => h9) rfl dX5_emit_12 ?_
    refine va_alen (v := (121 : Int32)) hx hb hK hP 1 0 rfl rfl rfl dX5_emit_15 ?_
    refine lv_icmp_ge (tgt := 39) hx hb dX5_emit_16 (by decide) (fun c_2 => ?_) (fun c_2 => ?_)
    · have h := zk_t c_2 h
      exact W.vret hx hb hr (fun t ht2 hW => ⟨⟨(lr_size, lr_code), rfl, Option.some.inj h, by rw [ht2]; exact hP, hD⟩, hS.F ht2⟩) hS.2.2 dX5_emit_39 hlocks
    · have h := zk_f c_2 h
      refine lv_aload_n hx hb dX5_emit_19 rfl (lv_at hl 0 rfl) ?_
      refine va_get (D := D) (ci := 5) (v := .ref (ad 27)) (C := RX5) (T := TX5) (N := 5) hx hb ht iX5 hown hK hP 0 rfl rfl 1 (by decide) (ht _ kw_275) (fun _ h9 => h9) rfl dX5_emit_20 ?_
      refine lv_aload_n hx hb dX5_emit_23 rfl (lv_at hl 0 rfl) ?_
      refine va_get (D := D) (ci := 5) (v := .int lr_size) (C := RX5) (T := TX5) (N := 5) hx hb ht iX5 hown hK hP 0 rfl rfl 2 (by decide) (ht _ kw_276) (fun _ h9 => h9) rfl dX5_emit_24 ?_
      refine lv_iload_n hx hb dX5_emit_27 rfl (lv_at hl 1 rfl) ?_
      obtain ⟨g_3, h⟩ := zk_gd h
      obtain ⟨f_4, ef_4, h⟩ := zk_lt h
      refine va_iast hx hb hK hP hD hS 1 0 rfl rfl g_3 dX5_emit_28 (fun H locs hP hD hS => ?_)
      have hP : va_P D classes (wl_X5_emit ad cs lr_size lr_at lr_fault f_4) H := by rw [ef_4]; exact hP
      have hD : va_D A (wl_X5_emit ad cs lr_size lr_at lr_fault f_4) := by rw [ef_4]; exact hD
      refine lv_aload_n hx hb dX5_emit_29 rfl (lv_at hl 0 rfl) ?_
      refine lv_dup hx hb dX5_emit_30 rfl ?_
      refine va_get (D := D) (ci := 5) (v := .int lr_size) (C := RX5) (T := TX5) (N := 5) hx hb ht iX5 hown hK hP 0 rfl rfl 2 (by decide) (ht _ kw_276) (fun _ h9 => h9) rfl dX5_emit_31 ?_
      refine lv_iconst (v := (1 : Int32)) hx hb dX5_emit_34 (by decide) ?_
      refine lv_iadd hx hb dX5_emit_35 ?_
      obtain ⟨v_5, ev_5, h⟩ := zk_lt h
      refine W.eq (g2 := F0 m 36 ls [.int v_5, .ref (ad 26)]) (by rw [ev_5]) ?_
      refine va_put (D := D) (ci := 5) (v := .int v_5) (ty := .int) (C := RX5) (T := TX5) (N := 5) hx hb ht iX5 tyX5 tyX5_ok nmX5 hown hK hP hD hS 0 rfl rfl 2 (by decide) (ht _ kw_276) (fun _ h9 => h9) rfl (by decide +kernel) rfl rfl (Nat.le_of_ble_eq_true rfl) dX5_emit_36 (fun H locs hP hD hS => ?_)
      have hP : va_P D classes (wl_X5_emit ad cs v_5 lr_at lr_fault f_4) H := hP
      have hD : va_D A (wl_X5_emit ad cs v_5 lr_at lr_fault f_4) := hD
      exact W.vret hx hb hr (fun t ht2 hW => ⟨⟨(v_5, f_4), rfl, Option.some.inj h, by rw [ht2]; exact hP, hD⟩, hS.F ht2⟩) hS.2.2 dX5_emit_39 hlocks
set_option maxHeartbeats 4000000 in
set_option maxRecDepth 100000 in
theorem c_X5_emit (l : Launch) (D : va_G) (cs : Nat → ClassId) (ad : Nat → Nat) (sz : Nat) (x1 : Int32) (lr_size : Int32) (lr_at : Int32) (lr_fault : Int32) (lr_code : Nat → Int32) (R : Int32 × (Nat → Int32)) (h : f_X5_emit  x1 lr_size lr_at lr_fault lr_code = some R) : Met l yX5_emit (z_X5_emit) rm_X5_emit (va_Pc [.ref (ad 26), .int x1] (zPre D cs (wl_X5_emit ad cs lr_size lr_at lr_fault lr_code) sz)) (Q_X5_emit D cs ad lr_at lr_fault (va_A (wl_X5_emit ad cs lr_size lr_at lr_fault lr_code) sz) R) 0 0 (va_A (wl_X5_emit ad cs lr_size lr_at lr_fault lr_code) sz) := by
  refine Met.ofW (cc := cX5_emit) (maxL := 2) (ret := none) (by decide) rfl ?_
  intro p e s m args below meth c s₁ B hml hv
  obtain ⟨rfl, hsz, hP, hK, hD0⟩ := hv
  subst hsz
  have hD := hD0.self (sz := s.heap.size)
  have C0 : zC p s m _ meth c cX5_emit 2 none RX5 zW := ⟨B.exec, B.bytes, B.returns, hml, findClass_of_methodNamed B.named, fun w hw => atoms_spec (ws := z_X5_emit) B.pre w (List.mem_cons_of_mem _ hw), B.notSynchronized⟩
  have hA : ∀ q : Nat, s.heap.size ≤ q → va_A (wl_X5_emit ad cs lr_size lr_at lr_fault lr_code) s.heap.size q := fun q h => Or.inr h
  have hl := lv_entry ([.ref (ad 26), .int x1]) (n := 2) (Nat.le_of_ble_eq_true rfl)
  rw [lg_entry_eq]
  generalize (lg_sl ([.ref (ad 26), .int x1]) ++ List.replicate (2 - (lg_sl ([.ref (ad 26), .int x1])).length) Slot.unset).toArray = ls at hl ⊢
  exact L_X5_emit_0 C0 hK hA   x1 lr_size lr_code h s.heap [] ls hP hD va_S.rf hl
theorem kw_80 : Cond.initialized RX5 ∈ zW := zwI (i := 80) (by decide +kernel) (by decide +kernel)
theorem kw_574 : Cond.methodLink RX5 39 yX5_fail ∈ zW := zwI (i := 574) (by decide +kernel) (by decide +kernel)
theorem kw_575 : Cond.instanceMethod yX5_fail ∈ zW := zwI (i := 575) (by decide +kernel) (by decide +kernel)
theorem kw_576 : Cond.selects RX5 yX5_fail yX5_fail ∈ zW := zwI (i := 576) (by decide +kernel) (by decide +kernel)
theorem kw_577 : Cond.code yX5_fail cX5_fail 1 none ∈ zW := zwI (i := 577) (by decide +kernel) (by decide +kernel)
theorem dX5_mayOpen_0 : decode cX5_mayOpen 0 = .ok (.iload_n 1, 1) := by decide +kernel
theorem dX5_mayOpen_1 : decode cX5_mayOpen 1 = .ok (.bipush 6, 2) := by decide +kernel
theorem dX5_mayOpen_3 : decode cX5_mayOpen 3 = .ok (.if_icmp .lt 9, 3) := by decide +kernel
theorem dX5_mayOpen_6 : decode cX5_mayOpen 6 = .ok (.aload_n 0, 1) := by decide +kernel
theorem dX5_mayOpen_7 : decode cX5_mayOpen 7 = .ok (.invokevirtual 39, 3) := by decide +kernel
theorem dX5_mayOpen_10 : decode cX5_mayOpen 10 = .ok (.iconst 0, 1) := by decide +kernel
theorem dX5_mayOpen_11 : decode cX5_mayOpen 11 = .ok (.ireturn, 1) := by decide +kernel
theorem dX5_mayOpen_12 : decode cX5_mayOpen 12 = .ok (.aload_n 0, 1) := by decide +kernel
theorem dX5_mayOpen_13 : decode cX5_mayOpen 13 = .ok (.dup, 1) := by decide +kernel
theorem dX5_mayOpen_14 : decode cX5_mayOpen 14 = .ok (.getfield 19, 3) := by decide +kernel
theorem dX5_mayOpen_17 : decode cX5_mayOpen 17 = .ok (.iconst 1, 1) := by decide +kernel
theorem dX5_mayOpen_18 : decode cX5_mayOpen 18 = .ok (.iadd, 1) := by decide +kernel
theorem dX5_mayOpen_19 : decode cX5_mayOpen 19 = .ok (.putfield 19, 3) := by decide +kernel
theorem dX5_mayOpen_22 : decode cX5_mayOpen 22 = .ok (.iconst 1, 1) := by decide +kernel
theorem dX5_mayOpen_23 : decode cX5_mayOpen 23 = .ok (.ireturn, 1) := by decide +kernel
abbrev z_X5_mayOpen : List Cond := .code yX5_mayOpen cX5_mayOpen 2 (some .boolean) :: zW
abbrev wl_X5_mayOpen (ad : Nat → Nat) (cs : Nat → ClassId)  (lr_size : Int32) (lr_at : Int32) (lr_fault : Int32) : va_W := [((ad 26), .inr (5, [.ref (ad 23), .ref (ad 27), .int lr_size, .int lr_at, .int lr_fault]))]
def Q_X5_mayOpen (D : va_G) (cs : Nat → ClassId) (ad : Nat → Nat)  (lr_size : Int32) (A : Nat → Prop) (R : Int32 × Int32 × Int32) : Array Value → State → Outcome → State → Prop :=
  va_Qi (fun (r : Int32) (u : Int32 × Int32) => (r, u) = R) (fun (u : Int32 × Int32) (t : State) => va_P D classes (wl_X5_mayOpen ad cs lr_size u.1 u.2) t.heap ∧ va_D A (wl_X5_mayOpen ad cs lr_size u.1 u.2)) A
abbrev rm_X5_mayOpen : Room := { frames := 1, cells := 0, slots := 0, locals := 20 }
theorem g_X5_39 : GoodIn zW (wsV RX5 39 RX5 yX5_fail z_X5_fail) := zGV kw_574 kw_575 kw_576 kw_80 kw_577
def B_X5_mayOpen_0   (lr_size : Int32) (x1 : Int32) (lr_at : Int32) (lr_fault : Int32) : Option (Int32 × Int32 × Int32) :=
  (if x1 < (6 : Int32) then (zk_let (lr_at + (1 : Int32)) (fun v_2 => (some ((1 : Int32), v_2, lr_fault)))) else (zk_b1 (f_X5_fail lr_size lr_at lr_fault) (fun u_3 => (some ((0 : Int32), lr_at, u_3)))))
def f_X5_mayOpen  (x1 : Int32) (lr_size : Int32) (lr_at : Int32) (lr_fault : Int32) : Option (Int32 × Int32 × Int32) := B_X5_mayOpen_0  lr_size x1 lr_at lr_fault
set_option maxHeartbeats 4000000 in
set_option maxRecDepth 100000 in
theorem L_X5_mayOpen_0 {p : Program} {l : Launch} {e : Env} {s : State} {m : MethodId} {args : Array Value} {below : List Frame} {meth : Method} {c : Code} {A : Nat → Prop} {D : va_G} {cs : Nat → ClassId} {ad : Nat → Nat} {lr_size : Int32} {R : Int32 × Int32 × Int32} (C0 : zC p s m args meth c cX5_mayOpen 2 (some .boolean) RX5 zW) (hK : va_K D classes (zT cs) s) (hA : ∀ q : Nat, s.heap.size ≤ q → A q) (x1 : Int32) (lr_at : Int32) (lr_fault : Int32) (h : B_X5_mayOpen_0 lr_size x1 lr_at lr_fault = some R) (H : Heap) (locs : List Loc) (ls : Array Slot) (hP : va_P D classes (wl_X5_mayOpen ad cs lr_size lr_at lr_fault) H) (hD : va_D A (wl_X5_mayOpen ad cs lr_size lr_at lr_fault)) (hS : va_S A s.heap H locs) (hl : lv_has ls 2 [(0, .ref (ad 26)), (1, .int x1)]) : W p l e rm_X5_mayOpen s m args below meth c H locs 0 0 (MQ below (Q_X5_mayOpen D cs ad lr_size A R) args s 0 0 A) (F0 m 0 ls []) := by
  obtain ⟨hx, hb, hr, hml, hown, ht, hlocks⟩ := id C0
  refine lv_iload_n hx hb dX5_mayOpen_0 rfl (lv_at hl 1 rfl) ?_
  refine lv_bipush (v := (6 : Int32)) hx hb dX5_mayOpen_1 (by decide) ?_
  refine lv_icmp_lt (tgt := 12) hx hb dX5_mayOpen_3 (by decide) (fun c_1 => ?_) (fun c_1 => ?_)
  · have h := zk_t c_1 h
    refine lv_aload_n hx hb dX5_mayOpen_12 rfl (lv_at hl 0 rfl) ?_
    refine lv_dup hx hb dX5_mayOpen_13 rfl ?_
    refine va_get (D := D) (ci := 5) (v := .int lr_at) (C := RX5) (T := TX5) (N := 5) hx hb ht iX5 hown hK hP 0 rfl rfl 3 (by decide) (ht _ kw_277) (fun _ h9 => h9) rfl dX5_mayOpen_14 ?_
    refine lv_iconst (v := (1 : Int32)) hx hb dX5_mayOpen_17 (by decide) ?_
    refine lv_iadd hx hb dX5_mayOpen_18 ?_
    obtain ⟨v_2, ev_2, h⟩ := zk_lt h
    refine W.eq (g2 := F0 m 19 ls [.int v_2, .ref (ad 26)]) (by rw [ev_2]) ?_
    refine va_put (D := D) (ci := 5) (v := .int v_2) (ty := .int) (C := RX5) (T := TX5) (N := 5) hx hb ht iX5 tyX5 tyX5_ok nmX5 hown hK hP hD hS 0 rfl rfl 3 (by decide) (ht _ kw_277) (fun _ h9 => h9) rfl (by decide +kernel) rfl rfl (Nat.le_of_ble_eq_true rfl) dX5_mayOpen_19 (fun H locs hP hD hS => ?_)
    have hP : va_P D classes (wl_X5_mayOpen ad cs lr_size v_2 lr_fault) H := hP
    have hD : va_D A (wl_X5_mayOpen ad cs lr_size v_2 lr_fault) := hD
    refine lv_iconst (v := (1 : Int32)) hx hb dX5_mayOpen_22 (by decide) ?_
    exact W.zret (ty := .boolean) (v := (1 : Int32)) hx hb hr rfl (fun t ht2 hW => ⟨⟨(1 : Int32), (v_2, lr_fault), rfl, Option.some.inj h, by rw [ht2]; exact hP, hD⟩, hS.F ht2⟩) hS.2.2 dX5_mayOpen_23 hlocks
  · have h := zk_f c_1 h
    refine lv_aload_n hx hb dX5_mayOpen_6 rfl (lv_at hl 0 rfl) ?_
    obtain ⟨u_3, hc_4, h⟩ := zk_o1 h
    refine zk_vv (post := (fun u => u = u_3)) (w1 := fun u => (wl_X5_fail ad cs lr_size lr_at u)) (As := []) (rest := []) (c_X5_fail l D cs ad  H.size lr_size lr_at lr_fault _ hc_4) ⟨hx, hb, hml, hown, ht⟩ (cwV 0 ht g_X5_39 rfl rfl rfl (by decide +kernel) ⟨Nat.le_of_ble_eq_true rfl, Nat.le_of_ble_eq_true rfl⟩) (va_recv hK hP (ci := 5) (q0 := 0) rfl rfl) hP hD hS hK hA [0] [] rfl rfl rfl rfl (by decide) rfl hl.1 (Nat.le_of_ble_eq_true rfl) dX5_mayOpen_7 ⟨Nat.zero_le _, Nat.zero_le _⟩ (fun u H locs hq hP hD hS => ?_)
    cases hq
    have hP : va_P D classes (wl_X5_mayOpen ad cs lr_size lr_at u_3) H := hP.sub [0] rfl
    have hD : va_D A (wl_X5_mayOpen ad cs lr_size lr_at u_3) := hD.sub [0] rfl rfl
    refine lv_iconst (v := (0 : Int32)) hx hb dX5_mayOpen_10 (by decide) ?_
    exact W.zret (ty := .boolean) (v := (0 : Int32)) hx hb hr rfl (fun t ht2 hW => ⟨⟨(0 : Int32), (lr_at, u_3), rfl, Option.some.inj h, by rw [ht2]; exact hP, hD⟩, hS.F ht2⟩) hS.2.2 dX5_mayOpen_11 hlocks
set_option maxHeartbeats 4000000 in
set_option maxRecDepth 100000 in
theorem c_X5_mayOpen (l : Launch) (D : va_G) (cs : Nat → ClassId) (ad : Nat → Nat) (sz : Nat) (x1 : Int32) (lr_size : Int32) (lr_at : Int32) (lr_fault : Int32) (R : Int32 × Int32 × Int32) (h : f_X5_mayOpen  x1 lr_size lr_at lr_fault = some R) : Met l yX5_mayOpen (z_X5_mayOpen) rm_X5_mayOpen (va_Pc [.ref (ad 26), .int x1] (zPre D cs (wl_X5_mayOpen ad cs lr_size lr_at lr_fault) sz)) (Q_X5_mayOpen D cs ad lr_size (va_A (wl_X5_mayOpen ad cs lr_size lr_at lr_fault) sz) R) 0 0 (va_A (wl_X5_mayOpen ad cs lr_size lr_at lr_fault) sz) := by
  refine Met.ofW (cc := cX5_mayOpen) (maxL := 2) (ret := (some .boolean)) (by decide) rfl ?_
  intro p e s m args below meth c s₁ B hml hv
  obtain ⟨rfl, hsz, hP, hK, hD0⟩ := hv
  subst hsz
  have hD := hD0.self (sz := s.heap.size)
  have C0 : zC p s m _ meth c cX5_mayOpen 2 (some .boolean) RX5 zW := ⟨B.exec, B.bytes, B.returns, hml, findClass_of_methodNamed B.named, fun w hw => atoms_spec (ws := z_X5_mayOpen) B.pre w (List.mem_cons_of_mem _ hw), B.notSynchronized⟩
  have hA : ∀ q : Nat, s.heap.size ≤ q → va_A (wl_X5_mayOpen ad cs lr_size lr_at lr_fault) s.heap.size q := fun q h => Or.inr h
  have hl := lv_entry ([.ref (ad 26), .int x1]) (n := 2) (Nat.le_of_ble_eq_true rfl)
  rw [lg_entry_eq]
  generalize (lg_sl ([.ref (ad 26), .int x1]) ++ List.replicate (2 - (lg_sl ([.ref (ad 26), .int x1])).length) Slot.unset).toArray = ls at hl ⊢
  exact L_X5_mayOpen_0 C0 hK hA   x1 lr_at lr_fault h s.heap [] ls hP hD va_S.rf hl
