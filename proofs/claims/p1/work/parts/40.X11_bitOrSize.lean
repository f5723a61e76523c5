theorem kw_97 : Cond.initialized RJ13 ∈ zW := zwI (i := 97) (by decide +kernel) (by decide +kernel)
theorem kw_1056 : Cond.methodLink RX11 278 yJ13_bitCount_95d88 ∈ zW := zwI (i := 1056) (by decide +kernel) (by decide +kernel)
theorem kw_1057 : Cond.static yJ13_bitCount_95d88 ∈ zW := zwI (i := 1057) (by decide +kernel) (by decide +kernel)
theorem kw_1058 : Cond.code yJ13_bitCount_95d88 cJ13_bitCount_95d88 2 (some .int) ∈ zW := zwI (i := 1058) (by decide +kernel) (by decide +kernel)
theorem dX11_bitOrSize_0 : decode cX11_bitOrSize 0 = .ok (.iload_n 2, 1) := by decide +kernel
theorem dX11_bitOrSize_1 : decode cX11_bitOrSize 1 = .ok (.ifCond .ge 8, 3) := by decide +kernel
theorem dX11_bitOrSize_4 : decode cX11_bitOrSize 4 = .ok (.lload_n 0, 1) := by decide +kernel
theorem dX11_bitOrSize_5 : decode cX11_bitOrSize 5 = .ok (.invokestatic 278, 3) := by decide +kernel
theorem dX11_bitOrSize_8 : decode cX11_bitOrSize 8 = .ok (.ireturn, 1) := by decide +kernel
theorem dX11_bitOrSize_9 : decode cX11_bitOrSize 9 = .ok (.iconst 0, 1) := by decide +kernel
theorem dX11_bitOrSize_10 : decode cX11_bitOrSize 10 = .ok (.istore_n 3, 1) := by decide +kernel
theorem dX11_bitOrSize_11 : decode cX11_bitOrSize 11 = .ok (.iconst 0, 1) := by decide +kernel
theorem dX11_bitOrSize_12 : decode cX11_bitOrSize 12 = .ok (.istore 4, 2) := by decide +kernel
theorem dX11_bitOrSize_14 : decode cX11_bitOrSize 14 = .ok (.iload 4, 2) := by decide +kernel
theorem dX11_bitOrSize_16 : decode cX11_bitOrSize 16 = .ok (.bipush 64, 2) := by decide +kernel
theorem dX11_bitOrSize_18 : decode cX11_bitOrSize 18 = .ok (.if_icmp .ge 31, 3) := by decide +kernel
theorem dX11_bitOrSize_21 : decode cX11_bitOrSize 21 = .ok (.lload_n 0, 1) := by decide +kernel
theorem dX11_bitOrSize_22 : decode cX11_bitOrSize 22 = .ok (.iload 4, 2) := by decide +kernel
theorem dX11_bitOrSize_24 : decode cX11_bitOrSize 24 = .ok (.lshr, 1) := by decide +kernel
theorem dX11_bitOrSize_25 : decode cX11_bitOrSize 25 = .ok (.lconst 1, 1) := by decide +kernel
theorem dX11_bitOrSize_26 : decode cX11_bitOrSize 26 = .ok (.land, 1) := by decide +kernel
theorem dX11_bitOrSize_27 : decode cX11_bitOrSize 27 = .ok (.lconst 0, 1) := by decide +kernel
theorem dX11_bitOrSize_28 : decode cX11_bitOrSize 28 = .ok (.lcmp, 1) := by decide +kernel
theorem dX11_bitOrSize_29 : decode cX11_bitOrSize 29 = .ok (.ifCond .eq 14, 3) := by decide +kernel
theorem dX11_bitOrSize_32 : decode cX11_bitOrSize 32 = .ok (.iload_n 3, 1) := by decide +kernel
theorem dX11_bitOrSize_33 : decode cX11_bitOrSize 33 = .ok (.iload_n 2, 1) := by decide +kernel
theorem dX11_bitOrSize_34 : decode cX11_bitOrSize 34 = .ok (.if_icmp .ne 6, 3) := by decide +kernel
theorem dX11_bitOrSize_37 : decode cX11_bitOrSize 37 = .ok (.iload 4, 2) := by decide +kernel
theorem dX11_bitOrSize_39 : decode cX11_bitOrSize 39 = .ok (.ireturn, 1) := by decide +kernel
theorem dX11_bitOrSize_40 : decode cX11_bitOrSize 40 = .ok (.iinc 3 1, 3) := by decide +kernel
theorem dX11_bitOrSize_43 : decode cX11_bitOrSize 43 = .ok (.iinc 4 1, 3) := by decide +kernel
theorem dX11_bitOrSize_46 : decode cX11_bitOrSize 46 = .ok (.goto (-32), 3) := by decide +kernel
theorem dX11_bitOrSize_49 : decode cX11_bitOrSize 49 = .ok (.iconst (-1), 1) := by decide +kernel
theorem dX11_bitOrSize_50 : decode cX11_bitOrSize 50 = .ok (.ireturn, 1) := by decide +kernel
abbrev z_X11_bitOrSize : List Cond := .code yX11_bitOrSize cX11_bitOrSize 5 (some .int) :: zW
abbrev wl_X11_bitOrSize (ad : Nat → Nat) (cs : Nat → ClassId)   : va_W := []
def Q_X11_bitOrSize (D : va_G) (cs : Nat → ClassId) (ad : Nat → Nat)   (A : Nat → Prop) (R : Int32 × Unit) : Array Value → State → Outcome → State → Prop :=
  va_Qi (fun (r : Int32) (u : Unit) => (r, u) = R) (fun (u : Unit) (t : State) => va_P D classes (wl_X11_bitOrSize ad cs ) t.heap ∧ va_D A (wl_X11_bitOrSize ad cs )) A
abbrev rm_X11_bitOrSize : Room := { frames := 1, cells := 0, slots := 0, locals := 21 }
theorem g_X11_278 : GoodIn zW (va_wsS RX11 278 yJ13_bitCount_95d88 z_J13_bitCount_95d88) := zGS kw_1056 kw_1057 kw_97 kw_1058
def B_X11_bitOrSize_43   (g14 : Int64 → Int32 → Int32 → Int32 → (Option (Int32 × Unit)))  (x0 : Int64) (x2 : Int32) (x3 : Int32) (x4 : Int32) : Option (Int32 × Unit) :=
  (zk_let (x4 + (1 : Int32)) (fun v_9 => (g14 x0 x2 x3 v_9)))
def B_X11_bitOrSize_14   (g14 : Int64 → Int32 → Int32 → Int32 → (Option (Int32 × Unit)))  (x0 : Int64) (x2 : Int32) (x3 : Int32) (x4 : Int32) : Option (Int32 × Unit) :=
  (if (64 : Int32) ≤ x4 then (some ((-1 : Int32), ())) else (if (lg_cmp ((x0 >>> (x4.toInt64 &&& 63)) &&& (1 : Int64)) (0 : Int64)) = 0 then (B_X11_bitOrSize_43 g14 x0 x2 x3 x4) else (if x3 = x2 then (some (x4, ())) else (zk_let (x3 + (1 : Int32)) (fun v_8 => (B_X11_bitOrSize_43 g14 x0 x2 v_8 x4))))))
def B_X11_bitOrSize_0   (g14 : Int64 → Int32 → Int32 → Int32 → (Option (Int32 × Unit)))  (x0 : Int64) (x2 : Int32) : Option (Int32 × Unit) :=
  (if 0 ≤ x2 then (g14 x0 x2 (0 : Int32) (0 : Int32)) else (zk_b2 (f_J13_bitCount_95d88 x0) (fun r_2 u_3 => (some (r_2, ())))))
def G_X11_bitOrSize    (n : Nat) : (Int64 → Int32 → Int32 → Int32 → (Option (Int32 × Unit))) :=
  Nat.rec (motive := fun _ => (Int64 → Int32 → Int32 → Int32 → (Option (Int32 × Unit)))) ((fun _ _ _ _ => none)) (fun _ ih => (B_X11_bitOrSize_14   ih )) n
def f_X11_bitOrSize   (n : Nat) (x0 : Int64) (x2 : Int32)  : Option (Int32 × Unit) := B_X11_bitOrSize_0   ((G_X11_bitOrSize    n))  x0 x2 
set_option maxHeartbeats 4000000 in
set_option maxRecDepth 100000 in
theorem L_X11_bitOrSize_43 {p : Program} {l : Launch} {e : Env} {s : State} {m : MethodId} {args : Array Value} {below : List Frame} {meth : Method} {c : Code} {A : Nat → Prop} {D : va_G} {cs : Nat → ClassId} {ad : Nat → Nat} {R : Int32 × Unit} {g14 : Int64 → Int32 → Int32 → Int32 → (Option (Int32 × Unit))} (C0 : zC p s m args meth c cX11_bitOrSize 5 (some .int) RX11 zW) (hK : va_K D classes (zT cs) s) (hA : ∀ q : Nat, s.heap.size ≤ q → A q) (ih14 : ∀ (x0 : Int64) (x2 : Int32) (x3 : Int32) (x4 : Int32) (h : g14 x0 x2 x3 x4 = some R) (H : Heap) (locs : List Loc) (ls : Array Slot) (hP : va_P D classes (wl_X11_bitOrSize ad cs ) H) (hD : va_D A (wl_X11_bitOrSize ad cs )) (hS : va_S A s.heap H locs) (hl : lv_has ls 5 [(0, .long x0), (2, .int x2), (3, .int x3), (4, .int x4)]), W p l e rm_X11_bitOrSize s m args below meth c H locs 0 0 (MQ below (Q_X11_bitOrSize D cs ad  A R) args s 0 0 A) (F0 m 14 ls [])) (x0 : Int64) (x2 : Int32) (x3 : Int32) (x4 : Int32) (h : B_X11_bitOrSize_43 g14 x0 x2 x3 x4 = some R) (H : Heap) (locs : List Loc) (ls : Array Slot) (hP : va_P D classes (wl_X11_bitOrSize ad cs ) H) (hD : va_D A (wl_X11_bitOrSize ad cs )) (hS : va_S A s.heap H locs) (hl : lv_has ls 5 [(0, .long x0), (2, .int x2), (3, .int x3), (4, .int x4)]) : W p l e rm_X11_bitOrSize s m args below meth c H locs 0 0 (MQ below (Q_X11_bitOrSize D cs ad  A R) args s 0 0 A) (F0 m 43 ls []) := by
  obtain ⟨hx, hb, hr, hml, hown, ht, hlocks⟩ := id C0
  obtain ⟨v_9, ev_9, h⟩ := zk_lt h
  refine lv_iinc (v := v_9) (lv' := [(4, .int v_9), (0, .long x0), (2, .int x2), (3, .int x3)]) hx hb dX11_bitOrSize_43 hl (k := 3) rfl (by rw [ev_9]; rfl) (by decide) rfl (fun ls hl => ?_)
  refine lv_goto (tgt := 14) hx hb dX11_bitOrSize_46 (by decide) ?_
  exact ih14 x0 x2 x3 v_9 h H locs ls hP hD hS (lv_sub hl [1, 2, 3, 0] rfl)
set_option maxHeartbeats 4000000 in
set_option maxRecDepth 100000 in
theorem L_X11_bitOrSize_14 {p : Program} {l : Launch} {e : Env} {s : State} {m : MethodId} {args : Array Value} {below : List Frame} {meth : Method} {c : Code} {A : Nat → Prop} {D : va_G} {cs : Nat → ClassId} {ad : Nat → Nat} {R : Int32 × Unit} {g14 : Int64 → Int32 → Int32 → Int32 → (Option (Int32 × Unit))} (C0 : zC p s m args meth c cX11_bitOrSize 5 (some .int) RX11 zW) (hK : va_K D classes (zT cs) s) (hA : ∀ q : Nat, s.heap.size ≤ q → A q) (ih14 : ∀ (x0 : Int64) (x2 : Int32) (x3 : Int32) (x4 : Int32) (h : g14 x0 x2 x3 x4 = some R) (H : Heap) (locs : List Loc) (ls : Array Slot) (hP : va_P D classes (wl_X11_bitOrSize ad cs ) H) (hD : va_D A (wl_X11_bitOrSize ad cs )) (hS : va_S A s.heap H locs) (hl : lv_has ls 5 [(0, .long x0), (2, .int x2), (3, .int x3), (4, .int x4)]), W p l e rm_X11_bitOrSize s m args below meth c H locs 0 0 (MQ below (Q_X11_bitOrSize D cs ad  A R) args s 0 0 A) (F0 m 14 ls [])) (x0 : Int64) (x2 : Int32) (x3 : Int32) (x4 : Int32) (h : B_X11_bitOrSize_14 g14 x0 x2 x3 x4 = some R) (H : Heap) (locs : List Loc) (ls : Array Slot) (hP : va_P D classes (wl_X11_bitOrSize ad cs ) H) (hD : va_D A (wl_X11_bitOrSize ad cs )) (hS : va_S A s.heap H locs) (hl : lv_has ls 5 [(0, .long x0), (2, .int x2), (3, .int x3), (4, .int x4)]) : W p l e rm_X11_bitOrSize s m args below meth c H locs 0 0 (MQ below (Q_X11_bitOrSize D cs ad  A R) args s 0 0 A) (F0 m 14 ls []) := by
  obtain ⟨hx, hb, hr, hml, hown, ht, hlocks⟩ := id C0
  refine lv_iload hx hb dX11_bitOrSize_14 (lv_at hl 3 rfl) ?_
  refine lv_bipush (v := (64 : Int32)) hx hb dX11_bitOrSize_16 (by decide) ?_
  refine lv_icmp_ge (tgt := 49) hx hb dX11_bitOrSize_18 (by decide) (fun c_5 => ?_) (fun c_5 => ?_)
  · have h := zk_t c_5 h
    refine lv_iconst (v := (-1 : Int32)) hx hb dX11_bitOrSize_49 (by decide) ?_
    exact W.iret (v := (-1 : Int32)) hx hb hr (fun t ht2 hW => ⟨⟨(-1 : Int32), (), rfl, Option.some.inj h, by rw [ht2]; exact hP, hD⟩, hS.F ht2⟩) hS.2.2 dX11_bitOrSize_50 hlocks
  · have h := zk_f c_5 h
    refine lv_lload_n hx hb dX11_bitOrSize_21 rfl (lv_at hl 0 rfl) ?_
    refine lv_iload hx hb dX11_bitOrSize_22 (lv_at hl 3 rfl) ?_
    refine lv_lshr (v := x0 >>> (x4.toInt64 &&& 63)) hx hb dX11_bitOrSize_24 rfl ?_
    refine lv_lconst (v := (1 : Int64)) hx hb dX11_bitOrSize_25 (by decide) ?_
    refine lv_land hx hb dX11_bitOrSize_26 ?_
    refine lv_lconst (v := (0 : Int64)) hx hb dX11_bitOrSize_27 (by decide) ?_
    refine W.lcmp hx hb dX11_bitOrSize_28 ?_
    refine lv_if_eq (tgt := 43) hx hb dX11_bitOrSize_29 (by decide) (fun c_6 => ?_) (fun c_6 => ?_)
    · have h := zk_t c_6 h
      exact L_X11_bitOrSize_43 C0 hK hA  ih14 x0 x2 x3 x4 h H locs ls hP hD hS (lv_sub hl [0, 1, 2, 3] rfl)
    · have h := zk_f c_6 h
      refine lv_iload_n hx hb dX11_bitOrSize_32 rfl (lv_at hl 2 rfl) ?_
      refine lv_iload_n hx hb dX11_bitOrSize_33 rfl (lv_at hl 1 rfl) ?_
      refine lv_icmp_ne (tgt := 40) hx hb dX11_bitOrSize_34 (by decide) (fun c_7 => ?_) (fun c_7 => ?_)
      · have h := zk_f c_7 h
        obtain ⟨v_8, ev_8, h⟩ := zk_lt h
        refine lv_iinc (v := v_8) (lv' := [(3, .int v_8), (0, .long x0), (2, .int x2), (4, .int x4)]) hx hb dX11_bitOrSize_40 hl (k := 2) rfl (by rw [ev_8]; rfl) (by decide) rfl (fun ls hl => ?_)
        exact L_X11_bitOrSize_43 C0 hK hA  ih14 x0 x2 v_8 x4 h H locs ls hP hD hS (lv_sub hl [1, 2, 0, 3] rfl)
      · have h := zk_t c_7 h
        refine lv_iload hx hb dX11_bitOrSize_37 (lv_at hl 3 rfl) ?_
        exact W.iret (v := x4) hx hb hr (fun t ht2 hW => ⟨⟨x4, (), rfl, Option.some.inj h, by rw [ht2]; exact hP, hD⟩, hS.F ht2⟩) hS.2.2 dX11_bitOrSize_39 hlocks
set_option maxHeartbeats 4000000 in
set_option maxRecDepth 100000 in
theorem L_X11_bitOrSize_0 {p : Program} {l : Launch} {e : Env} {s : State} {m : MethodId} {args : Array Value} {below : List Frame} {meth : Method} {c : Code} {A : Nat → Prop} {D : va_G} {cs : Nat → ClassId} {ad : Nat → Nat} {R : Int32 × Unit} {g14 : Int64 → Int32 → Int32 → Int32 → (Option (Int32 × Unit))} (C0 : zC p s m args meth c cX11_bitOrSize 5 (some .int) RX11 zW) (hK : va_K D classes (zT cs) s) (hA : ∀ q : Nat, s.heap.size ≤ q → A q) (ih14 : ∀ (x0 : Int64) (x2 : Int32) (x3 : Int32) (x4 : Int32) (h : g14 x0 x2 x3 x4 = some R) (H : Heap) (locs : List Loc) (ls : Array Slot) (hP : va_P D classes (wl_X11_bitOrSize ad cs ) H) (hD : va_D A (wl_X11_bitOrSize ad cs )) (hS : va_S A s.heap H locs) (hl : lv_has ls 5 [(0, .long x0), (2, .int x2), (3, .int x3), (4, .int x4)]), W p l e rm_X11_bitOrSize s m args below meth c H locs 0 0 (MQ below (Q_X11_bitOrSize D cs ad  A R) args s 0 0 A) (F0 m 14 ls [])) (x0 : Int64) (x2 : Int32) (h : B_X11_bitOrSize_0 g14 x0 x2 = some R) (H : Heap) (locs : List Loc) (ls : Array Slot) (hP : va_P D classes (wl_X11_bitOrSize ad cs ) H) (hD : va_D A (wl_X11_bitOrSize ad cs )) (hS : va_S A s.heap H locs) (hl : lv_has ls 5 [(0, .long x0), (2, .int x2)]) : W p l e rm_X11_bitOrSize s m args below meth c H locs 0 0 (MQ below (Q_X11_bitOrSize D cs ad  A R) args s 0 0 A) (F0 m 0 ls []) := by
  obtain ⟨hx, hb, hr, hml, hown, ht, hlocks⟩ := id C0
  refine lv_iload_n hx hb dX11_bitOrSize_0 rfl (lv_at hl 1 rfl) ?_
  refine lv_if_ge (tgt := 9) hx hb dX11_bitOrSize_1 (by decide) (fun c_1 => ?_) (fun c_1 => ?_)
  · have h := zk_t c_1 h
    refine lv_iconst (v := (0 : Int32)) hx hb dX11_bitOrSize_9 (by decide) ?_
    refine lv_istore_n (lv' := [(3, .int (0 : Int32)), (0, .long x0), (2, .int x2)]) hx hb dX11_bitOrSize_10 rfl hl (by decide) rfl (fun ls hl => ?_)
    refine lv_iconst (v := (0 : Int32)) hx hb dX11_bitOrSize_11 (by decide) ?_
    refine lv_istore (lv' := [(4, .int (0 : Int32)), (3, .int (0 : Int32)), (0, .long x0), (2, .int x2)]) hx hb dX11_bitOrSize_12 hl (by decide) rfl (fun ls hl => ?_)
    exact ih14 x0 x2 (0 : Int32) (0 : Int32) h H locs ls hP hD hS (lv_sub hl [2, 3, 1, 0] rfl)
  · have h := zk_f c_1 h
    refine lv_lload_n hx hb dX11_bitOrSize_4 rfl (lv_at hl 0 rfl) ?_
    obtain ⟨r_2, u_3, hc_4, h⟩ := zk_o2 h
    refine zk_si (post := (fun r u => (r, u) = (r_2, u_3))) (w1 := fun u => (wl_J13_bitCount_95d88 ad cs )) (As := [.long x0]) (rest := []) (c_J13_bitCount_95d88 l D cs ad  H.size x0 _ hc_4) ⟨hx, hb, hml, hown, ht⟩ (va_cwS 1 ht g_X11_278 rfl rfl rfl (by decide +kernel) ⟨Nat.le_of_ble_eq_true rfl, Nat.le_of_ble_eq_true rfl⟩) hP hD hS hK hA [] [] rfl rfl rfl rfl (by decide) rfl hl.1 (Nat.le_of_ble_eq_true rfl) dX11_bitOrSize_5 ⟨Nat.zero_le _, Nat.zero_le _⟩ (fun r u H locs hq hP hD hS => ?_)
    cases hq
    have hP : va_P D classes (wl_X11_bitOrSize ad cs ) H := hP.sub [] rfl
    have hD : va_D A (wl_X11_bitOrSize ad cs ) := hD.sub [] rfl rfl
    exact W.iret (v := r_2) hx hb hr (fun t ht2 hW => ⟨⟨r_2, (), rfl, Option.some.inj h, by rw [ht2]; exact hP, hD⟩, hS.F ht2⟩) hS.2.2 dX11_bitOrSize_8 hlocks
theorem LG_X11_bitOrSize {p : Program} {l : Launch} {e : Env} {s : State} {m : MethodId} {args : Array Value} {below : List Frame} {meth : Method} {c : Code} {A : Nat → Prop} {D : va_G} {cs : Nat → ClassId} {ad : Nat → Nat} {R : Int32 × Unit} (C0 : zC p s m args meth c cX11_bitOrSize 5 (some .int) RX11 zW) (hK : va_K D classes (zT cs) s) (hA : ∀ q : Nat, s.heap.size ≤ q → A q) : ∀ n : Nat, (∀ (x0 : Int64) (x2 : Int32) (x3 : Int32) (x4 : Int32) (h : (G_X11_bitOrSize    n) x0 x2 x3 x4 = some R) (H : Heap) (locs : List Loc) (ls : Array Slot) (hP : va_P D classes (wl_X11_bitOrSize ad cs ) H) (hD : va_D A (wl_X11_bitOrSize ad cs )) (hS : va_S A s.heap H locs) (hl : lv_has ls 5 [(0, .long x0), (2, .int x2), (3, .int x3), (4, .int x4)]), W p l e rm_X11_bitOrSize s m args below meth c H locs 0 0 (MQ below (Q_X11_bitOrSize D cs ad  A R) args s 0 0 A) (F0 m 14 ls [])) := by
  intro n
  induction n with
  | zero =>
    refine ?_ <;> (intros; rename_i h _ _ _ _ _ _ _; cases h)
  | succ n ih =>
    exact L_X11_bitOrSize_14 C0 hK hA  ih
set_option maxHeartbeats 4000000 in
set_option maxRecDepth 100000 in
theorem c_X11_bitOrSize (l : Launch) (D : va_G) (cs : Nat → ClassId) (ad : Nat → Nat) (sz : Nat) (n : Nat) (x0 : Int64) (x2 : Int32)  (R : Int32 × Unit) (h : f_X11_bitOrSize   n x0 x2  = some R) : Met l yX11_bitOrSize (z_X11_bitOrSize) rm_X11_bitOrSize (va_Pc [.long x0, .int x2] (zPre D cs (wl_X11_bitOrSize ad cs ) sz)) (Q_X11_bitOrSize D cs ad  (va_A (wl_X11_bitOrSize ad cs ) sz) R) 0 0 (va_A (wl_X11_bitOrSize ad cs ) sz) := by
  refine Met.ofW (cc := cX11_bitOrSize) (maxL := 5) (ret := (some .int)) (by decide) rfl ?_
  intro p e s m args below meth c s₁ B hml hv
  obtain ⟨rfl, hsz, hP, hK, hD0⟩ := hv
  subst hsz
  have hD := hD0.self (sz := s.heap.size)
  have C0 : zC p s m _ meth c cX11_bitOrSize 5 (some .int) RX11 zW := ⟨B.exec, B.bytes, B.returns, hml, findClass_of_methodNamed B.named, fun w hw => atoms_spec (ws := z_X11_bitOrSize) B.pre w (List.mem_cons_of_mem _ hw), B.notSynchronized⟩
  have hA : ∀ q : Nat, s.heap.size ≤ q → va_A (wl_X11_bitOrSize ad cs ) s.heap.size q := fun q h => Or.inr h
  have hl := lv_entry ([.long x0, .int x2]) (n := 5) (Nat.le_of_ble_eq_true rfl)
  rw [lg_entry_eq]
  generalize (lg_sl ([.long x0, .int x2]) ++ List.replicate (5 - (lg_sl ([.long x0, .int x2])).length) Slot.unset).toArray = ls at hl ⊢
  exact L_X11_bitOrSize_0 C0 hK hA  ((LG_X11_bitOrSize C0 hK hA  n)) x0 x2  h s.heap [] ls hP hD va_S.rf hl
theorem kw_1053 : Cond.methodLink RX11 258 yX11_bitOrSize ∈ zW := zwI (i := 1053) (by decide +kernel) (by decide +kernel)
theorem kw_1054 : Cond.static yX11_bitOrSize ∈ zW := zwI (i := 1054) (by decide +kernel) (by decide +kernel)
theorem kw_1055 : Cond.code yX11_bitOrSize cX11_bitOrSize 5 (some .int) ∈ zW := zwI (i := 1055) (by decide +kernel) (by decide +kernel)
theorem dX11_left_0 : decode cX11_left 0 = .ok (.iload_n 1, 1) := by decide +kernel
theorem dX11_left_1 : decode cX11_left 1 = .ok (.invokestatic 243, 3) := by decide +kernel
theorem dX11_left_4 : decode cX11_left 4 = .ok (.ifCond .eq 8, 3) := by decide +kernel
theorem dX11_left_7 : decode cX11_left 7 = .ok (.iload_n 2, 1) := by decide +kernel
theorem dX11_left_8 : decode cX11_left 8 = .ok (.iconst (-1), 1) := by decide +kernel
theorem dX11_left_9 : decode cX11_left 9 = .ok (.if_icmp .ge 5, 3) := by decide +kernel
theorem dX11_left_12 : decode cX11_left 12 = .ok (.iconst (-1), 1) := by decide +kernel
theorem dX11_left_13 : decode cX11_left 13 = .ok (.ireturn, 1) := by decide +kernel
theorem dX11_left_14 : decode cX11_left 14 = .ok (.aload_n 0, 1) := by decide +kernel
theorem dX11_left_15 : decode cX11_left 15 = .ok (.getfield 21, 3) := by decide +kernel
theorem dX11_left_18 : decode cX11_left 18 = .ok (.iload_n 1, 1) := by decide +kernel
theorem dX11_left_19 : decode cX11_left 19 = .ok (.bipush 10, 2) := by decide +kernel
theorem dX11_left_21 : decode cX11_left 21 = .ok (.idiv, 1) := by decide +kernel
theorem dX11_left_22 : decode cX11_left 22 = .ok (.iload_n 1, 1) := by decide +kernel
theorem dX11_left_23 : decode cX11_left 23 = .ok (.bipush 10, 2) := by decide +kernel
theorem dX11_left_25 : decode cX11_left 25 = .ok (.irem, 1) := by decide +kernel
theorem dX11_left_26 : decode cX11_left 26 = .ok (.invokevirtual 246, 3) := by decide +kernel
theorem dX11_left_29 : decode cX11_left 29 = .ok (.lconst 0, 1) := by decide +kernel
theorem dX11_left_30 : decode cX11_left 30 = .ok (.lstore_n 3, 1) := by decide +kernel
theorem dX11_left_31 : decode cX11_left 31 = .ok (.iconst 0, 1) := by decide +kernel
theorem dX11_left_32 : decode cX11_left 32 = .ok (.istore 5, 2) := by decide +kernel
theorem dX11_left_34 : decode cX11_left 34 = .ok (.iload 5, 2) := by decide +kernel
theorem dX11_left_36 : decode cX11_left 36 = .ok (.aload_n 0, 1) := by decide +kernel
theorem dX11_left_37 : decode cX11_left 37 = .ok (.getfield 10, 3) := by decide +kernel
theorem dX11_left_40 : decode cX11_left 40 = .ok (.getfield 194, 3) := by decide +kernel
theorem dX11_left_43 : decode cX11_left 43 = .ok (.if_icmp .ge 30, 3) := by decide +kernel
theorem dX11_left_46 : decode cX11_left 46 = .ok (.aload_n 0, 1) := by decide +kernel
theorem dX11_left_47 : decode cX11_left 47 = .ok (.getfield 21, 3) := by decide +kernel
theorem dX11_left_50 : decode cX11_left 50 = .ok (.iload 5, 2) := by decide +kernel
theorem dX11_left_52 : decode cX11_left 52 = .ok (.iconst (-1), 1) := by decide +kernel
theorem dX11_left_53 : decode cX11_left 53 = .ok (.iconst (-1), 1) := by decide +kernel
theorem dX11_left_54 : decode cX11_left 54 = .ok (.invokevirtual 249, 3) := by decide +kernel
theorem dX11_left_57 : decode cX11_left 57 = .ok (.ifCond .ge 10, 3) := by decide +kernel
theorem dX11_left_60 : decode cX11_left 60 = .ok (.lload_n 3, 1) := by decide +kernel
theorem dX11_left_61 : decode cX11_left 61 = .ok (.lconst 1, 1) := by decide +kernel
theorem dX11_left_62 : decode cX11_left 62 = .ok (.iload 5, 2) := by decide +kernel
theorem dX11_left_64 : decode cX11_left 64 = .ok (.lshl, 1) := by decide +kernel
theorem dX11_left_65 : decode cX11_left 65 = .ok (.lor, 1) := by decide +kernel
theorem dX11_left_66 : decode cX11_left 66 = .ok (.lstore_n 3, 1) := by decide +kernel
theorem dX11_left_67 : decode cX11_left 67 = .ok (.iinc 5 1, 3) := by decide +kernel
theorem dX11_left_70 : decode cX11_left 70 = .ok (.goto (-36), 3) := by decide +kernel
theorem dX11_left_73 : decode cX11_left 73 = .ok (.lload_n 3, 1) := by decide +kernel
theorem dX11_left_74 : decode cX11_left 74 = .ok (.iload_n 2, 1) := by decide +kernel
theorem dX11_left_75 : decode cX11_left 75 = .ok (.invokestatic 258, 3) := by decide +kernel
theorem dX11_left_78 : decode cX11_left 78 = .ok (.ireturn, 1) := by decide +kernel
abbrev z_X11_left : List Cond := .code yX11_left cX11_left 6 (some .int) :: zW
abbrev wl_X11_left (ad : Nat → Nat) (cs : Nat → ClassId)  (court_shoeCount : Int32) (court_claimCount : Int32) (court_suitCount : Int32) (court_shoePerson : Nat → Int32) (court_shoeOther : Nat → Int32) (inq_day : Int32) (inq_land : Int32) (inq_shoeLeftOut : Int32) (inq_judgedShoes : Nat → Int64) (inq_bindingShoes : Nat → Int64) (inq_boundAs : Nat → Int32) (inq_standing : Nat → Int32) (inq_arriving : Nat → Int32) : va_W := [((ad 0), .inr (11, [.ref (ad 4), .ref (ad 15), .ref (ad 23), .ref (ad 25), .ref (ad 26), .ref (ad 28), .ref (ad 34), .ref (ad 39), .ref (ad 1), .ref (ad 2), .ref (ad 3)])), ((ad 4), .inr (2, [.ref (ad 5), .ref (ad 6), .ref (ad 7), .ref (ad 8), .ref (ad 9), .ref (ad 10), .ref (ad 11), .ref (ad 12), .ref (ad 13), .ref (ad 14), .int court_shoeCount, .int court_claimCount, .int court_suitCount])), ((ad 5), .inl (cs 0, 40, .inl court_shoePerson)), ((ad 6), .inl (cs 0, 40, .inl court_shoeOther)), ((ad 15), .inr (3, [.ref (ad 4), .ref (ad 16), .ref (ad 17), .ref (ad 18), .ref (ad 19), .ref (ad 20), .ref (ad 21), .ref (ad 22), .int inq_day, .int inq_land, .int inq_shoeLeftOut])), ((ad 18), .inl (cs 1, 7, .inr (.inl inq_judgedShoes))), ((ad 19), .inl (cs 1, 7, .inr (.inl inq_bindingShoes))), ((ad 20), .inl (cs 0, 20, .inl inq_boundAs)), ((ad 21), .inl (cs 0, 20, .inl inq_standing)), ((ad 22), .inl (cs 0, 20, .inl inq_arriving))]
def Q_X11_left (D : va_G) (cs : Nat → ClassId) (ad : Nat → Nat)  (court_shoeCount : Int32) (court_claimCount : Int32) (court_suitCount : Int32) (court_shoePerson : Nat → Int32) (court_shoeOther : Nat → Int32) (A : Nat → Prop) (R : Int32 × Int32 × Int32 × Int32 × (Nat → Int64) × (Nat → Int64) × (Nat → Int32) × (Nat → Int32) × (Nat → Int32)) : Array Value → State → Outcome → State → Prop :=
  va_Qi (fun (r : Int32) (u : Int32 × Int32 × Int32 × (Nat → Int64) × (Nat → Int64) × (Nat → Int32) × (Nat → Int32) × (Nat → Int32)) => (r, u) = R) (fun (u : Int32 × Int32 × Int32 × (Nat → Int64) × (Nat → Int64) × (Nat → Int32) × (Nat → Int32) × (Nat → Int32)) (t : State) => va_P D classes (wl_X11_left ad cs court_shoeCount court_claimCount court_suitCount court_shoePerson court_shoeOther u.1 u.2.1 u.2.2.1 u.2.2.2.1 u.2.2.2.2.1 u.2.2.2.2.2.1 u.2.2.2.2.2.2.1 u.2.2.2.2.2.2.2) t.heap ∧ va_D A (wl_X11_left ad cs court_shoeCount court_claimCount court_suitCount court_shoePerson court_shoeOther u.1 u.2.1 u.2.2.1 u.2.2.2.1 u.2.2.2.2.1 u.2.2.2.2.2.1 u.2.2.2.2.2.2.1 u.2.2.2.2.2.2.2)) A
abbrev rm_X11_left : Room := { frames := 3, cells := 0, slots := 0, locals := 71 }
theorem g_X11_258 : GoodIn zW (va_wsS RX11 258 yX11_bitOrSize z_X11_bitOrSize) := zGS kw_1053 kw_1054 kw_75 kw_1055
def B_X11_left_67   (g34 : Int32 → Int64 → Int32 → Int32 → Int32 → Int32 → (Nat → Int64) → (Nat → Int64) → (Nat → Int32) → (Nat → Int32) → (Nat → Int32) → (Option (Int32 × Int32 × Int32 × Int32 × (Nat → Int64) × (Nat → Int64) × (Nat → Int32) × (Nat → Int32) × (Nat → Int32)))) (court_shoeCount : Int32) (court_claimCount : Int32) (court_suitCount : Int32) (court_shoePerson : Nat → Int32) (court_shoeOther : Nat → Int32) (x2 : Int32) (x3 : Int64) (x5 : Int32) (inq_day : Int32) (inq_land : Int32) (inq_shoeLeftOut : Int32) (inq_judgedShoes : Nat → Int64) (inq_bindingShoes : Nat → Int64) (inq_boundAs : Nat → Int32) (inq_standing : Nat → Int32) (inq_arriving : Nat → Int32) : Option (Int32 × Int32 × Int32 × Int32 × (Nat → Int64) × (Nat → Int64) × (Nat → Int32) × (Nat → Int32) × (Nat → Int32)) :=
  (zk_let (x5 + (1 : Int32)) (fun v_24 => (g34 x2 x3 v_24 inq_day inq_land inq_shoeLeftOut inq_judgedShoes inq_bindingShoes inq_boundAs inq_standing inq_arriving)))
def B_X11_left_34   (g34 : Int32 → Int64 → Int32 → Int32 → Int32 → Int32 → (Nat → Int64) → (Nat → Int64) → (Nat → Int32) → (Nat → Int32) → (Nat → Int32) → (Option (Int32 × Int32 × Int32 × Int32 × (Nat → Int64) × (Nat → Int64) × (Nat → Int32) × (Nat → Int32) × (Nat → Int32)))) (court_shoeCount : Int32) (court_claimCount : Int32) (court_suitCount : Int32) (court_shoePerson : Nat → Int32) (court_shoeOther : Nat → Int32) (x2 : Int32) (x3 : Int64) (x5 : Int32) (inq_day : Int32) (inq_land : Int32) (inq_shoeLeftOut : Int32) (inq_judgedShoes : Nat → Int64) (inq_bindingShoes : Nat → Int64) (inq_boundAs : Nat → Int32) (inq_standing : Nat → Int32) (inq_arriving : Nat → Int32) : Option (Int32 × Int32 × Int32 × Int32 × (Nat → Int64) × (Nat → Int64) × (Nat → Int32) × (Nat → Int32) × (Nat → Int32)) :=
  (if court_claimCount ≤ x5 then (zk_b2 (f_X11_bitOrSize 4000 x3 x2) (fun r_16 u_17 => (some (r_16, inq_day, inq_land, inq_shoeLeftOut, inq_judgedShoes, inq_bindingShoes, inq_boundAs, inq_standing, inq_arriving)))) else (zk_b2 (f_X3_firstCloser 4000 x5 (-1 : Int32) (-1 : Int32) court_shoeCount court_claimCount court_suitCount inq_day inq_land inq_shoeLeftOut) (fun r_19 u_20 => (if 0 ≤ r_19 then (B_X11_left_67 g34 court_shoeCount court_claimCount court_suitCount court_shoePerson court_shoeOther x2 x3 x5 inq_day inq_land inq_shoeLeftOut inq_judgedShoes inq_bindingShoes inq_boundAs inq_standing inq_arriving) else (zk_let (x3 ||| ((1 : Int64) <<< (x5.toInt64 &&& 63))) (fun v_23 => (B_X11_left_67 g34 court_shoeCount court_claimCount court_suitCount court_shoePerson court_shoeOther x2 v_23 x5 inq_day inq_land inq_shoeLeftOut inq_judgedShoes inq_bindingShoes inq_boundAs inq_standing inq_arriving)))))))
def B_X11_left_0   (g34 : Int32 → Int64 → Int32 → Int32 → Int32 → Int32 → (Nat → Int64) → (Nat → Int64) → (Nat → Int32) → (Nat → Int32) → (Nat → Int32) → (Option (Int32 × Int32 × Int32 × Int32 × (Nat → Int64) × (Nat → Int64) × (Nat → Int32) × (Nat → Int32) × (Nat → Int32)))) (court_shoeCount : Int32) (court_claimCount : Int32) (court_suitCount : Int32) (court_shoePerson : Nat → Int32) (court_shoeOther : Nat → Int32) (x1 : Int32) (x2 : Int32) (inq_day : Int32) (inq_land : Int32) (inq_shoeLeftOut : Int32) (inq_judgedShoes : Nat → Int64) (inq_bindingShoes : Nat → Int64) (inq_boundAs : Nat → Int32) (inq_standing : Nat → Int32) (inq_arriving : Nat → Int32) : Option (Int32 × Int32 × Int32 × Int32 × (Nat → Int64) × (Nat → Int64) × (Nat → Int32) × (Nat → Int32) × (Nat → Int32)) :=
  (zk_b2 (f_X11_isWhen x1) (fun r_1 u_2 => (if r_1 = 0 then (some ((-1 : Int32), inq_day, inq_land, inq_shoeLeftOut, inq_judgedShoes, inq_bindingShoes, inq_boundAs, inq_standing, inq_arriving)) else (if (-1 : Int32) ≤ x2 then (zk_b8 (f_X3_open (x1 / (10 : Int32)) (x1 - x1 / (10 : Int32) * (10 : Int32)) court_shoeCount court_claimCount court_suitCount court_shoePerson court_shoeOther inq_day inq_land inq_shoeLeftOut inq_judgedShoes inq_bindingShoes inq_boundAs inq_standing inq_arriving) (fun u_6 u_7 u_8 u_9 u_10 u_11 u_12 u_13 => (g34 x2 (0 : Int64) (0 : Int32) u_6 u_7 u_8 u_9 u_10 u_11 u_12 u_13))) else (some ((-1 : Int32), inq_day, inq_land, inq_shoeLeftOut, inq_judgedShoes, inq_bindingShoes, inq_boundAs, inq_standing, inq_arriving))))))
def G_X11_left   (court_shoeCount : Int32) (court_claimCount : Int32) (court_suitCount : Int32) (court_shoePerson : Nat → Int32) (court_shoeOther : Nat → Int32) (n : Nat) : (Int32 → Int64 → Int32 → Int32 → Int32 → Int32 → (Nat → Int64) → (Nat → Int64) → (Nat → Int32) → (Nat → Int32) → (Nat → Int32) → (Option (Int32 × Int32 × Int32 × Int32 × (Nat → Int64) × (Nat → Int64) × (Nat → Int32) × (Nat → Int32) × (Nat → Int32)))) :=
  Nat.rec (motive := fun _ => (Int32 → Int64 → Int32 → Int32 → Int32 → Int32 → (Nat → Int64) → (Nat → Int64) → (Nat → Int32) → (Nat → Int32) → (Nat → Int32) → (Option (Int32 × Int32 × Int32 × Int32 × (Nat → Int64) × (Nat → Int64) × (Nat → Int32) × (Nat → Int32) × (Nat → Int32))))) ((fun _ _ _ _ _ _ _ _ _ _ _ => none)) (fun _ ih => (B_X11_left_34   ih court_shoeCount court_claimCount court_suitCount court_shoePerson court_shoeOther)) n
def f_X11_left   (n : Nat) (x1 : Int32) (x2 : Int32) (court_shoeCount : Int32) (court_claimCount : Int32) (court_suitCount : Int32) (court_shoePerson : Nat → Int32) (court_shoeOther : Nat → Int32) (inq_day : Int32) (inq_land : Int32) (inq_shoeLeftOut : Int32) (inq_judgedShoes : Nat → Int64) (inq_bindingShoes : Nat → Int64) (inq_boundAs : Nat → Int32) (inq_standing : Nat → Int32) (inq_arriving : Nat → Int32) : Option (Int32 × Int32 × Int32 × Int32 × (Nat → Int64) × (Nat → Int64) × (Nat → Int32) × (Nat → Int32) × (Nat → Int32)) := B_X11_left_0   ((G_X11_left   court_shoeCount court_claimCount court_suitCount court_shoePerson court_shoeOther n)) court_shoeCount court_claimCount court_suitCount court_shoePerson court_shoeOther x1 x2 inq_day inq_land inq_shoeLeftOut inq_judgedShoes inq_bindingShoes inq_boundAs inq_standing inq_arriving
set_option maxHeartbeats 4000000 in
set_option maxRecDepth 100000 in
theorem L_X11_left_67 {p : Program} {l : Launch} {e : Env} {s : State} {m : MethodId} {args : Array Value} {below : List Frame} {meth : Method} {c : Code} {A : Nat → Prop} {D : va_G} {cs : Nat → ClassId} {ad : Nat → Nat} {court_shoeCount : Int32} {court_claimCount : Int32} {court_suitCount : Int32} {court_shoePerson : Nat → Int32} {court_shoeOther : Nat → Int32} {R : Int32 × Int32 × Int32 × Int32 × (Nat → Int64) × (Nat → Int64) × (Nat → Int32) × (Nat → Int32) × (Nat → Int32)} {g34 : Int32 → Int64 → Int32 → Int32 → Int32 → Int32 → (Nat → Int64) → (Nat → Int64) → (Nat → Int32) → (Nat → Int32) → (Nat → Int32) → (Option (Int32 × Int32 × Int32 × Int32 × (Nat → Int64) × (Nat → Int64) × (Nat → Int32) × (Nat → Int32) × (Nat → Int32)))} (C0 : zC p s m args meth c cX11_left 6 (some .int) RX11 zW) (hK : va_K D classes (zT cs) s) (hA : ∀ q : Nat, s.heap.size ≤ q → A q) (ih34 : ∀ (x2 : Int32) (x3 : Int64) (x5 : Int32) (inq_day : Int32) (inq_land : Int32) (inq_shoeLeftOut : Int32) (inq_judgedShoes : Nat → Int64) (inq_bindingShoes : Nat → Int64) (inq_boundAs : Nat → Int32) (inq_standing : Nat → Int32) (inq_arriving : Nat → Int32) (h : g34 x2 x3 x5 inq_day inq_land inq_shoeLeftOut inq_judgedShoes inq_bindingShoes inq_boundAs inq_standing inq_arriving = some R) (H : Heap) (locs : List Loc) (ls : Array Slot) (hP : va_P D classes (wl_X11_left ad cs court_shoeCount court_claimCount court_suitCount court_shoePerson court_shoeOther inq_day inq_land inq_shoeLeftOut inq_judgedShoes inq_bindingShoes inq_boundAs inq_standing inq_arriving) H) (hD : va_D A (wl_X11_left ad cs court_shoeCount court_claimCount court_suitCount court_shoePerson court_shoeOther inq_day inq_land inq_shoeLeftOut inq_judgedShoes inq_bindingShoes inq_boundAs inq_standing inq_arriving)) (hS : va_S A s.heap H locs) (hl : lv_has ls 6 [(0, .ref (ad 0)), (2, .int x2), (3, .long x3), (5, .int x5)]), W p l e rm_X11_left s m args below meth c H locs 0 0 (MQ below (Q_X11_left D cs ad court_shoeCount court_claimCount court_suitCount court_shoePerson court_shoeOther A R) args s 0 0 A) (F0 m 34 ls [])) (x2 : Int32) (x3 : Int64) (x5 : Int32) (inq_day : Int32) (inq_land : Int32) (inq_shoeLeftOut : Int32) (inq_judgedShoes : Nat → Int64) (inq_bindingShoes : Nat → Int64) (inq_boundAs : Nat → Int32) (inq_standing : Nat → Int32) (inq_arriving : Nat → Int32) (h : B_X11_left_67 g34 court_shoeCount court_claimCount court_suitCount court_shoePerson court_shoeOther x2 x3 x5 inq_day inq_land inq_shoeLeftOut inq_judgedShoes inq_bindingShoes inq_boundAs inq_standing inq_arriving = some R) (H : Heap) (locs : List Loc) (ls : Array Slot) (hP : va_P D classes (wl_X11_left ad cs court_shoeCount court_claimCount court_suitCount court_shoePerson court_shoeOther inq_day inq_land inq_shoeLeftOut inq_judgedShoes inq_bindingShoes inq_boundAs inq_standing inq_arriving) H) (hD : va_D A (wl_X11_left ad cs court_shoeCount court_claimCount court_suitCount court_shoePerson court_shoeOther inq_day inq_land inq_shoeLeftOut inq_judgedShoes inq_bindingShoes inq_boundAs inq_standing inq_arriving)) (hS : va_S A s.heap H locs) (hl : lv_has ls 6 [(0, .ref (ad 0)), (2, .int x2), (3, .long x3), (5, .int x5)]) : W p l e rm_X11_left s m args below meth c H locs 0 0 (MQ below (Q_X11_left D cs ad court_shoeCount court_claimCount court_suitCount court_shoePerson court_shoeOther A R) args s 0 0 A) (F0 m 67 ls []) := by
  obtain ⟨hx, hb, hr, hml, hown, ht, hlocks⟩ := id C0
  obtain ⟨v_24, ev_24, h⟩ := zk_lt h
  refine lv_iinc (v := v_24) (lv' := [(5, .int v_24), (0, .ref (ad 0)), (2, .int x2), (3, .long x3)]) hx hb dX11_left_67 hl (k := 3) rfl (by rw [ev_24]; rfl) (by decide) rfl (fun ls hl => ?_)
  refine lv_goto (tgt := 34) hx hb dX11_left_70 (by decide) ?_
  exact ih34 x2 x3 v_24 inq_day inq_land inq_shoeLeftOut inq_judgedShoes inq_bindingShoes inq_boundAs inq_standing inq_arriving h H locs ls hP hD hS (lv_sub hl [1, 2, 3, 0] rfl)
set_option maxHeartbeats 4000000 in
set_option maxRecDepth 100000 in
theorem L_X11_left_34 {p : Program} {l : Launch} {e : Env} {s : State} {m : MethodId} {args : Array Value} {below : List Frame} {meth : Method} {c : Code} {A : Nat → Prop} {D : va_G} {cs : Nat → ClassId} {ad : Nat → Nat} {court_shoeCount : Int32} {court_claimCount : Int32} {court_suitCount : Int32} {court_shoePerson : Nat → Int32} {court_shoeOther : Nat → Int32} {R : Int32 × Int32 × Int32 × Int32 × (Nat → Int64) × (Nat → Int64) × (Nat → Int32) × (Nat → Int32) × (Nat → Int32)} {g34 : Int32 → Int64 → Int32 → Int32 → Int32 → Int32 → (Nat → Int64) → (Nat → Int64) → (Nat → Int32) → (Nat → Int32) → (Nat → Int32) → (Option (Int32 × Int32 × Int32 × Int32 × (Nat → Int64) × (Nat → Int64) × (Nat → Int32) × (Nat → Int32) × (Nat → Int32)))} (C0 : zC p s m args meth c cX11_left 6 (some .int) RX11 zW) (hK : va_K D classes (zT cs) s) (hA : ∀ q : Nat, s.heap.size ≤ q → A q) (ih34 : ∀ (x2 : Int32) (x3 : Int64) (x5 : Int32) (inq_day : Int32) (inq_land : Int32) (inq_shoeLeftOut : Int32) (inq_judgedShoes : Nat → Int64) (inq_bindingShoes : Nat → Int64) (inq_boundAs : Nat → Int32) (inq_standing : Nat → Int32) (inq_arriving : Nat → Int32) (h : g34 x2 x3 x5 inq_day inq_land inq_shoeLeftOut inq_judgedShoes inq_bindingShoes inq_boundAs inq_standing inq_arriving = some R) (H : Heap) (locs : List Loc) (ls : Array Slot) (hP : va_P D classes (wl_X11_left ad cs court_shoeCount court_claimCount court_suitCount court_shoePerson court_shoeOther inq_day inq_land inq_shoeLeftOut inq_judgedShoes inq_bindingShoes inq_boundAs inq_standing inq_arriving) H) (hD : va_D A (wl_X11_left ad cs court_shoeCount court_claimCount court_suitCount court_shoePerson court_shoeOther inq_day inq_land inq_shoeLeftOut inq_judgedShoes inq_bindingShoes inq_boundAs inq_standing inq_arriving)) (hS : va_S A s.heap H locs) (hl : lv_has ls 6 [(0, .ref (ad 0)), (2, .int x2), (3, .long x3), (5, .int x5)]), W p l e rm_X11_left s m args below meth c H locs 0 0 (MQ below (Q_X11_left D cs ad court_shoeCount court_claimCount court_suitCount court_shoePerson court_shoeOther A R) args s 0 0 A) (F0 m 34 ls [])) (x2 : Int32) (x3 : Int64) (x5 : Int32) (inq_day : Int32) (inq_land : Int32) (inq_shoeLeftOut : Int32) (inq_judgedShoes : Nat → Int64) (inq_bindingShoes : Nat → Int64) (inq_boundAs : Nat → Int32) (inq_standing : Nat → Int32) (inq_arriving : Nat → Int32) (h : B_X11_left_34 g34 court_shoeCount court_claimCount court_suitCount court_shoePerson court_shoeOther x2 x3 x5 inq_day inq_land inq_shoeLeftOut inq_judgedShoes inq_bindingShoes inq_boundAs inq_standing inq_arriving = some R) (H : Heap) (locs : List Loc) (ls : Array Slot) (hP : va_P D classes (wl_X11_left ad cs court_shoeCount court_claimCount court_suitCount court_shoePerson court_shoeOther inq_day inq_land inq_shoeLeftOut inq_judgedShoes inq_bindingShoes inq_boundAs inq_standing inq_arriving) H) (hD : va_D A (wl_X11_left ad cs court_shoeCount court_claimCount court_suitCount court_shoePerson court_shoeOther inq_day inq_land inq_shoeLeftOut inq_judgedShoes inq_bindingShoes inq_boundAs inq_standing inq_arriving)) (hS : va_S A s.heap H locs) (hl : lv_has ls 6 [(0, .ref (ad 0)), (2, .int x2), (3, .long x3), (5, .int x5)]) : W p l e rm_X11_left s m args below meth c H locs 0 0 (MQ below (Q_X11_left D cs ad court_shoeCount court_claimCount court_suitCount court_shoePerson court_shoeOther A R) args s 0 0 A) (F0 m 34 ls []) := by
  obtain ⟨hx, hb, hr, hml, hown, ht, hlocks⟩ := id C0
  refine lv_iload hx hb dX11_left_34 (lv_at hl 3 rfl) ?_
  refine lv_aload_n hx hb dX11_left_36 rfl (lv_at hl 0 rfl) ?_
  refine va_get (D := D) (ci := 11) (v := .ref (ad 4)) (C := RX11) (T := TX11) (N := 11) hx hb ht iX11 hown hK hP 0 rfl rfl 0 (by decide) (ht _ kw_696) (fun _ h9 => h9) rfl dX11_left_37 ?_
  refine va_get (D := D) (ci := 2) (v := .int court_claimCount) (C := RX2) (T := TX2) (N := 13) hx hb ht iX2 hown hK hP 1 rfl rfl 11 (by decide) (ht _ kw_153) (fun _ h9 => h9) rfl dX11_left_40 ?_
  refine lv_icmp_ge (tgt := 73) hx hb dX11_left_43 (by decide) (fun c_15 => ?_) (fun c_15 => ?_)
  · have h := zk_t c_15 h
    refine lv_lload_n hx hb dX11_left_73 rfl (lv_at hl 2 rfl) ?_
    refine lv_iload_n hx hb dX11_left_74 rfl (lv_at hl 1 rfl) ?_
    obtain ⟨r_16, u_17, hc_18, h⟩ := zk_o2 h
    refine zk_si (post := (fun r u => (r, u) = (r_16, u_17))) (w1 := fun u => (wl_X11_bitOrSize ad cs )) (As := [.long x3, .int x2]) (rest := []) (c_X11_bitOrSize l D cs ad  H.size 4000 x3 x2 _ hc_18) ⟨hx, hb, hml, hown, ht⟩ (va_cwS 2 ht g_X11_258 rfl rfl rfl (by decide +kernel) ⟨Nat.le_of_ble_eq_true rfl, Nat.le_of_ble_eq_true rfl⟩) hP hD hS hK hA [] [0, 1, 2, 3, 4, 5, 6, 7, 8, 9] rfl rfl rfl rfl (by decide) rfl hl.1 (Nat.le_of_ble_eq_true rfl) dX11_left_75 ⟨Nat.zero_le _, Nat.zero_le _⟩ (fun r u H locs hq hP hD hS => ?_)
    cases hq
    have hP : va_P D classes (wl_X11_left ad cs court_shoeCount court_claimCount court_suitCount court_shoePerson court_shoeOther inq_day inq_land inq_shoeLeftOut inq_judgedShoes inq_bindingShoes inq_boundAs inq_standing inq_arriving) H := hP.sub [0, 1, 2, 3, 4, 5, 6, 7, 8, 9] rfl
    have hD : va_D A (wl_X11_left ad cs court_shoeCount court_claimCount court_suitCount court_shoePerson court_shoeOther inq_day inq_land inq_shoeLeftOut inq_judgedShoes inq_bindingShoes inq_boundAs inq_standing inq_arriving) := hD.sub [0, 1, 2, 3, 4, 5, 6, 7, 8, 9] rfl rfl
    exact W.iret (v := r_16) hx hb hr (fun t ht2 hW => ⟨⟨r_16, (inq_day, inq_land, inq_shoeLeftOut, inq_judgedShoes, inq_bindingShoes, inq_boundAs, inq_standing, inq_arriving), rfl, Option.some.inj h, by rw [ht2]; exact hP, hD⟩, hS.F ht2⟩) hS.2.2 dX11_left_78 hlocks
  · have h := zk_f c_15 h
    refine lv_aload_n hx hb dX11_left_46 rfl (lv_at hl 0 rfl) ?_
    refine va_get (D := D) (ci := 11) (v := .ref (ad 15)) (C := RX11) (T := TX11) (N := 11) hx hb ht iX11 hown hK hP 0 rfl rfl 1 (by decide) (ht _ kw_697) (fun _ h9 => h9) rfl dX11_left_47 ?_
    refine lv_iload hx hb dX11_left_50 (lv_at hl 3 rfl) ?_
    refine lv_iconst (v := (-1 : Int32)) hx hb dX11_left_52 (by decide) ?_
    refine lv_iconst (v := (-1 : Int32)) hx hb dX11_left_53 (by decide) ?_
    obtain ⟨r_19, u_20, hc_21, h⟩ := zk_o2 h
    refine zk_vi (post := (fun r u => (r, u) = (r_19, u_20))) (w1 := fun u => (wl_X3_firstCloser ad cs court_shoeCount court_claimCount court_suitCount inq_day inq_land inq_shoeLeftOut)) (As := [.int x5, .int (-1 : Int32), .int (-1 : Int32)]) (rest := []) (c_X3_firstCloser l D cs ad  H.size 4000 x5 (-1 : Int32) (-1 : Int32) court_shoeCount court_claimCount court_suitCount inq_day inq_land inq_shoeLeftOut _ hc_21) ⟨hx, hb, hml, hown, ht⟩ (cwV 3 ht g_X11_249 rfl rfl rfl (by decide +kernel) ⟨Nat.le_of_ble_eq_true rfl, Nat.le_of_ble_eq_true rfl⟩) (va_recv hK hP (ci := 3) (q0 := 4) rfl rfl) hP hD hS hK hA [1, 4] [0, 2, 3, 5, 6, 7, 8, 9] rfl rfl rfl rfl (by decide) rfl hl.1 (Nat.le_of_ble_eq_true rfl) dX11_left_54 ⟨Nat.zero_le _, Nat.zero_le _⟩ (fun r u H locs hq hP hD hS => ?_)
    cases hq
    have hP : va_P D classes (wl_X11_left ad cs court_shoeCount court_claimCount court_suitCount court_shoePerson court_shoeOther inq_day inq_land inq_shoeLeftOut inq_judgedShoes inq_bindingShoes inq_boundAs inq_standing inq_arriving) H := hP.sub [0, 8, 1, 2, 9, 3, 4, 5, 6, 7] rfl
    have hD : va_D A (wl_X11_left ad cs court_shoeCount court_claimCount court_suitCount court_shoePerson court_shoeOther inq_day inq_land inq_shoeLeftOut inq_judgedShoes inq_bindingShoes inq_boundAs inq_standing inq_arriving) := hD.sub [0, 8, 1, 2, 9, 3, 4, 5, 6, 7] rfl rfl
    refine lv_if_ge (tgt := 67) hx hb dX11_left_57 (by decide) (fun c_22 => ?_) (fun c_22 => ?_)
    · have h := zk_t c_22 h
      exact L_X11_left_67 C0 hK hA  ih34 x2 x3 x5 inq_day inq_land inq_shoeLeftOut inq_judgedShoes inq_bindingShoes inq_boundAs inq_standing inq_arriving h H locs ls hP hD hS (lv_sub hl [0, 1, 2, 3] rfl)
    · have h := zk_f c_22 h
      refine lv_lload_n hx hb dX11_left_60 rfl (lv_at hl 2 rfl) ?_
      refine lv_lconst (v := (1 : Int64)) hx hb dX11_left_61 (by decide) ?_
      refine lv_iload hx hb dX11_left_62 (lv_at hl 3 rfl) ?_
      refine lv_lshl (v := (1 : Int64) <<< (x5.toInt64 &&& 63)) hx hb dX11_left_64 rfl ?_
      refine lv_lor hx hb dX11_left_65 ?_
      obtain ⟨v_23, ev_23, h⟩ := zk_lt h
      refine W.eq (g2 := F0 m 66 ls [.long v_23]) (by rw [ev_23]) ?_
      refine lv_lstore_n (lv' := [(3, .long v_23), (0, .ref (ad 0)), (2, .int x2), (5, .int x5)]) hx hb dX11_left_66 rfl hl (by decide) rfl (fun ls hl => ?_)
      exact L_X11_left_67 C0 hK hA  ih34 x2 v_23 x5 inq_day inq_land inq_shoeLeftOut inq_judgedShoes inq_bindingShoes inq_boundAs inq_standing inq_arriving h H locs ls hP hD hS (lv_sub hl [1, 2, 0, 3] rfl)
set_option maxHeartbeats 4000000 in
set_option maxRecDepth 100000 in
theorem L_X11_left_0 {p : Program} {l : Launch} {e : Env} {s : State} {m : MethodId} {args : Array Value} {below : List Frame} {meth : Method} {c : Code} {A : Nat → Prop} {D : va_G} {cs : Nat → ClassId} {ad : Nat → Nat} {court_shoeCount : Int32} {court_claimCount : Int32} {court_suitCount : Int32} {court_shoePerson : Nat → Int32} {court_shoeOther : Nat → Int32} {R : Int32 × Int32 × Int32 × Int32 × (Nat → Int64) × (Nat → Int64) × (Nat → Int32) × (Nat → Int32) × (Nat → Int32)} {g34 : Int32 → Int64 → Int32 → Int32 → Int32 → Int32 → (Nat → Int64) → (Nat → Int64) → (Nat → Int32) → (Nat → Int32) → (Nat → Int32) → (Option (Int32 × Int32 × Int32 × Int32 × (Nat → Int64) × (Nat → Int64) × (Nat → Int32) × (Nat → Int32) × (Nat → Int32)))} (C0 : zC p s m args meth c cX11_left 6 (some .int) RX11 zW) (hK : va_K D classes (zT cs) s) (hA : ∀ q : Nat, s.heap.size ≤ q → A q) (ih34 : ∀ (x2 : Int32) (x3 : Int64) (x5 : Int32) (inq_day : Int32) (inq_land : Int32) (inq_shoeLeftOut : Int32) (inq_judgedShoes : Nat → Int64) (inq_bindingShoes : Nat → Int64) (inq_boundAs : Nat → Int32) (inq_standing : Nat → Int32) (inq_arriving : Nat → Int32) (h : g34 x2 x3 x5 inq_day inq_land inq_shoeLeftOut inq_judgedShoes inq_bindingShoes inq_boundAs inq_standing inq_arriving = some R) (H : Heap) (locs : List Loc) (ls : Array Slot) (hP : va_P D classes (wl_X11_left ad cs court_shoeCount court_claimCount court_suitCount court_shoePerson court_shoeOther inq_day inq_land inq_shoeLeftOut inq_judgedShoes inq_bindingShoes inq_boundAs inq_standing inq_arriving) H) (hD : va_D A (wl_X11_left ad cs court_shoeCount court_claimCount court_suitCount court_shoePerson court_shoeOther inq_day inq_land inq_shoeLeftOut inq_judgedShoes inq_bindingShoes inq_boundAs inq_standing inq_arriving)) (hS : va_S A s.heap H locs) (hl : lv_has ls 6 [(0, .ref (ad 0)), (2, .int x2), (3, .long x3), (5, .int x5)]), W p l e rm_X11_left s m args below meth c H locs 0 0 (MQ below (Q_X11_left D cs ad court_shoeCount court_claimCount court_suitCount court_shoePerson court_shoeOther A R) args s 0 0 A) (F0 m 34 ls [])) (x1 : Int32) (x2 : Int32) (inq_day : Int32) (inq_land : Int32) (inq_shoeLeftOut : Int32) (inq_judgedShoes : Nat → Int64) (inq_bindingShoes : Nat → Int64) (inq_boundAs : Nat → Int32) (inq_standing : Nat → Int32) (inq_arriving : Nat → Int32) (h : B_X11_left_0 g34 court_shoeCount court_claimCount court_suitCount court_shoePerson court_shoeOther x1 x2 inq_day inq_land inq_shoeLeftOut inq_judgedShoes inq_bindingShoes inq_boundAs inq_standing inq_arriving = some R) (H : Heap) (locs : List Loc) (ls : Array Slot) (hP : va_P D classes (wl_X11_left ad cs court_shoeCount court_claimCount court_suitCount court_shoePerson court_shoeOther inq_day inq_land inq_shoeLeftOut inq_judgedShoes inq_bindingShoes inq_boundAs inq_standing inq_arriving) H) (hD : va_D A (wl_X11_left ad cs court_shoeCount court_claimCount court_suitCount court_shoePerson court_shoeOther inq_day inq_land inq_shoeLeftOut inq_judgedShoes inq_bindingShoes inq_boundAs inq_standing inq_arriving)) (hS : va_S A s.heap H locs) (hl : lv_has ls 6 [(0, .ref (ad 0)), (1, .int x1), (2, .int x2)]) : W p l e rm_X11_left s m args below meth c H locs 0 0 (MQ below (Q_X11_left D cs ad court_shoeCount court_claimCount court_suitCount court_shoePerson court_shoeOther A R) args s 0 0 A) (F0 m 0 ls []) := by
  obtain ⟨hx, hb, hr, hml, hown, ht, hlocks⟩ := id C0
  refine lv_iload_n hx hb dX11_left_0 rfl (lv_at hl 1 rfl) ?_
  obtain ⟨r_1, u_2, hc_3, h⟩ := zk_o2 h
  refine zk_si (post := (fun r u => (r, u) = (r_1, u_2))) (w1 := fun u => (wl_X11_isWhen ad cs )) (As := [.int x1]) (rest := []) (c_X11_isWhen l D cs ad  H.size x1 _ hc_3) ⟨hx, hb, hml, hown, ht⟩ (va_cwS 1 ht g_X11_243 rfl rfl rfl (by decide +kernel) ⟨Nat.le_of_ble_eq_true rfl, Nat.le_of_ble_eq_true rfl⟩) hP hD hS hK hA [] [0, 1, 2, 3, 4, 5, 6, 7, 8, 9] rfl rfl rfl rfl (by decide) rfl hl.1 (Nat.le_of_ble_eq_true rfl) dX11_left_1 ⟨Nat.zero_le _, Nat.zero_le _⟩ (fun r u H locs hq hP hD hS => ?_)
  cases hq
  have hP : va_P D classes (wl_X11_left ad cs court_shoeCount court_claimCount court_suitCount court_shoePerson court_shoeOther inq_day inq_land inq_shoeLeftOut inq_judgedShoes inq_bindingShoes inq_boundAs inq_standing inq_arriving) H := hP.sub [0, 1, 2, 3, 4, 5, 6, 7, 8, 9] rfl
  have hD : va_D A (wl_X11_left ad cs court_shoeCount court_claimCount court_suitCount court_shoePerson court_shoeOther inq_day inq_land inq_shoeLeftOut inq_judgedShoes inq_bindingShoes inq_boundAs inq_standing inq_arriving) := hD.sub [0, 1, 2, 3, 4, 5, 6, 7, 8, 9] rfl rfl
  refine lv_if_eq (tgt := 12) hx hb dX11_left_4 (by decide) (fun c_4 => ?_) (fun c_4 => ?_)
  · have h := zk_t c_4 h
    refine lv_iconst (v := (-1 : Int32)) hx hb dX11_left_12 (by decide) ?_
    exact W.iret (v := (-1 : Int32)) hx hb hr (fun t ht2 hW => ⟨⟨(-1 : Int32), (inq_day, inq_land, inq_shoeLeftOut, inq_judgedShoes, inq_bindingShoes, inq_boundAs, inq_standing, inq_arriving), rfl, Option.some.inj h, by rw [ht2]; exact hP, hD⟩, hS.F ht2⟩) hS.2.2 dX11_left_13 hlocks
  · have h := zk_f c_4 h
    refine lv_iload_n hx hb dX11_left_7 rfl (lv_at hl 2 rfl) ?_
    refine lv_iconst (v := (-1 : Int32)) hx hb dX11_left_8 (by decide) ?_
    refine lv_icmp_ge (tgt := 14) hx hb dX11_left_9 (by decide) (fun c_5 => ?_) (fun c_5 => ?_)
    · have h := zk_t c_5 h
      refine lv_aload_n hx hb dX11_left_14 rfl (lv_at hl 0 rfl) ?_
      refine va_get (D := D) (ci := 11) (v := .ref (ad 15)) (C := RX11) (T := TX11) (N := 11) hx hb ht iX11 hown hK hP 0 rfl rfl 1 (by decide) (ht _ kw_697) (fun _ h9 => h9) rfl dX11_left_15 ?_
      refine lv_iload_n hx hb dX11_left_18 rfl (lv_at hl 1 rfl) ?_
      refine lv_bipush (v := (10 : Int32)) hx hb dX11_left_19 (by decide) ?_
      refine lv_idiv hx hb dX11_left_21 (by decide) ?_
      refine lv_iload_n hx hb dX11_left_22 rfl (lv_at hl 1 rfl) ?_
      refine lv_bipush (v := (10 : Int32)) hx hb dX11_left_23 (by decide) ?_
      refine lv_irem hx hb dX11_left_25 (by decide) ?_
      obtain ⟨u_6, u_7, u_8, u_9, u_10, u_11, u_12, u_13, hc_14, h⟩ := zk_o8 h
      refine zk_vv (post := (fun u => u = (u_6, u_7, u_8, u_9, u_10, u_11, u_12, u_13))) (w1 := fun u => (wl_X3_open ad cs court_shoeCount court_claimCount court_suitCount court_shoePerson court_shoeOther u.1 u.2.1 u.2.2.1 u.2.2.2.1 u.2.2.2.2.1 u.2.2.2.2.2.1 u.2.2.2.2.2.2.1 u.2.2.2.2.2.2.2)) (As := [.int (x1 / (10 : Int32)), .int (x1 - x1 / (10 : Int32) * (10 : Int32))]) (rest := []) (c_X3_open l D cs ad  H.size (x1 / (10 : Int32)) (x1 - x1 / (10 : Int32) * (10 : Int32)) court_shoeCount court_claimCount court_suitCount court_shoePerson court_shoeOther inq_day inq_land inq_shoeLeftOut inq_judgedShoes inq_bindingShoes inq_boundAs inq_standing inq_arriving _ hc_14) ⟨hx, hb, hml, hown, ht⟩ (cwV 2 ht g_X11_246 rfl rfl rfl (by decide +kernel) ⟨Nat.le_of_ble_eq_true rfl, Nat.le_of_ble_eq_true rfl⟩) (va_recv hK hP (ci := 3) (q0 := 4) rfl rfl) hP hD hS hK hA [1, 2, 3, 4, 5, 6, 7, 8, 9] [0] rfl rfl rfl rfl (by decide) rfl hl.1 (Nat.le_of_ble_eq_true rfl) dX11_left_26 ⟨Nat.zero_le _, Nat.zero_le _⟩ (fun u H locs hq hP hD hS => ?_)
      cases hq
      have hP : va_P D classes (wl_X11_left ad cs court_shoeCount court_claimCount court_suitCount court_shoePerson court_shoeOther u_6 u_7 u_8 u_9 u_10 u_11 u_12 u_13) H := hP.sub [0, 1, 2, 3, 4, 5, 6, 7, 8, 9] rfl
      have hD : va_D A (wl_X11_left ad cs court_shoeCount court_claimCount court_suitCount court_shoePerson court_shoeOther u_6 u_7 u_8 u_9 u_10 u_11 u_12 u_13) := hD.sub [0, 1, 2, 3, 4, 5, 6, 7, 8, 9] rfl rfl
      refine lv_lconst (v := (0 : Int64)) hx hb dX11_left_29 (by decide) ?_
      refine lv_lstore_n (lv' := [(3, .long (0 : Int64)), (0, .ref (ad 0)), (1, .int x1), (2, .int x2)]) hx hb dX11_left_30 rfl hl (by decide) rfl (fun ls hl => ?_)
      refine lv_iconst (v := (0 : Int32)) hx hb dX11_left_31 (by decide) ?_
      refine lv_istore (lv' := [(5, .int (0 : Int32)), (3, .long (0 : Int64)), (0, .ref (ad 0)), (1, .int x1), (2, .int x2)]) hx hb dX11_left_32 hl (by decide) rfl (fun ls hl => ?_)
      exact ih34 x2 (0 : Int64) (0 : Int32) u_6 u_7 u_8 u_9 u_10 u_11 u_12 u_13 h H locs ls hP hD hS (lv_sub hl [2, 4, 1, 0] rfl)
    · have h := zk_f c_5 h
      refine lv_iconst (v := (-1 : Int32)) hx hb dX11_left_12 (by decide) ?_
      exact W.iret (v := (-1 : Int32)) hx hb hr (fun t ht2 hW => ⟨⟨(-1 : Int32), (inq_day, inq_land, inq_shoeLeftOut, inq_judgedShoes, inq_bindingShoes, inq_boundAs, inq_standing, inq_arriving), rfl, Option.some.inj h, by rw [ht2]; exact hP, hD⟩, hS.F ht2⟩) hS.2.2 dX11_left_13 hlocks
theorem LG_X11_left {p : Program} {l : Launch} {e : Env} {s : State} {m : MethodId} {args : Array Value} {below : List Frame} {meth : Method} {c : Code} {A : Nat → Prop} {D : va_G} {cs : Nat → ClassId} {ad : Nat → Nat} {court_shoeCount : Int32} {court_claimCount : Int32} {court_suitCount : Int32} {court_shoePerson : Nat → Int32} {court_shoeOther : Nat → Int32} {R : Int32 × Int32 × Int32 × Int32 × (Nat → Int64) × (Nat → Int64) × (Nat → Int32) × (Nat → Int32) × (Nat → Int32)} (C0 : zC p s m args meth c cX11_left 6 (some .int) RX11 zW) (hK : va_K D classes (zT cs) s) (hA : ∀ q : Nat, s.heap.size ≤ q → A q) : ∀ n : Nat, (∀ (x2 : Int32) (x3 : Int64) (x5 : Int32) (inq_day : Int32) (inq_land : Int32) (inq_shoeLeftOut : Int32) (inq_judgedShoes : Nat → Int64) (inq_bindingShoes : Nat → Int64) (inq_boundAs : Nat → Int32) (inq_standing : Nat → Int32) (inq_arriving : Nat → Int32) (h : (G_X11_left   court_shoeCount court_claimCount court_suitCount court_shoePerson court_shoeOther n) x2 x3 x5 inq_day inq_land inq_shoeLeftOut inq_judgedShoes inq_bindingShoes inq_boundAs inq_standing inq_arriving = some R) (H : Heap) (locs : List Loc) (ls : Array Slot) (hP : va_P D classes (wl_X11_left ad cs court_shoeCount court_claimCount court_suitCount court_shoePerson court_shoeOther inq_day inq_land inq_shoeLeftOut inq_judgedShoes inq_bindingShoes inq_boundAs inq_standing inq_arriving) H) (hD : va_D A (wl_X11_left ad cs court_shoeCount court_claimCount court_suitCount court_shoePerson court_shoeOther inq_day inq_land inq_shoeLeftOut inq_judgedShoes inq_bindingShoes inq_boundAs inq_standing inq_arriving)) (hS : va_S A s.heap H locs) (hl : lv_has ls 6 [(0, .ref (ad 0)), (2, .int x2), (3, .long x3), (5, .int x5)]), W p l e rm_X11_left s m args below meth c H locs 0 0 (MQ below (Q_X11_left D cs ad court_shoeCount court_claimCount court_suitCount court_shoePerson court_shoeOther A R) args s 0 0 A) (F0 m 34 ls [])) := by
  intro n
  induction n with
  | zero =>
    refine ?_ <;> (intros; rename_i h _ _ _ _ _ _ _; cases h)
  | succ n ih =>
    exact L_X11_left_34 C0 hK hA  ih
set_option maxHeartbeats 4000000 in
set_option maxRecDepth 100000 in
theorem c_X11_left (l : Launch) (D : va_G) (cs : Nat → ClassId) (ad : Nat → Nat) (sz : Nat) (n : Nat) (x1 : Int32) (x2 : Int32) (court_shoeCount : Int32) (court_claimCount : Int32) (court_suitCount : Int32) (court_shoePerson : Nat → Int32) (court_shoeOther : Nat → Int32) (inq_day : Int32) (inq_land : Int32) (inq_shoeLeftOut : Int32) (inq_judgedShoes : Nat → Int64) (inq_bindingShoes : Nat → Int64) (inq_boundAs : Nat → Int32) (inq_standing : Nat → Int32) (inq_arriving : Nat → Int32) (R : Int32 × Int32 × Int32 × Int32 × (Nat → Int64) × (Nat → Int64) × (Nat → Int32) × (Nat → Int32) × (Nat → Int32)) (h : f_X11_left   n x1 x2 court_shoeCount court_claimCount court_suitCount court_shoePerson court_shoeOther inq_day inq_land inq_shoeLeftOut inq_judgedShoes inq_bindingShoes inq_boundAs inq_standing inq_arriving = some R) : Met l yX11_left (z_X11_left) rm_X11_left (va_Pc [.ref (ad 0), .int x1, .int x2] (zPre D cs (wl_X11_left ad cs court_shoeCount court_claimCount court_suitCount court_shoePerson court_shoeOther inq_day inq_land inq_shoeLeftOut inq_judgedShoes inq_bindingShoes inq_boundAs inq_standing inq_arriving) sz)) (Q_X11_left D cs ad court_shoeCount court_claimCount court_suitCount court_shoePerson court_shoeOther (va_A (wl_X11_left ad cs court_shoeCount court_claimCount court_suitCount court_shoePerson court_shoeOther inq_day inq_land inq_shoeLeftOut inq_judgedShoes inq_bindingShoes inq_boundAs inq_standing inq_arriving) sz) R) 0 0 (va_A (wl_X11_left ad cs court_shoeCount court_claimCount court_suitCount court_shoePerson court_shoeOther inq_day inq_land inq_shoeLeftOut inq_judgedShoes inq_bindingShoes inq_boundAs inq_standing inq_arriving) sz) := by
  refine Met.ofW (cc := cX11_left) (maxL := 6) (ret := (some .int)) (by decide) rfl ?_
  intro p e s m args below meth c s₁ B hml hv
  obtain ⟨rfl, hsz, hP, hK, hD0⟩ := hv
  subst hsz
  have hD := hD0.self (sz := s.heap.size)
  have C0 : zC p s m _ meth c cX11_left 6 (some .int) RX11 zW := ⟨B.exec, B.bytes, B.returns, hml, findClass_of_methodNamed B.named, fun w hw => atoms_spec (ws := z_X11_left) B.pre w (List.mem_cons_of_mem _ hw), B.notSynchronized⟩
  have hA : ∀ q : Nat, s.heap.size ≤ q → va_A (wl_X11_left ad cs court_shoeCount court_claimCount court_suitCount court_shoePerson court_shoeOther inq_day inq_land inq_shoeLeftOut inq_judgedShoes inq_bindingShoes inq_boundAs inq_standing inq_arriving) s.heap.size q := fun q h => Or.inr h
  have hl := lv_entry ([.ref (ad 0), .int x1, .int x2]) (n := 6) (Nat.le_of_ble_eq_true rfl)
  rw [lg_entry_eq]
  generalize (lg_sl ([.ref (ad 0), .int x1, .int x2]) ++ List.replicate (6 - (lg_sl ([.ref (ad 0), .int x1, .int x2])).length) Slot.unset).toArray = ls at hl ⊢
  exact L_X11_left_0 C0 hK hA  ((LG_X11_left C0 hK hA  n)) x1 x2 inq_day inq_land inq_shoeLeftOut inq_judgedShoes inq_bindingShoes inq_boundAs inq_standing inq_arriving h s.heap [] ls hP hD va_S.rf hl
theorem dX11_lost_0 : decode cX11_lost 0 = .ok (.aload_n 0, 1) := by decide +kernel
theorem dX11_lost_1 : decode cX11_lost 1 = .ok (.getfield 10, 3) := by decide +kernel
theorem dX11_lost_4 : decode cX11_lost 4 = .ok (.iload_n 1, 1) := by decide +kernel
theorem dX11_lost_5 : decode cX11_lost 5 = .ok (.invokevirtual 207, 3) := by decide +kernel
theorem dX11_lost_8 : decode cX11_lost 8 = .ok (.astore_n 3, 1) := by decide +kernel
theorem dX11_lost_9 : decode cX11_lost 9 = .ok (.aload_n 3, 1) := by decide +kernel
theorem dX11_lost_10 : decode cX11_lost 10 = .ok (.ifnull 8, 3) := by decide +kernel
theorem dX11_lost_18 : decode cX11_lost 18 = .ok (.iconst (-1), 1) := by decide +kernel
theorem dX11_lost_19 : decode cX11_lost 19 = .ok (.ireturn, 1) := by decide +kernel
theorem dX11_lost_41 : decode cX11_lost 41 = .ok (.iload 6, 2) := by decide +kernel
theorem dX11_lost_43 : decode cX11_lost 43 = .ok (.aload_n 0, 1) := by decide +kernel
theorem dX11_lost_44 : decode cX11_lost 44 = .ok (.getfield 10, 3) := by decide +kernel
theorem dX11_lost_47 : decode cX11_lost 47 = .ok (.getfield 194, 3) := by decide +kernel
theorem dX11_lost_50 : decode cX11_lost 50 = .ok (.if_icmp .ge 41, 3) := by decide +kernel
theorem dX11_lost_53 : decode cX11_lost 53 = .ok (.aload_n 3, 1) := by decide +kernel
theorem dX11_lost_54 : decode cX11_lost 54 = .ok (.iload 6, 2) := by decide +kernel
theorem dX11_lost_85 : decode cX11_lost 85 = .ok (.iinc 6 1, 3) := by decide +kernel
theorem dX11_lost_88 : decode cX11_lost 88 = .ok (.goto (-47), 3) := by decide +kernel
theorem dX11_lost_91 : decode cX11_lost 91 = .ok (.lload 4, 2) := by decide +kernel
theorem dX11_lost_93 : decode cX11_lost 93 = .ok (.iload_n 2, 1) := by decide +kernel
theorem dX11_lost_94 : decode cX11_lost 94 = .ok (.invokestatic 258, 3) := by decide +kernel
theorem dX11_lost_97 : decode cX11_lost 97 = .ok (.ireturn, 1) := by decide +kernel
abbrev z_X11_lost : List Cond := .code yX11_lost cX11_lost 7 (some .int) :: zW
abbrev wl_X11_lost (ad : Nat → Nat) (cs : Nat → ClassId)  (court_shoeCount : Int32) (court_claimCount : Int32) (court_suitCount : Int32) (court_shoePerson : Nat → Int32) (court_shoeOther : Nat → Int32) (inq_day : Int32) (inq_land : Int32) (inq_shoeLeftOut : Int32) (inq_judgedShoes : Nat → Int64) (inq_bindingShoes : Nat → Int64) (inq_boundAs : Nat → Int32) (inq_standing : Nat → Int32) (inq_arriving : Nat → Int32) : va_W := [((ad 0), .inr (11, [.ref (ad 4), .ref (ad 15), .ref (ad 23), .ref (ad 25), .ref (ad 26), .ref (ad 28), .ref (ad 34), .ref (ad 39), .ref (ad 1), .ref (ad 2), .ref (ad 3)])), ((ad 4), .inr (2, [.ref (ad 5), .ref (ad 6), .ref (ad 7), .ref (ad 8), .ref (ad 9), .ref (ad 10), .ref (ad 11), .ref (ad 12), .ref (ad 13), .ref (ad 14), .int court_shoeCount, .int court_claimCount, .int court_suitCount])), ((ad 5), .inl (cs 0, 40, .inl court_shoePerson)), ((ad 6), .inl (cs 0, 40, .inl court_shoeOther)), ((ad 15), .inr (3, [.ref (ad 4), .ref (ad 16), .ref (ad 17), .ref (ad 18), .ref (ad 19), .ref (ad 20), .ref (ad 21), .ref (ad 22), .int inq_day, .int inq_land, .int inq_shoeLeftOut])), ((ad 18), .inl (cs 1, 7, .inr (.inl inq_judgedShoes))), ((ad 19), .inl (cs 1, 7, .inr (.inl inq_bindingShoes))), ((ad 20), .inl (cs 0, 20, .inl inq_boundAs)), ((ad 21), .inl (cs 0, 20, .inl inq_standing)), ((ad 22), .inl (cs 0, 20, .inl inq_arriving))]
def Q_X11_lost (D : va_G) (cs : Nat → ClassId) (ad : Nat → Nat)  (court_shoeCount : Int32) (court_claimCount : Int32) (court_suitCount : Int32) (court_shoePerson : Nat → Int32) (court_shoeOther : Nat → Int32) (A : Nat → Prop) (R : Int32 × Int32 × Int32 × Int32 × (Nat → Int64) × (Nat → Int64) × (Nat → Int32) × (Nat → Int32) × (Nat → Int32)) : Array Value → State → Outcome → State → Prop :=
  va_Qi (fun (r : Int32) (u : Int32 × Int32 × Int32 × (Nat → Int64) × (Nat → Int64) × (Nat → Int32) × (Nat → Int32) × (Nat → Int32)) => (r, u) = R) (fun (u : Int32 × Int32 × Int32 × (Nat → Int64) × (Nat → Int64) × (Nat → Int32) × (Nat → Int32) × (Nat → Int32)) (t : State) => va_P D classes (wl_X11_lost ad cs court_shoeCount court_claimCount court_suitCount court_shoePerson court_shoeOther u.1 u.2.1 u.2.2.1 u.2.2.2.1 u.2.2.2.2.1 u.2.2.2.2.2.1 u.2.2.2.2.2.2.1 u.2.2.2.2.2.2.2) t.heap ∧ va_D A (wl_X11_lost ad cs court_shoeCount court_claimCount court_suitCount court_shoePerson court_shoeOther u.1 u.2.1 u.2.2.1 u.2.2.2.1 u.2.2.2.2.1 u.2.2.2.2.2.1 u.2.2.2.2.2.2.1 u.2.2.2.2.2.2.2)) A
abbrev rm_X11_lost : Room := { frames := 2, cells := 0, slots := 0, locals := 45 }
def B_X11_lost_85   (g41 : Int32 → Int64 → Int32 → Int32 → Int32 → Int32 → (Nat → Int64) → (Nat → Int64) → (Nat → Int32) → (Nat → Int32) → (Nat → Int32) → (Option (Int32 × Int32 × Int32 × Int32 × (Nat → Int64) × (Nat → Int64) × (Nat → Int32) × (Nat → Int32) × (Nat → Int32)))) (court_shoeCount : Int32) (court_claimCount : Int32) (court_suitCount : Int32) (court_shoePerson : Nat → Int32) (court_shoeOther : Nat → Int32) (x2 : Int32) (x4 : Int64) (x6 : Int32) (inq_day : Int32) (inq_land : Int32) (inq_shoeLeftOut : Int32) (inq_judgedShoes : Nat → Int64) (inq_bindingShoes : Nat → Int64) (inq_boundAs : Nat → Int32) (inq_standing : Nat → Int32) (inq_arriving : Nat → Int32) : Option (Int32 × Int32 × Int32 × Int32 × (Nat → Int64) × (Nat → Int64) × (Nat → Int32) × (Nat → Int32) × (Nat → Int32)) :=
  (zk_let (x6 + (1 : Int32)) (fun v_9 => (g41 x2 x4 v_9 inq_day inq_land inq_shoeLeftOut inq_judgedShoes inq_bindingShoes inq_boundAs inq_standing inq_arriving)))
def B_X11_lost_41   (g41 : Int32 → Int64 → Int32 → Int32 → Int32 → Int32 → (Nat → Int64) → (Nat → Int64) → (Nat → Int32) → (Nat → Int32) → (Nat → Int32) → (Option (Int32 × Int32 × Int32 × Int32 × (Nat → Int64) × (Nat → Int64) × (Nat → Int32) × (Nat → Int32) × (Nat → Int32)))) (court_shoeCount : Int32) (court_claimCount : Int32) (court_suitCount : Int32) (court_shoePerson : Nat → Int32) (court_shoeOther : Nat → Int32) (x2 : Int32) (x4 : Int64) (x6 : Int32) (inq_day : Int32) (inq_land : Int32) (inq_shoeLeftOut : Int32) (inq_judgedShoes : Nat → Int64) (inq_bindingShoes : Nat → Int64) (inq_boundAs : Nat → Int32) (inq_standing : Nat → Int32) (inq_arriving : Nat → Int32) : Option (Int32 × Int32 × Int32 × Int32 × (Nat → Int64) × (Nat → Int64) × (Nat → Int32) × (Nat → Int32) × (Nat → Int32)) :=
  (if court_claimCount ≤ x6 then (zk_b2 (f_X11_bitOrSize 4000 x4 x2) (fun r_6 u_7 => (some (r_6, inq_day, inq_land, inq_shoeLeftOut, inq_judgedShoes, inq_bindingShoes, inq_boundAs, inq_standing, inq_arriving)))) else none)
def B_X11_lost_0   (g41 : Int32 → Int64 → Int32 → Int32 → Int32 → Int32 → (Nat → Int64) → (Nat → Int64) → (Nat → Int32) → (Nat → Int32) → (Nat → Int32) → (Option (Int32 × Int32 × Int32 × Int32 × (Nat → Int64) × (Nat → Int64) × (Nat → Int32) × (Nat → Int32) × (Nat → Int32)))) (court_shoeCount : Int32) (court_claimCount : Int32) (court_suitCount : Int32) (court_shoePerson : Nat → Int32) (court_shoeOther : Nat → Int32) (x1 : Int32) (x2 : Int32) (inq_day : Int32) (inq_land : Int32) (inq_shoeLeftOut : Int32) (inq_judgedShoes : Nat → Int64) (inq_bindingShoes : Nat → Int64) (inq_boundAs : Nat → Int32) (inq_standing : Nat → Int32) (inq_arriving : Nat → Int32) : Option (Int32 × Int32 × Int32 × Int32 × (Nat → Int64) × (Nat → Int64) × (Nat → Int32) × (Nat → Int32) × (Nat → Int32)) :=
  (zk_b2 (f_X2_suitAt x1 court_shoeCount court_claimCount court_suitCount) (fun r_1 u_2 => (if r_1 = true then none else (some ((-1 : Int32), inq_day, inq_land, inq_shoeLeftOut, inq_judgedShoes, inq_bindingShoes, inq_boundAs, inq_standing, inq_arriving)))))
def G_X11_lost   (court_shoeCount : Int32) (court_claimCount : Int32) (court_suitCount : Int32) (court_shoePerson : Nat → Int32) (court_shoeOther : Nat → Int32) (n : Nat) : (Int32 → Int64 → Int32 → Int32 → Int32 → Int32 → (Nat → Int64) → (Nat → Int64) → (Nat → Int32) → (Nat → Int32) → (Nat → Int32) → (Option (Int32 × Int32 × Int32 × Int32 × (Nat → Int64) × (Nat → Int64) × (Nat → Int32) × (Nat → Int32) × (Nat → Int32)))) :=
  Nat.rec (motive := fun _ => (Int32 → Int64 → Int32 → Int32 → Int32 → Int32 → (Nat → Int64) → (Nat → Int64) → (Nat → Int32) → (Nat → Int32) → (Nat → Int32) → (Option (Int32 × Int32 × Int32 × Int32 × (Nat → Int64) × (Nat → Int64) × (Nat → Int32) × (Nat → Int32) × (Nat → Int32))))) ((fun _ _ _ _ _ _ _ _ _ _ _ => none)) (fun _ ih => (B_X11_lost_41   ih court_shoeCount court_claimCount court_suitCount court_shoePerson court_shoeOther)) n
def f_X11_lost   (n : Nat) (x1 : Int32) (x2 : Int32) (court_shoeCount : Int32) (court_claimCount : Int32) (court_suitCount : Int32) (court_shoePerson : Nat → Int32) (court_shoeOther : Nat → Int32) (inq_day : Int32) (inq_land : Int32) (inq_shoeLeftOut : Int32) (inq_judgedShoes : Nat → Int64) (inq_bindingShoes : Nat → Int64) (inq_boundAs : Nat → Int32) (inq_standing : Nat → Int32) (inq_arriving : Nat → Int32) : Option (Int32 × Int32 × Int32 × Int32 × (Nat → Int64) × (Nat → Int64) × (Nat → Int32) × (Nat → Int32) × (Nat → Int32)) := B_X11_lost_0   ((G_X11_lost   court_shoeCount court_claimCount court_suitCount court_shoePerson court_shoeOther n)) court_shoeCount court_claimCount court_suitCount court_shoePerson court_shoeOther x1 x2 inq_day inq_land inq_shoeLeftOut inq_judgedShoes inq_bindingShoes inq_boundAs inq_standing inq_arriving
set_option maxHeartbeats 4000000 in
set_option maxRecDepth 100000 in
theorem L_X11_lost_85 {p : Program} {l : Launch} {e : Env} {s : State} {m : MethodId} {args : Array Value} {below : List Frame} {meth : Method} {c : Code} {A : Nat → Prop} {D : va_G} {cs : Nat → ClassId} {ad : Nat → Nat} {court_shoeCount : Int32} {court_claimCount : Int32} {court_suitCount : Int32} {court_shoePerson : Nat → Int32} {court_shoeOther : Nat → Int32} {R : Int32 × Int32 × Int32 × Int32 × (Nat → Int64) × (Nat → Int64) × (Nat → Int32) × (Nat → Int32) × (Nat → Int32)} {g41 : Int32 → Int64 → Int32 → Int32 → Int32 → Int32 → (Nat → Int64) → (Nat → Int64) → (Nat → Int32) → (Nat → Int32) → (Nat → Int32) → (Option (Int32 × Int32 × Int32 × Int32 × (Nat → Int64) × (Nat → Int64) × (Nat → Int32) × (Nat → Int32) × (Nat → Int32)))} (C0 : zC p s m args meth c cX11_lost 7 (some .int) RX11 zW) (hK : va_K D classes (zT cs) s) (hA : ∀ q : Nat, s.heap.size ≤ q → A q) (ih41 : ∀ (x2 : Int32) (x4 : Int64) (x6 : Int32) (inq_day : Int32) (inq_land : Int32) (inq_shoeLeftOut : Int32) (inq_judgedShoes : Nat → Int64) (inq_bindingShoes : Nat → Int64) (inq_boundAs : Nat → Int32) (inq_standing : Nat → Int32) (inq_arriving : Nat → Int32) (h : g41 x2 x4 x6 inq_day inq_land inq_shoeLeftOut inq_judgedShoes inq_bindingShoes inq_boundAs inq_standing inq_arriving = some R) (H : Heap) (locs : List Loc) (ls : Array Slot) (hP : va_P D classes (wl_X11_lost ad cs court_shoeCount court_claimCount court_suitCount court_shoePerson court_shoeOther inq_day inq_land inq_shoeLeftOut inq_judgedShoes inq_bindingShoes inq_boundAs inq_standing inq_arriving) H) (hD : va_D A (wl_X11_lost ad cs court_shoeCount court_claimCount court_suitCount court_shoePerson court_shoeOther inq_day inq_land inq_shoeLeftOut inq_judgedShoes inq_bindingShoes inq_boundAs inq_standing inq_arriving)) (hS : va_S A s.heap H locs) (hl : lv_has ls 7 [(0, .ref (ad 0)), (2, .int x2), (3, .null), (4, .long x4), (6, .int x6)]), W p l e rm_X11_lost s m args below meth c H locs 0 0 (MQ below (Q_X11_lost D cs ad court_shoeCount court_claimCount court_suitCount court_shoePerson court_shoeOther A R) args s 0 0 A) (F0 m 41 ls [])) (x2 : Int32) (x4 : Int64) (x6 : Int32) (inq_day : Int32) (inq_land : Int32) (inq_shoeLeftOut : Int32) (inq_judgedShoes : Nat → Int64) (inq_bindingShoes : Nat → Int64) (inq_boundAs : Nat → Int32) (inq_standing : Nat → Int32) (inq_arriving : Nat → Int32) (h : B_X11_lost_85 g41 court_shoeCount court_claimCount court_suitCount court_shoePerson court_shoeOther x2 x4 x6 inq_day inq_land inq_shoeLeftOut inq_judgedShoes inq_bindingShoes inq_boundAs inq_standing inq_arriving = some R) (H : Heap) (locs : List Loc) (ls : Array Slot) (hP : va_P D classes (wl_X11_lost ad cs court_shoeCount court_claimCount court_suitCount court_shoePerson court_shoeOther inq_day inq_land inq_shoeLeftOut inq_judgedShoes inq_bindingShoes inq_boundAs inq_standing inq_arriving) H) (hD : va_D A (wl_X11_lost ad cs court_shoeCount court_claimCount court_suitCount court_shoePerson court_shoeOther inq_day inq_land inq_shoeLeftOut inq_judgedShoes inq_bindingShoes inq_boundAs inq_standing inq_arriving)) (hS : va_S A s.heap H locs) (hl : lv_has ls 7 [(0, .ref (ad 0)), (2, .int x2), (3, .null), (4, .long x4), (6, .int x6)]) : W p l e rm_X11_lost s m args below meth c H locs 0 0 (MQ below (Q_X11_lost D cs ad court_shoeCount court_claimCount court_suitCount court_shoePerson court_shoeOther A R) args s 0 0 A) (F0 m 85 ls []) := by
  obtain ⟨hx, hb, hr, hml, hown, ht, hlocks⟩ := id C0
  obtain ⟨v_9, ev_9, h⟩ := zk_lt h
  refine lv_iinc (v := v_9) (lv' := [(6, .int v_9), (0, .ref (ad 0)), (2, .int x2), (3, .null), (4, .long x4)]) hx hb dX11_lost_85 hl (k := 4) rfl (by rw [ev_9]; rfl) (by decide) rfl (fun ls hl => ?_)
  refine lv_goto (tgt := 41) hx hb dX11_lost_88 (by decide) ?_
  exact ih41 x2 x4 v_9 inq_day inq_land inq_shoeLeftOut inq_judgedShoes inq_bindingShoes inq_boundAs inq_standing inq_arriving h H locs ls hP hD hS (lv_sub hl [1, 2, 3, 4, 0] rfl)
set_option maxHeartbeats 4000000 in
set_option maxRecDepth 100000 in
theorem L_X11_lost_41 {p : Program} {l : Launch} {e : Env} {s : State} {m : MethodId} {args : Array Value} {below : List Frame} {meth : Method} {c : Code} {A : Nat → Prop} {D : va_G} {cs : Nat → ClassId} {ad : Nat → Nat} {court_shoeCount : Int32} {court_claimCount : Int32} {court_suitCount : Int32} {court_shoePerson : Nat → Int32} {court_shoeOther : Nat → Int32} {R : Int32 × Int32 × Int32 × Int32 × (Nat → Int64) × (Nat → Int64) × (Nat → Int32) × (Nat → Int32) × (Nat → Int32)} {g41 : Int32 → Int64 → Int32 → Int32 → Int32 → Int32 → (Nat → Int64) → (Nat → Int64) → (Nat → Int32) → (Nat → Int32) → (Nat → Int32) → (Option (Int32 × Int32 × Int32 × Int32 × (Nat → Int64) × (Nat → Int64) × (Nat → Int32) × (Nat → Int32) × (Nat → Int32)))} (C0 : zC p s m args meth c cX11_lost 7 (some .int) RX11 zW) (hK : va_K D classes (zT cs) s) (hA : ∀ q : Nat, s.heap.size ≤ q → A q) (ih41 : ∀ (x2 : Int32) (x4 : Int64) (x6 : Int32) (inq_day : Int32) (inq_land : Int32) (inq_shoeLeftOut : Int32) (inq_judgedShoes : Nat → Int64) (inq_bindingShoes : Nat → Int64) (inq_boundAs : Nat → Int32) (inq_standing : Nat → Int32) (inq_arriving : Nat → Int32) (h : g41 x2 x4 x6 inq_day inq_land inq_shoeLeftOut inq_judgedShoes inq_bindingShoes inq_boundAs inq_standing inq_arriving = some R) (H : Heap) (locs : List Loc) (ls : Array Slot) (hP : va_P D classes (wl_X11_lost ad cs court_shoeCount court_claimCount court_suitCount court_shoePerson court_shoeOther inq_day inq_land inq_shoeLeftOut inq_judgedShoes inq_bindingShoes inq_boundAs inq_standing inq_arriving) H) (hD : va_D A (wl_X11_lost ad cs court_shoeCount court_claimCount court_suitCount court_shoePerson court_shoeOther inq_day inq_land inq_shoeLeftOut inq_judgedShoes inq_bindingShoes inq_boundAs inq_standing inq_arriving)) (hS : va_S A s.heap H locs) (hl : lv_has ls 7 [(0, .ref (ad 0)), (2, .int x2), (3, .null), (4, .long x4), (6, .int x6)]), W p l e rm_X11_lost s m args below meth c H locs 0 0 (MQ below (Q_X11_lost D cs ad court_shoeCount court_claimCount court_suitCount court_shoePerson court_shoeOther A R) args s 0 0 A) (F0 m 41 ls [])) (x2 : Int32) (x4 : Int64) (x6 : Int32) (inq_day : Int32) (inq_land : Int32) (inq_shoeLeftOut : Int32) (inq_judgedShoes : Nat → Int64) (inq_bindingShoes : Nat → Int64) (inq_boundAs : Nat → Int32) (inq_standing : Nat → Int32) (inq_arriving : Nat → Int32) (h : B_X11_lost_41 g41 court_shoeCount court_claimCount court_suitCount court_shoePerson court_shoeOther x2 x4 x6 inq_day inq_land inq_shoeLeftOut inq_judgedShoes inq_bindingShoes inq_boundAs inq_standing inq_arriving = some R) (H : Heap) (locs : List Loc) (ls : Array Slot) (hP : va_P D classes (wl_X11_lost ad cs court_shoeCount court_claimCount court_suitCount court_shoePerson court_shoeOther inq_day inq_land inq_shoeLeftOut inq_judgedShoes inq_bindingShoes inq_boundAs inq_standing inq_arriving) H) (hD : va_D A (wl_X11_lost ad cs court_shoeCount court_claimCount court_suitCount court_shoePerson court_shoeOther inq_day inq_land inq_shoeLeftOut inq_judgedShoes inq_bindingShoes inq_boundAs inq_standing inq_arriving)) (hS : va_S A s.heap H locs) (hl : lv_has ls 7 [(0, .ref (ad 0)), (2, .int x2), (3, .null), (4, .long x4), (6, .int x6)]) : W p l e rm_X11_lost s m args below meth c H locs 0 0 (MQ below (Q_X11_lost D cs ad court_shoeCount court_claimCount court_suitCount court_shoePerson court_shoeOther A R) args s 0 0 A) (F0 m 41 ls []) := by
  obtain ⟨hx, hb, hr, hml, hown, ht, hlocks⟩ := id C0
  refine lv_iload hx hb dX11_lost_41 (lv_at hl 4 rfl) ?_
  refine lv_aload_n hx hb dX11_lost_43 rfl (lv_at hl 0 rfl) ?_
  refine va_get (D := D) (ci := 11) (v := .ref (ad 4)) (C := RX11) (T := TX11) (N := 11) hx hb ht iX11 hown hK hP 0 rfl rfl 0 (by decide) (ht _ kw_696) (fun _ h9 => h9) rfl dX11_lost_44 ?_
  refine va_get (D := D) (ci := 2) (v := .int court_claimCount) (C := RX2) (T := TX2) (N := 13) hx hb ht iX2 hown hK hP 1 rfl rfl 11 (by decide) (ht _ kw_153) (fun _ h9 => h9) rfl dX11_lost_47 ?_
  refine lv_icmp_ge (tgt := 91) hx hb dX11_lost_50 (by decide) (fun c_5 => ?_) (fun c_5 => ?_)
  · have h := zk_t c_5 h
    refine lv_lload hx hb dX11_lost_91 (lv_at hl 3 rfl) ?_
    refine lv_iload_n hx hb dX11_lost_93 rfl (lv_at hl 1 rfl) ?_
    obtain ⟨r_6, u_7, hc_8, h⟩ := zk_o2 h
    refine zk_si (post := (fun r u => (r, u) = (r_6, u_7))) (w1 := fun u => (wl_X11_bitOrSize ad cs )) (As := [.long x4, .int x2]) (rest := []) (c_X11_bitOrSize l D cs ad  H.size 4000 x4 x2 _ hc_8) ⟨hx, hb, hml, hown, ht⟩ (va_cwS 2 ht g_X11_258 rfl rfl rfl (by decide +kernel) ⟨Nat.le_of_ble_eq_true rfl, Nat.le_of_ble_eq_true rfl⟩) hP hD hS hK hA [] [0, 1, 2, 3, 4, 5, 6, 7, 8, 9] rfl rfl rfl rfl (by decide) rfl hl.1 (Nat.le_of_ble_eq_true rfl) dX11_lost_94 ⟨Nat.zero_le _, Nat.zero_le _⟩ (fun r u H locs hq hP hD hS => ?_)
    cases hq
    have hP : va_P D classes (wl_X11_lost ad cs court_shoeCount court_claimCount court_suitCount court_shoePerson court_shoeOther inq_day inq_land inq_shoeLeftOut inq_judgedShoes inq_bindingShoes inq_boundAs inq_standing inq_arriving) H := hP.sub [0, 1, 2, 3, 4, 5, 6, 7, 8, 9] rfl
    have hD : va_D A (wl_X11_lost ad cs court_shoeCount court_claimCount court_suitCount court_shoePerson court_shoeOther inq_day inq_land inq_shoeLeftOut inq_judgedShoes inq_bindingShoes inq_boundAs inq_standing inq_arriving) := hD.sub [0, 1, 2, 3, 4, 5, 6, 7, 8, 9] rfl rfl
    exact W.iret (v := r_6) hx hb hr (fun t ht2 hW => ⟨⟨r_6, (inq_day, inq_land, inq_shoeLeftOut, inq_judgedShoes, inq_bindingShoes, inq_boundAs, inq_standing, inq_arriving), rfl, Option.some.inj h, by rw [ht2]; exact hP, hD⟩, hS.F ht2⟩) hS.2.2 dX11_lost_97 hlocks
  · have h := zk_f c_5 h
    refine lv_aload_nN hx hb dX11_lost_53 rfl (lv_at hl 2 rfl) ?_
    refine lv_iload hx hb dX11_lost_54 (lv_at hl 4 rfl) ?_
    cases h
set_option maxHeartbeats 4000000 in
set_option maxRecDepth 100000 in
theorem L_X11_lost_0 {p : Program} {l : Launch} {e : Env} {s : State} {m : MethodId} {args : Array Value} {below : List Frame} {meth : Method} {c : Code} {A : Nat → Prop} {D : va_G} {cs : Nat → ClassId} {ad : Nat → Nat} {court_shoeCount : Int32} {court_claimCount : Int32} {court_suitCount : Int32} {court_shoePerson : Nat → Int32} {court_shoeOther : Nat → Int32} {R : Int32 × Int32 × Int32 × Int32 × (Nat → Int64) × (Nat → Int64) × (Nat → Int32) × (Nat → Int32) × (Nat → Int32)} {g41 : Int32 → Int64 → Int32 → Int32 → Int32 → Int32 → (Nat → Int64) → (Nat → Int64) → (Nat → Int32) → (Nat → Int32) → (Nat → Int32) → (Option (Int32 × Int32 × Int32 × Int32 × (Nat → Int64) × (Nat → Int64) × (Nat → Int32) × (Nat → Int32) × (Nat → Int32)))} (C0 : zC p s m args meth c cX11_lost 7 (some .int) RX11 zW) (hK : va_K D classes (zT cs) s) (hA : ∀ q : Nat, s.heap.size ≤ q → A q) (ih41 : ∀ (x2 : Int32) (x4 : Int64) (x6 : Int32) (inq_day : Int32) (inq_land : Int32) (inq_shoeLeftOut : Int32) (inq_judgedShoes : Nat → Int64) (inq_bindingShoes : Nat → Int64) (inq_boundAs : Nat → Int32) (inq_standing : Nat → Int32) (inq_arriving : Nat → Int32) (h : g41 x2 x4 x6 inq_day inq_land inq_shoeLeftOut inq_judgedShoes inq_bindingShoes inq_boundAs inq_standing inq_arriving = some R) (H : Heap) (locs : List Loc) (ls : Array Slot) (hP : va_P D classes (wl_X11_lost ad cs court_shoeCount court_claimCount court_suitCount court_shoePerson court_shoeOther inq_day inq_land inq_shoeLeftOut inq_judgedShoes inq_bindingShoes inq_boundAs inq_standing inq_arriving) H) (hD : va_D A (wl_X11_lost ad cs court_shoeCount court_claimCount court_suitCount court_shoePerson court_shoeOther inq_day inq_land inq_shoeLeftOut inq_judgedShoes inq_bindingShoes inq_boundAs inq_standing inq_arriving)) (hS : va_S A s.heap H locs) (hl : lv_has ls 7 [(0, .ref (ad 0)), (2, .int x2), (3, .null), (4, .long x4), (6, .int x6)]), W p l e rm_X11_lost s m args below meth c H locs 0 0 (MQ below (Q_X11_lost D cs ad court_shoeCount court_claimCount court_suitCount court_shoePerson court_shoeOther A R) args s 0 0 A) (F0 m 41 ls [])) (x1 : Int32) (x2 : Int32) (inq_day : Int32) (inq_land : Int32) (inq_shoeLeftOut : Int32) (inq_judgedShoes : Nat → Int64) (inq_bindingShoes : Nat → Int64) (inq_boundAs : Nat → Int32) (inq_standing : Nat → Int32) (inq_arriving : Nat → Int32) (h : B_X11_lost_0 g41 court_shoeCount court_claimCount court_suitCount court_shoePerson court_shoeOther x1 x2 inq_day inq_land inq_shoeLeftOut inq_judgedShoes inq_bindingShoes inq_boundAs inq_standing inq_arriving = some R) (H : Heap) (locs : List Loc) (ls : Array Slot) (hP : va_P D classes (wl_X11_lost ad cs court_shoeCount court_claimCount court_suitCount court_shoePerson court_shoeOther inq_day inq_land inq_shoeLeftOut inq_judgedShoes inq_bindingShoes inq_boundAs inq_standing inq_arriving) H) (hD : va_D A (wl_X11_lost ad cs court_shoeCount court_claimCount court_suitCount court_shoePerson court_shoeOther inq_day inq_land inq_shoeLeftOut inq_judgedShoes inq_bindingShoes inq_boundAs inq_standing inq_arriving)) (hS : va_S A s.heap H locs) (hl : lv_has ls 7 [(0, .ref (ad 0)), (1, .int x1), (2, .int x2)]) : W p l e rm_X11_lost s m args below meth c H locs 0 0 (MQ below (Q_X11_lost D cs ad court_shoeCount court_claimCount court_suitCount court_shoePerson court_shoeOther A R) args s 0 0 A) (F0 m 0 ls []) := by
  obtain ⟨hx, hb, hr, hml, hown, ht, hlocks⟩ := id C0
  refine lv_aload_n hx hb dX11_lost_0 rfl (lv_at hl 0 rfl) ?_
  refine va_get (D := D) (ci := 11) (v := .ref (ad 4)) (C := RX11) (T := TX11) (N := 11) hx hb ht iX11 hown hK hP 0 rfl rfl 0 (by decide) (ht _ kw_696) (fun _ h9 => h9) rfl dX11_lost_1 ?_
  refine lv_iload_n hx hb dX11_lost_4 rfl (lv_at hl 1 rfl) ?_
  obtain ⟨r_1, u_2, hc_3, h⟩ := zk_o2 h
  refine zk_vq (post := (fun r u => r = (if r_1 = true then some 0 else none) ∧ u = (u_2))) (w1 := fun u => (wl_X2_suitAt ad cs court_shoeCount court_claimCount court_suitCount)) (As := [.int x1]) (rest := []) (c_X2_suitAt l D cs ad  H.size x1 court_shoeCount court_claimCount court_suitCount _ hc_3) ⟨hx, hb, hml, hown, ht⟩ (cwV 1 ht g_X11_207 rfl rfl rfl (by decide +kernel) ⟨Nat.le_of_ble_eq_true rfl, Nat.le_of_ble_eq_true rfl⟩) (va_recv hK hP (ci := 2) (q0 := 1) rfl rfl) hP hD hS hK hA [1] [0, 2, 3, 4, 5, 6, 7, 8, 9] rfl rfl rfl rfl (by decide) rfl hl.1 (Nat.le_of_ble_eq_true rfl) dX11_lost_5 ⟨Nat.zero_le _, Nat.zero_le _⟩ (fun r u H locs hq hP hD hS => ?_)
  obtain ⟨hq1, hq2⟩ := hq; cases hq2; subst hq1
  have hP : va_P D classes (wl_X11_lost ad cs court_shoeCount court_claimCount court_suitCount court_shoePerson court_shoeOther inq_day inq_land inq_shoeLeftOut inq_judgedShoes inq_bindingShoes inq_boundAs inq_standing inq_arriving) H := hP.sub [0, 9, 1, 2, 3, 4, 5, 6, 7, 8] rfl
  have hD : va_D A (wl_X11_lost ad cs court_shoeCount court_claimCount court_suitCount court_shoePerson court_shoeOther inq_day inq_land inq_shoeLeftOut inq_judgedShoes inq_bindingShoes inq_boundAs inq_standing inq_arriving) := hD.sub [0, 9, 1, 2, 3, 4, 5, 6, 7, 8] rfl rfl
  by_cases c_4 : r_1 = true
  · have h := zk_t c_4 h
    cases h
  · have h := zk_f c_4 h
    refine W.eq (g2 := F0 m 8 ls [.null]) (by rw [if_neg c_4]; rfl) ?_
    refine lv_astore_nN (lv' := [(3, .null), (0, .ref (ad 0)), (1, .int x1), (2, .int x2)]) hx hb dX11_lost_8 rfl hl (by decide) rfl (fun ls hl => ?_)
    refine lv_aload_nN hx hb dX11_lost_9 rfl (lv_at hl 0 rfl) ?_
    refine lv_ifnullN (tgt := 18) hx hb dX11_lost_10 (by decide) ?_
    refine lv_iconst (v := (-1 : Int32)) hx hb dX11_lost_18 (by decide) ?_
    exact W.iret (v := (-1 : Int32)) hx hb hr (fun t ht2 hW => ⟨⟨(-1 : Int32), (inq_day, inq_land, inq_shoeLeftOut, inq_judgedShoes, inq_bindingShoes, inq_boundAs, inq_standing, inq_arriving), rfl, Option.some.inj h, by rw [ht2]; exact hP, hD⟩, hS.F ht2⟩) hS.2.2 dX11_lost_19 hlocks
theorem LG_X11_lost {p : Program} {l : Launch} {e : Env} {s : State} {m : MethodId} {args : Array Value} {below : List Frame} {meth : Method} {c : Code} {A : Nat → Prop} {D : va_G} {cs : Nat → ClassId} {ad : Nat → Nat} {court_shoeCount : Int32} {court_claimCount : Int32} {court_suitCount : Int32} {court_shoePerson : Nat → Int32} {court_shoeOther : Nat → Int32} {R : Int32 × Int32 × Int32 × Int32 × (Nat → Int64) × (Nat → Int64) × (Nat → Int32) × (Nat → Int32) × (Nat → Int32)} (C0 : zC p s m args meth c cX11_lost 7 (some .int) RX11 zW) (hK : va_K D classes (zT cs) s) (hA : ∀ q : Nat, s.heap.size ≤ q → A q) : ∀ n : Nat, (∀ (x2 : Int32) (x4 : Int64) (x6 : Int32) (inq_day : Int32) (inq_land : Int32) (inq_shoeLeftOut : Int32) (inq_judgedShoes : Nat → Int64) (inq_bindingShoes : Nat → Int64) (inq_boundAs : Nat → Int32) (inq_standing : Nat → Int32) (inq_arriving : Nat → Int32) (h : (G_X11_lost   court_shoeCount court_claimCount court_suitCount court_shoePerson court_shoeOther n) x2 x4 x6 inq_day inq_land inq_shoeLeftOut inq_judgedShoes inq_bindingShoes inq_boundAs inq_standing inq_arriving = some R) (H : Heap) (locs : List Loc) (ls : Array Slot) (hP : va_P D classes (wl_X11_lost ad cs court_shoeCount court_claimCount court_suitCount court_shoePerson court_shoeOther inq_day inq_land inq_shoeLeftOut inq_judgedShoes inq_bindingShoes inq_boundAs inq_standing inq_arriving) H) (hD : va_D A (wl_X11_lost ad cs court_shoeCount court_claimCount court_suitCount court_shoePerson court_shoeOther inq_day inq_land inq_shoeLeftOut inq_judgedShoes inq_bindingShoes inq_boundAs inq_standing inq_arriving)) (hS : va_S A s.heap H locs) (hl : lv_has ls 7 [(0, .ref (ad 0)), (2, .int x2), (3, .null), (4, .long x4), (6, .int x6)]), W p l e rm_X11_lost s m args below meth c H locs 0 0 (MQ below (Q_X11_lost D cs ad court_shoeCount court_claimCount court_suitCount court_shoePerson court_shoeOther A R) args s 0 0 A) (F0 m 41 ls [])) := by
  intro n
  induction n with
  | zero =>
    refine ?_ <;> (intros; rename_i h _ _ _ _ _ _ _; cases h)
  | succ n ih =>
    exact L_X11_lost_41 C0 hK hA  ih
set_option maxHeartbeats 4000000 in
set_option maxRecDepth 100000 in
theorem c_X11_lost (l : Launch) (D : va_G) (cs : Nat → ClassId) (ad : Nat → Nat) (sz : Nat) (n : Nat) (x1 : Int32) (x2 : Int32) (court_shoeCount : Int32) (court_claimCount : Int32) (court_suitCount : Int32) (court_shoePerson : Nat → Int32) (court_shoeOther : Nat → Int32) (inq_day : Int32) (inq_land : Int32) (inq_shoeLeftOut : Int32) (inq_judgedShoes : Nat → Int64) (inq_bindingShoes : Nat → Int64) (inq_boundAs : Nat → Int32) (inq_standing : Nat → Int32) (inq_arriving : Nat → Int32) (R : Int32 × Int32 × Int32 × Int32 × (Nat → Int64) × (Nat → Int64) × (Nat → Int32) × (Nat → Int32) × (Nat → Int32)) (h : f_X11_lost   n x1 x2 court_shoeCount court_claimCount court_suitCount court_shoePerson court_shoeOther inq_day inq_land inq_shoeLeftOut inq_judgedShoes inq_bindingShoes inq_boundAs inq_standing inq_arriving = some R) : Met l yX11_lost (z_X11_lost) rm_X11_lost (va_Pc [.ref (ad 0), .int x1, .int x2] (zPre D cs (wl_X11_lost ad cs court_shoeCount court_claimCount court_suitCount court_shoePerson court_shoeOther inq_day inq_land inq_shoeLeftOut inq_judgedShoes inq_bindingShoes inq_boundAs inq_standing inq_arriving) sz)) (Q_X11_lost D cs ad court_shoeCount court_claimCount court_suitCount court_shoePerson court_shoeOther (va_A (wl_X11_lost ad cs court_shoeCount court_claimCount court_suitCount court_shoePerson court_shoeOther inq_day inq_land inq_shoeLeftOut inq_judgedShoes inq_bindingShoes inq_boundAs inq_standing inq_arriving) sz) R) 0 0 (va_A (wl_X11_lost ad cs court_shoeCount court_claimCount court_suitCount court_shoePerson court_shoeOther inq_day inq_land inq_shoeLeftOut inq_judgedShoes inq_bindingShoes inq_boundAs inq_standing inq_arriving) sz) := by
  refine Met.ofW (cc := cX11_lost) (maxL := 7) (ret := (some .int)) (by decide) rfl ?_
  intro p e s m args below meth c s₁ B hml hv
  obtain ⟨rfl, hsz, hP, hK, hD0⟩ := hv
  subst hsz
  have hD := hD0.self (sz := s.heap.size)
  have C0 : zC p s m _ meth c cX11_lost 7 (some .int) RX11 zW := ⟨B.exec, B.bytes, B.returns, hml, findClass_of_methodNamed B.named, fun w hw => atoms_spec (ws := z_X11_lost) B.pre w (List.mem_cons_of_mem _ hw), B.notSynchronized⟩
  have hA : ∀ q : Nat, s.heap.size ≤ q → va_A (wl_X11_lost ad cs court_shoeCount court_claimCount court_suitCount court_shoePerson court_shoeOther inq_day inq_land inq_shoeLeftOut inq_judgedShoes inq_bindingShoes inq_boundAs inq_standing inq_arriving) s.heap.size q := fun q h => Or.inr h
  have hl := lv_entry ([.ref (ad 0), .int x1, .int x2]) (n := 7) (Nat.le_of_ble_eq_true rfl)
  rw [lg_entry_eq]
  generalize (lg_sl ([.ref (ad 0), .int x1, .int x2]) ++ List.replicate (7 - (lg_sl ([.ref (ad 0), .int x1, .int x2])).length) Slot.unset).toArray = ls at hl ⊢
  exact L_X11_lost_0 C0 hK hA  ((LG_X11_lost C0 hK hA  n)) x1 x2 inq_day inq_land inq_shoeLeftOut inq_judgedShoes inq_bindingShoes inq_boundAs inq_standing inq_arriving h s.heap [] ls hP hD va_S.rf hl
theorem kw_1072 : Cond.constantLong RX11 272 (-1 : Int64) ∈ zW := zwI (i := 1072) (by decide +kernel) (by decide +kernel)
theorem dX11_opens_0 : decode cX11_opens 0 = .ok (.aload_n 0, 1) := by decide +kernel
theorem dX11_opens_1 : decode cX11_opens 1 = .ok (.getfield 10, 3) := by decide +kernel
theorem dX11_opens_4 : decode cX11_opens 4 = .ok (.iload_n 1, 1) := by decide +kernel
theorem dX11_opens_5 : decode cX11_opens 5 = .ok (.invokevirtual 207, 3) := by decide +kernel
theorem dX11_opens_8 : decode cX11_opens 8 = .ok (.astore_n 3, 1) := by decide +kernel
theorem dX11_opens_9 : decode cX11_opens 9 = .ok (.aload_n 3, 1) := by decide +kernel
theorem dX11_opens_10 : decode cX11_opens 10 = .ok (.ifnull 10, 3) := by decide +kernel
theorem dX11_opens_20 : decode cX11_opens 20 = .ok (.ldc2_w 272, 3) := by decide +kernel
theorem dX11_opens_23 : decode cX11_opens 23 = .ok (.lreturn, 1) := by decide +kernel
theorem dX11_opens_45 : decode cX11_opens 45 = .ok (.iload 6, 2) := by decide +kernel
theorem dX11_opens_47 : decode cX11_opens 47 = .ok (.aload_n 0, 1) := by decide +kernel
theorem dX11_opens_48 : decode cX11_opens 48 = .ok (.getfield 10, 3) := by decide +kernel
theorem dX11_opens_51 : decode cX11_opens 51 = .ok (.getfield 194, 3) := by decide +kernel
theorem dX11_opens_54 : decode cX11_opens 54 = .ok (.if_icmp .ge 46, 3) := by decide +kernel
theorem dX11_opens_57 : decode cX11_opens 57 = .ok (.aload_n 0, 1) := by decide +kernel
theorem dX11_opens_58 : decode cX11_opens 58 = .ok (.getfield 21, 3) := by decide +kernel
theorem dX11_opens_61 : decode cX11_opens 61 = .ok (.aload_n 3, 1) := by decide +kernel
theorem dX11_opens_62 : decode cX11_opens 62 = .ok (.iload 6, 2) := by decide +kernel
theorem dX11_opens_64 : decode cX11_opens 64 = .ok (.iconst (-1), 1) := by decide +kernel
theorem dX11_opens_94 : decode cX11_opens 94 = .ok (.iinc 6 1, 3) := by decide +kernel
theorem dX11_opens_97 : decode cX11_opens 97 = .ok (.goto (-52), 3) := by decide +kernel
theorem dX11_opens_100 : decode cX11_opens 100 = .ok (.lload 4, 2) := by decide +kernel
theorem dX11_opens_102 : decode cX11_opens 102 = .ok (.lreturn, 1) := by decide +kernel
abbrev z_X11_opens : List Cond := .code yX11_opens cX11_opens 7 (some .long) :: zW
abbrev wl_X11_opens (ad : Nat → Nat) (cs : Nat → ClassId)  (court_shoeCount : Int32) (court_claimCount : Int32) (court_suitCount : Int32) (court_shoePerson : Nat → Int32) (court_shoeOther : Nat → Int32) (inq_day : Int32) (inq_land : Int32) (inq_shoeLeftOut : Int32) (inq_judgedShoes : Nat → Int64) (inq_bindingShoes : Nat → Int64) (inq_boundAs : Nat → Int32) (inq_standing : Nat → Int32) (inq_arriving : Nat → Int32) : va_W := [((ad 0), .inr (11, [.ref (ad 4), .ref (ad 15), .ref (ad 23), .ref (ad 25), .ref (ad 26), .ref (ad 28), .ref (ad 34), .ref (ad 39), .ref (ad 1), .ref (ad 2), .ref (ad 3)])), ((ad 4), .inr (2, [.ref (ad 5), .ref (ad 6), .ref (ad 7), .ref (ad 8), .ref (ad 9), .ref (ad 10), .ref (ad 11), .ref (ad 12), .ref (ad 13), .ref (ad 14), .int court_shoeCount, .int court_claimCount, .int court_suitCount])), ((ad 5), .inl (cs 0, 40, .inl court_shoePerson)), ((ad 6), .inl (cs 0, 40, .inl court_shoeOther)), ((ad 15), .inr (3, [.ref (ad 4), .ref (ad 16), .ref (ad 17), .ref (ad 18), .ref (ad 19), .ref (ad 20), .ref (ad 21), .ref (ad 22), .int inq_day, .int inq_land, .int inq_shoeLeftOut])), ((ad 18), .inl (cs 1, 7, .inr (.inl inq_judgedShoes))), ((ad 19), .inl (cs 1, 7, .inr (.inl inq_bindingShoes))), ((ad 20), .inl (cs 0, 20, .inl inq_boundAs)), ((ad 21), .inl (cs 0, 20, .inl inq_standing)), ((ad 22), .inl (cs 0, 20, .inl inq_arriving))]
def Q_X11_opens (D : va_G) (cs : Nat → ClassId) (ad : Nat → Nat)  (court_shoeCount : Int32) (court_claimCount : Int32) (court_suitCount : Int32) (court_shoePerson : Nat → Int32) (court_shoeOther : Nat → Int32) (A : Nat → Prop) (R : Int64 × Int32 × Int32 × Int32 × (Nat → Int64) × (Nat → Int64) × (Nat → Int32) × (Nat → Int32) × (Nat → Int32)) : Array Value → State → Outcome → State → Prop :=
  va_Ql (fun (r : Int64) (u : Int32 × Int32 × Int32 × (Nat → Int64) × (Nat → Int64) × (Nat → Int32) × (Nat → Int32) × (Nat → Int32)) => (r, u) = R) (fun (u : Int32 × Int32 × Int32 × (Nat → Int64) × (Nat → Int64) × (Nat → Int32) × (Nat → Int32) × (Nat → Int32)) (t : State) => va_P D classes (wl_X11_opens ad cs court_shoeCount court_claimCount court_suitCount court_shoePerson court_shoeOther u.1 u.2.1 u.2.2.1 u.2.2.2.1 u.2.2.2.2.1 u.2.2.2.2.2.1 u.2.2.2.2.2.2.1 u.2.2.2.2.2.2.2) t.heap ∧ va_D A (wl_X11_opens ad cs court_shoeCount court_claimCount court_suitCount court_shoePerson court_shoeOther u.1 u.2.1 u.2.2.1 u.2.2.2.1 u.2.2.2.2.1 u.2.2.2.2.2.1 u.2.2.2.2.2.2.1 u.2.2.2.2.2.2.2)) A
abbrev rm_X11_opens : Room := { frames := 1, cells := 0, slots := 0, locals := 21 }
def B_X11_opens_94   (g45 : Int32 → Int64 → Int32 → Int32 → Int32 → Int32 → (Nat → Int64) → (Nat → Int64) → (Nat → Int32) → (Nat → Int32) → (Nat → Int32) → (Option (Int64 × Int32 × Int32 × Int32 × (Nat → Int64) × (Nat → Int64) × (Nat → Int32) × (Nat → Int32) × (Nat → Int32)))) (court_shoeCount : Int32) (court_claimCount : Int32) (court_suitCount : Int32) (court_shoePerson : Nat → Int32) (court_shoeOther : Nat → Int32) (x1 : Int32) (x4 : Int64) (x6 : Int32) (inq_day : Int32) (inq_land : Int32) (inq_shoeLeftOut : Int32) (inq_judgedShoes : Nat → Int64) (inq_bindingShoes : Nat → Int64) (inq_boundAs : Nat → Int32) (inq_standing : Nat → Int32) (inq_arriving : Nat → Int32) : Option (Int64 × Int32 × Int32 × Int32 × (Nat → Int64) × (Nat → Int64) × (Nat → Int32) × (Nat → Int32) × (Nat → Int32)) :=
  (zk_let (x6 + (1 : Int32)) (fun v_6 => (g45 x1 x4 v_6 inq_day inq_land inq_shoeLeftOut inq_judgedShoes inq_bindingShoes inq_boundAs inq_standing inq_arriving)))
def B_X11_opens_45   (g45 : Int32 → Int64 → Int32 → Int32 → Int32 → Int32 → (Nat → Int64) → (Nat → Int64) → (Nat → Int32) → (Nat → Int32) → (Nat → Int32) → (Option (Int64 × Int32 × Int32 × Int32 × (Nat → Int64) × (Nat → Int64) × (Nat → Int32) × (Nat → Int32) × (Nat → Int32)))) (court_shoeCount : Int32) (court_claimCount : Int32) (court_suitCount : Int32) (court_shoePerson : Nat → Int32) (court_shoeOther : Nat → Int32) (x1 : Int32) (x4 : Int64) (x6 : Int32) (inq_day : Int32) (inq_land : Int32) (inq_shoeLeftOut : Int32) (inq_judgedShoes : Nat → Int64) (inq_bindingShoes : Nat → Int64) (inq_boundAs : Nat → Int32) (inq_standing : Nat → Int32) (inq_arriving : Nat → Int32) : Option (Int64 × Int32 × Int32 × Int32 × (Nat → Int64) × (Nat → Int64) × (Nat → Int32) × (Nat → Int32) × (Nat → Int32)) :=
  (if court_claimCount ≤ x6 then (some (x4, inq_day, inq_land, inq_shoeLeftOut, inq_judgedShoes, inq_bindingShoes, inq_boundAs, inq_standing, inq_arriving)) else none)
def B_X11_opens_0   (g45 : Int32 → Int64 → Int32 → Int32 → Int32 → Int32 → (Nat → Int64) → (Nat → Int64) → (Nat → Int32) → (Nat → Int32) → (Nat → Int32) → (Option (Int64 × Int32 × Int32 × Int32 × (Nat → Int64) × (Nat → Int64) × (Nat → Int32) × (Nat → Int32) × (Nat → Int32)))) (court_shoeCount : Int32) (court_claimCount : Int32) (court_suitCount : Int32) (court_shoePerson : Nat → Int32) (court_shoeOther : Nat → Int32) (x1 : Int32) (x2 : Int32) (inq_day : Int32) (inq_land : Int32) (inq_shoeLeftOut : Int32) (inq_judgedShoes : Nat → Int64) (inq_bindingShoes : Nat → Int64) (inq_boundAs : Nat → Int32) (inq_standing : Nat → Int32) (inq_arriving : Nat → Int32) : Option (Int64 × Int32 × Int32 × Int32 × (Nat → Int64) × (Nat → Int64) × (Nat → Int32) × (Nat → Int32) × (Nat → Int32)) :=
  (zk_b2 (f_X2_suitAt x1 court_shoeCount court_claimCount court_suitCount) (fun r_1 u_2 => (if r_1 = true then none else (some ((-1 : Int64), inq_day, inq_land, inq_shoeLeftOut, inq_judgedShoes, inq_bindingShoes, inq_boundAs, inq_standing, inq_arriving)))))
def G_X11_opens   (court_shoeCount : Int32) (court_claimCount : Int32) (court_suitCount : Int32) (court_shoePerson : Nat → Int32) (court_shoeOther : Nat → Int32) (n : Nat) : (Int32 → Int64 → Int32 → Int32 → Int32 → Int32 → (Nat → Int64) → (Nat → Int64) → (Nat → Int32) → (Nat → Int32) → (Nat → Int32) → (Option (Int64 × Int32 × Int32 × Int32 × (Nat → Int64) × (Nat → Int64) × (Nat → Int32) × (Nat → Int32) × (Nat → Int32)))) :=
  Nat.rec (motive := fun _ => (Int32 → Int64 → Int32 → Int32 → Int32 → Int32 → (Nat → Int64) → (Nat → Int64) → (Nat → Int32) → (Nat → Int32) → (Nat → Int32) → (Option (Int64 × Int32 × Int32 × Int32 × (Nat → Int64) × (Nat → Int64) × (Nat → Int32) × (Nat → Int32) × (Nat → Int32))))) ((fun _ _ _ _ _ _ _ _ _ _ _ => none)) (fun _ ih => (B_X11_opens_45   ih court_shoeCount court_claimCount court_suitCount court_shoePerson court_shoeOther)) n
def f_X11_opens   (n : Nat) (x1 : Int32) (x2 : Int32) (court_shoeCount : Int32) (court_claimCount : Int32) (court_suitCount : Int32) (court_shoePerson : Nat → Int32) (court_shoeOther : Nat → Int32) (inq_day : Int32) (inq_land : Int32) (inq_shoeLeftOut : Int32) (inq_judgedShoes : Nat → Int64) (inq_bindingShoes : Nat → Int64) (inq_boundAs : Nat → Int32) (inq_standing : Nat → Int32) (inq_arriving : Nat → Int32) : Option (Int64 × Int32 × Int32 × Int32 × (Nat → Int64) × (Nat → Int64) × (Nat → Int32) × (Nat → Int32) × (Nat → Int32)) := B_X11_opens_0   ((G_X11_opens   court_shoeCount court_claimCount court_suitCount court_shoePerson court_shoeOther n)) court_shoeCount court_claimCount court_suitCount court_shoePerson court_shoeOther x1 x2 inq_day inq_land inq_shoeLeftOut inq_judgedShoes inq_bindingShoes inq_boundAs inq_standing inq_arriving
set_option maxHeartbeats 4000000 in
set_option maxRecDepth 100000 in
theorem L_X11_opens_94 {p : Program} {l : Launch} {e : Env} {s : State} {m : MethodId} {args : Array Value} {below : List Frame} {meth : Method} {c : Code} {A : Nat → Prop} {D : va_G} {cs : Nat → ClassId} {ad : Nat → Nat} {court_shoeCount : Int32} {court_claimCount : Int32} {court_suitCount : Int32} {court_shoePerson : Nat → Int32} {court_shoeOther : Nat → Int32} {R : Int64 × Int32 × Int32 × Int32 × (Nat → Int64) × (Nat → Int64) × (Nat → Int32) × (Nat → Int32) × (Nat → Int32)} {g45 : Int32 → Int64 → Int32 → Int32 → Int32 → Int32 → (Nat → Int64) → (Nat → Int64) → (Nat → Int32) → (Nat → Int32) → (Nat → Int32) → (Option (Int64 × Int32 × Int32 × Int32 × (Nat → Int64) × (Nat → Int64) × (Nat → Int32) × (Nat → Int32) × (Nat → Int32)))} (C0 : zC p s m args meth c cX11_opens 7 (some .long) RX11 zW) (hK : va_K D classes (zT cs) s) (hA : ∀ q : Nat, s.heap.size ≤ q → A q) (ih45 : ∀ (x1 : Int32) (x4 : Int64) (x6 : Int32) (inq_day : Int32) (inq_land : Int32) (inq_shoeLeftOut : Int32) (inq_judgedShoes : Nat → Int64) (inq_bindingShoes : Nat → Int64) (inq_boundAs : Nat → Int32) (inq_standing : Nat → Int32) (inq_arriving : Nat → Int32) (h : g45 x1 x4 x6 inq_day inq_land inq_shoeLeftOut inq_judgedShoes inq_bindingShoes inq_boundAs inq_standing inq_arriving = some R) (H : Heap) (locs : List Loc) (ls : Array Slot) (hP : va_P D classes (wl_X11_opens ad cs court_shoeCount court_claimCount court_suitCount court_shoePerson court_shoeOther inq_day inq_land inq_shoeLeftOut inq_judgedShoes inq_bindingShoes inq_boundAs inq_standing inq_arriving) H) (hD : va_D A (wl_X11_opens ad cs court_shoeCount court_claimCount court_suitCount court_shoePerson court_shoeOther inq_day inq_land inq_shoeLeftOut inq_judgedShoes inq_bindingShoes inq_boundAs inq_standing inq_arriving)) (hS : va_S A s.heap H locs) (hl : lv_has ls 7 [(0, .ref (ad 0)), (1, .int x1), (3, .null), (4, .long x4), (6, .int x6)]), W p l e rm_X11_opens s m args below meth c H locs 0 0 (MQ below (Q_X11_opens D cs ad court_shoeCount court_claimCount court_suitCount court_shoePerson court_shoeOther A R) args s 0 0 A) (F0 m 45 ls [])) (x1 : Int32) (x4 : Int64) (x6 : Int32) (inq_day : Int32) (inq_land : Int32) (inq_shoeLeftOut : Int32) (inq_judgedShoes : Nat → Int64) (inq_bindingShoes : Nat → Int64) (inq_boundAs : Nat → Int32) (inq_standing : Nat → Int32) (inq_arriving : Nat → Int32) (h : B_X11_opens_94 g45 court_shoeCount court_claimCount court_suitCount court_shoePerson court_shoeOther x1 x4 x6 inq_day inq_land inq_shoeLeftOut inq_judgedShoes inq_bindingShoes inq_boundAs inq_standing inq_arriving = some R) (H : Heap) (locs : List Loc) (ls : Array Slot) (hP : va_P D classes (wl_X11_opens ad cs court_shoeCount court_claimCount court_suitCount court_shoePerson court_shoeOther inq_day inq_land inq_shoeLeftOut inq_judgedShoes inq_bindingShoes inq_boundAs inq_standing inq_arriving) H) (hD : va_D A (wl_X11_opens ad cs court_shoeCount court_claimCount court_suitCount court_shoePerson court_shoeOther inq_day inq_land inq_shoeLeftOut inq_judgedShoes inq_bindingShoes inq_boundAs inq_standing inq_arriving)) (hS : va_S A s.heap H locs) (hl : lv_has ls 7 [(0, .ref (ad 0)), (1, .int x1), (3, .null), (4, .long x4), (6, .int x6)]) : W p l e rm_X11_opens s m args below meth c H locs 0 0 (MQ below (Q_X11_opens D cs ad court_shoeCount court_claimCount court_suitCount court_shoePerson court_shoeOther A R) args s 0 0 A) (F0 m 94 ls []) := by
  obtain ⟨hx, hb, hr, hml, hown, ht, hlocks⟩ := id C0
  obtain ⟨v_6, ev_6, h⟩ := zk_lt h
  refine lv_iinc (v := v_6) (lv' := [(6, .int v_6), (0, .ref (ad 0)), (1, .int x1), (3, .null), (4, .long x4)]) hx hb dX11_opens_94 hl (k := 4) rfl (by rw [ev_6]; rfl) (by decide) rfl (fun ls hl => ?_)
  refine lv_goto (tgt := 45) hx hb dX11_opens_97 (by decide) ?_
  exact ih45 x1 x4 v_6 inq_day inq_land inq_shoeLeftOut inq_judgedShoes inq_bindingShoes inq_boundAs inq_standing inq_arriving h H locs ls hP hD hS (lv_sub hl [1, 2, 3, 4, 0] rfl)
set_option maxHeartbeats 4000000 in
set_option maxRecDepth 100000 in
theorem L_X11_opens_45 {p : Program} {l : Launch} {e : Env} {s : State} {m : MethodId} {args : Array Value} {below : List Frame} {meth : Method} {c : Code} {A : Nat → Prop} {D : va_G} {cs : Nat → ClassId} {ad : Nat → Nat} {court_shoeCount : Int32} {court_claimCount : Int32} {court_suitCount : Int32} {court_shoePerson : Nat → Int32} {court_shoeOther : Nat → Int32} {R : Int64 × Int32 × Int32 × Int32 × (Nat → Int64) × (Nat → Int64) × (Nat → Int32) × (Nat → Int32) × (Nat → Int32)} {g45 : Int32 → Int64 → Int32 → Int32 → Int32 → Int32 → (Nat → Int64) → (Nat → Int64) → (Nat → Int32) → (Nat → Int32) → (Nat → Int32) → (Option (Int64 × Int32 × Int32 × Int32 × (Nat → Int64) × (Nat → Int64) × (Nat → Int32) × (Nat → Int32) × (Nat → Int32)))} (C0 : zC p s m args meth c cX11_opens 7 (some .long) RX11 zW) (hK : va_K D classes (zT cs) s) (hA : ∀ q : Nat, s.heap.size ≤ q → A q) (ih45 : ∀ (x1 : Int32) (x4 : Int64) (x6 : Int32) (inq_day : Int32) (inq_land : Int32) (inq_shoeLeftOut : Int32) (inq_judgedShoes : Nat → Int64) (inq_bindingShoes : Nat → Int64) (inq_boundAs : Nat → Int32) (inq_standing : Nat → Int32) (inq_arriving : Nat → Int32) (h : g45 x1 x4 x6 inq_day inq_land inq_shoeLeftOut inq_judgedShoes inq_bindingShoes inq_boundAs inq_standing inq_arriving = some R) (H : Heap) (locs : List Loc) (ls : Array Slot) (hP : va_P D classes (wl_X11_opens ad cs court_shoeCount court_claimCount court_suitCount court_shoePerson court_shoeOther inq_day inq_land inq_shoeLeftOut inq_judgedShoes inq_bindingShoes inq_boundAs inq_standing inq_arriving) H) (hD : va_D A (wl_X11_opens ad cs court_shoeCount court_claimCount court_suitCount court_shoePerson court_shoeOther inq_day inq_land inq_shoeLeftOut inq_judgedShoes inq_bindingShoes inq_boundAs inq_standing inq_arriving)) (hS : va_S A s.heap H locs) (hl : lv_has ls 7 [(0, .ref (ad 0)), (1, .int x1), (3, .null), (4, .long x4), (6, .int x6)]), W p l e rm_X11_opens s m args below meth c H locs 0 0 (MQ below (Q_X11_opens D cs ad court_shoeCount court_claimCount court_suitCount court_shoePerson court_shoeOther A R) args s 0 0 A) (F0 m 45 ls [])) (x1 : Int32) (x4 : Int64) (x6 : Int32) (inq_day : Int32) (inq_land : Int32) (inq_shoeLeftOut : Int32) (inq_judgedShoes : Nat → Int64) (inq_bindingShoes : Nat → Int64) (inq_boundAs : Nat → Int32) (inq_standing : Nat → Int32) (inq_arriving : Nat → Int32) (h : B_X11_opens_45 g45 court_shoeCount court_claimCount court_suitCount court_shoePerson court_shoeOther x1 x4 x6 inq_day inq_land inq_shoeLeftOut inq_judgedShoes inq_bindingShoes inq_boundAs inq_standing inq_arriving = some R) (H : Heap) (locs : List Loc) (ls : Array Slot) (hP : va_P D classes (wl_X11_opens ad cs court_shoeCount court_claimCount court_suitCount court_shoePerson court_shoeOther inq_day inq_land inq_shoeLeftOut inq_judgedShoes inq_bindingShoes inq_boundAs inq_standing inq_arriving) H) (hD : va_D A (wl_X11_opens ad cs court_shoeCount court_claimCount court_suitCount court_shoePerson court_shoeOther inq_day inq_land inq_shoeLeftOut inq_judgedShoes inq_bindingShoes inq_boundAs inq_standing inq_arriving)) (hS : va_S A s.heap H locs) (hl : lv_has ls 7 [(0, .ref (ad 0)), (1, .int x1), (3, .null), (4, .long x4), (6, .int x6)]) : W p l e rm_X11_opens s m args below meth c H locs 0 0 (MQ below (Q_X11_opens D cs ad court_shoeCount court_claimCount court_suitCount court_shoePerson court_shoeOther A R) args s 0 0 A) (F0 m 45 ls []) := by
  obtain ⟨hx, hb, hr, hml, hown, ht, hlocks⟩ := id C0
  refine lv_iload hx hb dX11_opens_45 (lv_at hl 4 rfl) ?_
  refine lv_aload_n hx hb dX11_opens_47 rfl (lv_at hl 0 rfl) ?_
  refine va_get (D := D) (ci := 11) (v := .ref (ad 4)) (C := RX11) (T := TX11) (N := 11) hx hb ht iX11 hown hK hP 0 rfl rfl 0 (by decide) (ht _ kw_696) (fun _ h9 => h9) rfl dX11_opens_48 ?_
  refine va_get (D := D) (ci := 2) (v := .int court_claimCount) (C := RX2) (T := TX2) (N := 13) hx hb ht iX2 hown hK hP 1 rfl rfl 11 (by decide) (ht _ kw_153) (fun _ h9 => h9) rfl dX11_opens_51 ?_
  refine lv_icmp_ge (tgt := 100) hx hb dX11_opens_54 (by decide) (fun c_5 => ?_) (fun c_5 => ?_)
  · have h := zk_t c_5 h
    refine lv_lload hx hb dX11_opens_100 (lv_at hl 3 rfl) ?_
    exact W.lret (v := x4) hx hb hr (fun t ht2 hW => ⟨⟨x4, (inq_day, inq_land, inq_shoeLeftOut, inq_judgedShoes, inq_bindingShoes, inq_boundAs, inq_standing, inq_arriving), rfl, Option.some.inj h, by rw [ht2]; exact hP, hD⟩, hS.F ht2⟩) hS.2.2 dX11_opens_102 hlocks
  · have h := zk_f c_5 h
    refine lv_aload_n hx hb dX11_opens_57 rfl (lv_at hl 0 rfl) ?_
    refine va_get (D := D) (ci := 11) (v := .ref (ad 15)) (C := RX11) (T := TX11) (N := 11) hx hb ht iX11 hown hK hP 0 rfl rfl 1 (by decide) (ht _ kw_697) (fun _ h9 => h9) rfl dX11_opens_58 ?_
    refine lv_aload_nN hx hb dX11_opens_61 rfl (lv_at hl 2 rfl) ?_
    refine lv_iload hx hb dX11_opens_62 (lv_at hl 4 rfl) ?_
    refine lv_iconst (v := (-1 : Int32)) hx hb dX11_opens_64 (by decide) ?_
    cases h
set_option maxHeartbeats 4000000 in
set_option maxRecDepth 100000 in
theorem L_X11_opens_0 {p : Program} {l : Launch} {e : Env} {s : State} {m : MethodId} {args : Array Value} {below : List Frame} {meth : Method} {c : Code} {A : Nat → Prop} {D : va_G} {cs : Nat → ClassId} {ad : Nat → Nat} {court_shoeCount : Int32} {court_claimCount : Int32} {court_suitCount : Int32} {court_shoePerson : Nat → Int32} {court_shoeOther : Nat → Int32} {R : Int64 × Int32 × Int32 × Int32 × (Nat → Int64) × (Nat → Int64) × (Nat → Int32) × (Nat → Int32) × (Nat → Int32)} {g45 : Int32 → Int64 → Int32 → Int32 → Int32 → Int32 → (Nat → Int64) → (Nat → Int64) → (Nat → Int32) → (Nat → Int32) → (Nat → Int32) → (Option (Int64 × Int32 × Int32 × Int32 × (Nat → Int64) × (Nat → Int64) × (Nat → Int32) × (Nat → Int32) × (Nat → Int32)))} (C0 : zC p s m args meth c cX11_opens 7 (some .long) RX11 zW) (hK : va_K D classes (zT cs) s) (hA : ∀ q : Nat, s.heap.size ≤ q → A q) (ih45 : ∀ (x1 : Int32) (x4 : Int64) (x6 : Int32) (inq_day : Int32) (inq_land : Int32) (inq_shoeLeftOut : Int32) (inq_judgedShoes : Nat → Int64) (inq_bindingShoes : Nat → Int64) (inq_boundAs : Nat → Int32) (inq_standing : Nat → Int32) (inq_arriving : Nat → Int32) (h : g45 x1 x4 x6 inq_day inq_land inq_shoeLeftOut inq_judgedShoes inq_bindingShoes inq_boundAs inq_standing inq_arriving = some R) (H : Heap) (locs : List Loc) (ls : Array Slot) (hP : va_P D classes (wl_X11_opens ad cs court_shoeCount court_claimCount court_suitCount court_shoePerson court_shoeOther inq_day inq_land inq_shoeLeftOut inq_judgedShoes inq_bindingShoes inq_boundAs inq_standing inq_arriving) H) (hD : va_D A (wl_X11_opens ad cs court_shoeCount court_claimCount court_suitCount court_shoePerson court_shoeOther inq_day inq_land inq_shoeLeftOut inq_judgedShoes inq_bindingShoes inq_boundAs inq_standing inq_arriving)) (hS : va_S A s.heap H locs) (hl : lv_has ls 7 [(0, .ref (ad 0)), (1, .int x1), (3, .null), (4, .long x4), (6, .int x6)]), W p l e rm_X11_opens s m args below meth c H locs 0 0 (MQ below (Q_X11_opens D cs ad court_shoeCount court_claimCount court_suitCount court_shoePerson court_shoeOther A R) args s 0 0 A) (F0 m 45 ls [])) (x1 : Int32) (x2 : Int32) (inq_day : Int32) (inq_land : Int32) (inq_shoeLeftOut : Int32) (inq_judgedShoes : Nat → Int64) (inq_bindingShoes : Nat → Int64) (inq_boundAs : Nat → Int32) (inq_standing : Nat → Int32) (inq_arriving : Nat → Int32) (h : B_X11_opens_0 g45 court_shoeCount court_claimCount court_suitCount court_shoePerson court_shoeOther x1 x2 inq_day inq_land inq_shoeLeftOut inq_judgedShoes inq_bindingShoes inq_boundAs inq_standing inq_arriving = some R) (H : Heap) (locs : List Loc) (ls : Array Slot) (hP : va_P D classes (wl_X11_opens ad cs court_shoeCount court_claimCount court_suitCount court_shoePerson court_shoeOther inq_day inq_land inq_shoeLeftOut inq_judgedShoes inq_bindingShoes inq_boundAs inq_standing inq_arriving) H) (hD : va_D A (wl_X11_opens ad cs court_shoeCount court_claimCount court_suitCount court_shoePerson court_shoeOther inq_day inq_land inq_shoeLeftOut inq_judgedShoes inq_bindingShoes inq_boundAs inq_standing inq_arriving)) (hS : va_S A s.heap H locs) (hl : lv_has ls 7 [(0, .ref (ad 0)), (1, .int x1), (2, .int x2)]) : W p l e rm_X11_opens s m args below meth c H locs 0 0 (MQ below (Q_X11_opens D cs ad court_shoeCount court_claimCount court_suitCount court_shoePerson court_shoeOther A R) args s 0 0 A) (F0 m 0 ls []) := by
  obtain ⟨hx, hb, hr, hml, hown, ht, hlocks⟩ := id C0
  refine lv_aload_n hx hb dX11_opens_0 rfl (lv_at hl 0 rfl) ?_
  refine va_get (D := D) (ci := 11) (v := .ref (ad 4)) (C := RX11) (T := TX11) (N := 11) hx hb ht iX11 hown hK hP 0 rfl rfl 0 (by decide) (ht _ kw_696) (fun _ h9 => h9) rfl dX11_opens_1 ?_
  refine lv_iload_n hx hb dX11_opens_4 rfl (lv_at hl 1 rfl) ?_
  obtain ⟨r_1, u_2, hc_3, h⟩ := zk_o2 h
  refine zk_vq (post := (fun r u => r = (if r_1 = true then some 0 else none) ∧ u = (u_2))) (w1 := fun u => (wl_X2_suitAt ad cs court_shoeCount court_claimCount court_suitCount)) (As := [.int x1]) (rest := []) (c_X2_suitAt l D cs ad  H.size x1 court_shoeCount court_claimCount court_suitCount _ hc_3) ⟨hx, hb, hml, hown, ht⟩ (cwV 1 ht g_X11_207 rfl rfl rfl (by decide +kernel) ⟨Nat.le_of_ble_eq_true rfl, Nat.le_of_ble_eq_true rfl⟩) (va_recv hK hP (ci := 2) (q0 := 1) rfl rfl) hP hD hS hK hA [1] [0, 2, 3, 4, 5, 6, 7, 8, 9] rfl rfl rfl rfl (by decide) rfl hl.1 (Nat.le_of_ble_eq_true rfl) dX11_opens_5 ⟨Nat.zero_le _, Nat.zero_le _⟩ (fun r u H locs hq hP hD hS => ?_)
  obtain ⟨hq1, hq2⟩ := hq; cases hq2; subst hq1
  have hP : va_P D classes (wl_X11_opens ad cs court_shoeCount court_claimCount court_suitCount court_shoePerson court_shoeOther inq_day inq_land inq_shoeLeftOut inq_judgedShoes inq_bindingShoes inq_boundAs inq_standing inq_arriving) H := hP.sub [0, 9, 1, 2, 3, 4, 5, 6, 7, 8] rfl
  have hD : va_D A (wl_X11_opens ad cs court_shoeCount court_claimCount court_suitCount court_shoePerson court_shoeOther inq_day inq_land inq_shoeLeftOut inq_judgedShoes inq_bindingShoes inq_boundAs inq_standing inq_arriving) := hD.sub [0, 9, 1, 2, 3, 4, 5, 6, 7, 8] rfl rfl
  by_cases c_4 : r_1 = true
  · have h := zk_t c_4 h
    cases h
  · have h := zk_f c_4 h
    refine W.eq (g2 := F0 m 8 ls [.null]) (by rw [if_neg c_4]; rfl) ?_
    refine lv_astore_nN (lv' := [(3, .null), (0, .ref (ad 0)), (1, .int x1), (2, .int x2)]) hx hb dX11_opens_8 rfl hl (by decide) rfl (fun ls hl => ?_)
    refine lv_aload_nN hx hb dX11_opens_9 rfl (lv_at hl 0 rfl) ?_
    refine lv_ifnullN (tgt := 20) hx hb dX11_opens_10 (by decide) ?_
    refine lv_ldc2 (v := (-1 : Int64)) hx hb hown (ht _ kw_1072) dX11_opens_20 ?_
    exact W.lret (v := (-1 : Int64)) hx hb hr (fun t ht2 hW => ⟨⟨(-1 : Int64), (inq_day, inq_land, inq_shoeLeftOut, inq_judgedShoes, inq_bindingShoes, inq_boundAs, inq_standing, inq_arriving), rfl, Option.some.inj h, by rw [ht2]; exact hP, hD⟩, hS.F ht2⟩) hS.2.2 dX11_opens_23 hlocks
theorem LG_X11_opens {p : Program} {l : Launch} {e : Env} {s : State} {m : MethodId} {args : Array Value} {below : List Frame} {meth : Method} {c : Code} {A : Nat → Prop} {D : va_G} {cs : Nat → ClassId} {ad : Nat → Nat} {court_shoeCount : Int32} {court_claimCount : Int32} {court_suitCount : Int32} {court_shoePerson : Nat → Int32} {court_shoeOther : Nat → Int32} {R : Int64 × Int32 × Int32 × Int32 × (Nat → Int64) × (Nat → Int64) × (Nat → Int32) × (Nat → Int32) × (Nat → Int32)} (C0 : zC p s m args meth c cX11_opens 7 (some .long) RX11 zW) (hK : va_K D classes (zT cs) s) (hA : ∀ q : Nat, s.heap.size ≤ q → A q) : ∀ n : Nat, (∀ (x1 : Int32) (x4 : Int64) (x6 : Int32) (inq_day : Int32) (inq_land : Int32) (inq_shoeLeftOut : Int32) (inq_judgedShoes : Nat → Int64) (inq_bindingShoes : Nat → Int64) (inq_boundAs : Nat → Int32) (inq_standing : Nat → Int32) (inq_arriving : Nat → Int32) (h : (G_X11_opens   court_shoeCount court_claimCount court_suitCount court_shoePerson court_shoeOther n) x1 x4 x6 inq_day inq_land inq_shoeLeftOut inq_judgedShoes inq_bindingShoes inq_boundAs inq_standing inq_arriving = some R) (H : Heap) (locs : List Loc) (ls : Array Slot) (hP : va_P D classes (wl_X11_opens ad cs court_shoeCount court_claimCount court_suitCount court_shoePerson court_shoeOther inq_day inq_land inq_shoeLeftOut inq_judgedShoes inq_bindingShoes inq_boundAs inq_standing inq_arriving) H) (hD : va_D A (wl_X11_opens ad cs court_shoeCount court_claimCount court_suitCount court_shoePerson court_shoeOther inq_day inq_land inq_shoeLeftOut inq_judgedShoes inq_bindingShoes inq_boundAs inq_standing inq_arriving)) (hS : va_S A s.heap H locs) (hl : lv_has ls 7 [(0, .ref (ad 0)), (1, .int x1), (3, .null), (4, .long x4), (6, .int x6)]), W p l e rm_X11_opens s m args below meth c H locs 0 0 (MQ below (Q_X11_opens D cs ad court_shoeCount court_claimCount court_suitCount court_shoePerson court_shoeOther A R) args s 0 0 A) (F0 m 45 ls [])) := by
  intro n
  induction n with
  | zero =>
    refine ?_ <;> (intros; rename_i h _ _ _ _ _ _ _; cases h)
  | succ n ih =>
    exact L_X11_opens_45 C0 hK hA  ih
set_option maxHeartbeats 4000000 in
set_option maxRecDepth 100000 in
theorem c_X11_opens (l : Launch) (D : va_G) (cs : Nat → ClassId) (ad : Nat → Nat) (sz : Nat) (n : Nat) (x1 : Int32) (x2 : Int32) (court_shoeCount : Int32) (court_claimCount : Int32) (court_suitCount : Int32) (court_shoePerson : Nat → Int32) (court_shoeOther : Nat → Int32) (inq_day : Int32) (inq_land : Int32) (inq_shoeLeftOut : Int32) (inq_judgedShoes : Nat → Int64) (inq_bindingShoes : Nat → Int64) (inq_boundAs : Nat → Int32) (inq_standing : Nat → Int32) (inq_arriving : Nat → Int32) (R : Int64 × Int32 × Int32 × Int32 × (Nat → Int64) × (Nat → Int64) × (Nat → Int32) × (Nat → Int32) × (Nat → Int32)) (h : f_X11_opens   n x1 x2 court_shoeCount court_claimCount court_suitCount court_shoePerson court_shoeOther inq_day inq_land inq_shoeLeftOut inq_judgedShoes inq_bindingShoes inq_boundAs inq_standing inq_arriving = some R) : Met l yX11_opens (z_X11_opens) rm_X11_opens (va_Pc [.ref (ad 0), .int x1, .int x2] (zPre D cs (wl_X11_opens ad cs court_shoeCount court_claimCount court_suitCount court_shoePerson court_shoeOther inq_day inq_land inq_shoeLeftOut inq_judgedShoes inq_bindingShoes inq_boundAs inq_standing inq_arriving) sz)) (Q_X11_opens D cs ad court_shoeCount court_claimCount court_suitCount court_shoePerson court_shoeOther (va_A (wl_X11_opens ad cs court_shoeCount court_claimCount court_suitCount court_shoePerson court_shoeOther inq_day inq_land inq_shoeLeftOut inq_judgedShoes inq_bindingShoes inq_boundAs inq_standing inq_arriving) sz) R) 0 0 (va_A (wl_X11_opens ad cs court_shoeCount court_claimCount court_suitCount court_shoePerson court_shoeOther inq_day inq_land inq_shoeLeftOut inq_judgedShoes inq_bindingShoes inq_boundAs inq_standing inq_arriving) sz) := by
  refine Met.ofW (cc := cX11_opens) (maxL := 7) (ret := (some .long)) (by decide) rfl ?_
  intro p e s m args below meth c s₁ B hml hv
  obtain ⟨rfl, hsz, hP, hK, hD0⟩ := hv
  subst hsz
  have hD := hD0.self (sz := s.heap.size)
  have C0 : zC p s m _ meth c cX11_opens 7 (some .long) RX11 zW := ⟨B.exec, B.bytes, B.returns, hml, findClass_of_methodNamed B.named, fun w hw => atoms_spec (ws := z_X11_opens) B.pre w (List.mem_cons_of_mem _ hw), B.notSynchronized⟩
  have hA : ∀ q : Nat, s.heap.size ≤ q → va_A (wl_X11_opens ad cs court_shoeCount court_claimCount court_suitCount court_shoePerson court_shoeOther inq_day inq_land inq_shoeLeftOut inq_judgedShoes inq_bindingShoes inq_boundAs inq_standing inq_arriving) s.heap.size q := fun q h => Or.inr h
  have hl := lv_entry ([.ref (ad 0), .int x1, .int x2]) (n := 7) (Nat.le_of_ble_eq_true rfl)
  rw [lg_entry_eq]
  generalize (lg_sl ([.ref (ad 0), .int x1, .int x2]) ++ List.replicate (7 - (lg_sl ([.ref (ad 0), .int x1, .int x2])).length) Slot.unset).toArray = ls at hl ⊢
  exact L_X11_opens_0 C0 hK hA  ((LG_X11_opens C0 hK hA  n)) x1 x2 inq_day inq_land inq_shoeLeftOut inq_judgedShoes inq_bindingShoes inq_boundAs inq_standing inq_arriving h s.heap [] ls hP hD va_S.rf hl
theorem dX11_clash_0 : decode cX11_clash 0 = .ok (.iload_n 1, 1) := by decide +kernel
theorem dX11_clash_1 : decode cX11_clash 1 = .ok (.iconst (-1), 1) := by decide +kernel
theorem dX11_clash_2 : decode cX11_clash 2 = .ok (.if_icmp .ge 5, 3) := by decide +kernel
theorem dX11_clash_5 : decode cX11_clash 5 = .ok (.iconst (-1), 1) := by decide +kernel
theorem dX11_clash_6 : decode cX11_clash 6 = .ok (.ireturn, 1) := by decide +kernel
theorem dX11_clash_7 : decode cX11_clash 7 = .ok (.iconst 0, 1) := by decide +kernel
theorem dX11_clash_8 : decode cX11_clash 8 = .ok (.istore_n 2, 1) := by decide +kernel
theorem dX11_clash_9 : decode cX11_clash 9 = .ok (.iconst 0, 1) := by decide +kernel
theorem dX11_clash_10 : decode cX11_clash 10 = .ok (.istore_n 3, 1) := by decide +kernel
theorem dX11_clash_11 : decode cX11_clash 11 = .ok (.iload_n 3, 1) := by decide +kernel
theorem dX11_clash_12 : decode cX11_clash 12 = .ok (.bipush 32, 2) := by decide +kernel
theorem dX11_clash_14 : decode cX11_clash 14 = .ok (.if_icmp .ge 82, 3) := by decide +kernel
theorem dX11_clash_17 : decode cX11_clash 17 = .ok (.iconst 0, 1) := by decide +kernel
theorem dX11_clash_18 : decode cX11_clash 18 = .ok (.istore 4, 2) := by decide +kernel
theorem dX11_clash_20 : decode cX11_clash 20 = .ok (.iload 4, 2) := by decide +kernel
theorem dX11_clash_22 : decode cX11_clash 22 = .ok (.aload_n 0, 1) := by decide +kernel
theorem dX11_clash_23 : decode cX11_clash 23 = .ok (.getfield 10, 3) := by decide +kernel
theorem dX11_clash_26 : decode cX11_clash 26 = .ok (.getfield 191, 3) := by decide +kernel
theorem dX11_clash_29 : decode cX11_clash 29 = .ok (.if_icmp .ge 61, 3) := by decide +kernel
theorem dX11_clash_32 : decode cX11_clash 32 = .ok (.aload_n 0, 1) := by decide +kernel
theorem dX11_clash_33 : decode cX11_clash 33 = .ok (.getfield 10, 3) := by decide +kernel
theorem dX11_clash_36 : decode cX11_clash 36 = .ok (.iload_n 3, 1) := by decide +kernel
theorem dX11_clash_37 : decode cX11_clash 37 = .ok (.iload 4, 2) := by decide +kernel
theorem dX11_clash_79 : decode cX11_clash 79 = .ok (.iload_n 2, 1) := by decide +kernel
theorem dX11_clash_80 : decode cX11_clash 80 = .ok (.iload 7, 2) := by decide +kernel
theorem dX11_clash_82 : decode cX11_clash 82 = .ok (.iadd, 1) := by decide +kernel
theorem dX11_clash_83 : decode cX11_clash 83 = .ok (.istore_n 2, 1) := by decide +kernel
theorem dX11_clash_84 : decode cX11_clash 84 = .ok (.iinc 4 1, 3) := by decide +kernel
theorem dX11_clash_87 : decode cX11_clash 87 = .ok (.goto (-67), 3) := by decide +kernel
theorem dX11_clash_90 : decode cX11_clash 90 = .ok (.iinc 3 1, 3) := by decide +kernel
theorem dX11_clash_93 : decode cX11_clash 93 = .ok (.goto (-82), 3) := by decide +kernel
theorem dX11_clash_96 : decode cX11_clash 96 = .ok (.iload_n 1, 1) := by decide +kernel
theorem dX11_clash_97 : decode cX11_clash 97 = .ok (.ifCond .ge 7, 3) := by decide +kernel
theorem dX11_clash_100 : decode cX11_clash 100 = .ok (.iload_n 2, 1) := by decide +kernel
theorem dX11_clash_101 : decode cX11_clash 101 = .ok (.goto 4, 3) := by decide +kernel
theorem dX11_clash_104 : decode cX11_clash 104 = .ok (.iconst (-1), 1) := by decide +kernel
theorem dX11_clash_105 : decode cX11_clash 105 = .ok (.ireturn, 1) := by decide +kernel
abbrev z_X11_clash : List Cond := .code yX11_clash cX11_clash 8 (some .int) :: zW
abbrev wl_X11_clash (ad : Nat → Nat) (cs : Nat → ClassId)  (court_shoeCount : Int32) (court_claimCount : Int32) (court_suitCount : Int32) : va_W := [((ad 0), .inr (11, [.ref (ad 4), .ref (ad 15), .ref (ad 23), .ref (ad 25), .ref (ad 26), .ref (ad 28), .ref (ad 34), .ref (ad 39), .ref (ad 1), .ref (ad 2), .ref (ad 3)])), ((ad 4), .inr (2, [.ref (ad 5), .ref (ad 6), .ref (ad 7), .ref (ad 8), .ref (ad 9), .ref (ad 10), .ref (ad 11), .ref (ad 12), .ref (ad 13), .ref (ad 14), .int court_shoeCount, .int court_claimCount, .int court_suitCount]))]
def Q_X11_clash (D : va_G) (cs : Nat → ClassId) (ad : Nat → Nat)  (court_shoeCount : Int32) (court_claimCount : Int32) (court_suitCount : Int32) (A : Nat → Prop) (R : Int32 × Unit) : Array Value → State → Outcome → State → Prop :=
  va_Qi (fun (r : Int32) (u : Unit) => (r, u) = R) (fun (u : Unit) (t : State) => va_P D classes (wl_X11_clash ad cs court_shoeCount court_claimCount court_suitCount) t.heap ∧ va_D A (wl_X11_clash ad cs court_shoeCount court_claimCount court_suitCount)) A
abbrev rm_X11_clash : Room := { frames := 0, cells := 0, slots := 0, locals := 0 }
def B_X11_clash_79   (g11 : Int32 → Int32 → Int32 → (Option (Int32 × Unit))) (g20 : Int32 → Int32 → Int32 → Int32 → (Option (Int32 × Unit))) (court_shoeCount : Int32) (court_claimCount : Int32) (court_suitCount : Int32) (x1 : Int32) (x2 : Int32) (x3 : Int32) (x4 : Int32) (x7 : Int32) : Option (Int32 × Unit) :=
  (zk_let (x2 + x7) (fun v_6 => (zk_let (x4 + (1 : Int32)) (fun v_7 => (g20 x1 v_6 x3 v_7)))))
def B_X11_clash_20   (g11 : Int32 → Int32 → Int32 → (Option (Int32 × Unit))) (g20 : Int32 → Int32 → Int32 → Int32 → (Option (Int32 × Unit))) (court_shoeCount : Int32) (court_claimCount : Int32) (court_suitCount : Int32) (x1 : Int32) (x2 : Int32) (x3 : Int32) (x4 : Int32) : Option (Int32 × Unit) :=
  (if court_suitCount ≤ x4 then (zk_let (x3 + (1 : Int32)) (fun v_5 => (g11 x1 x2 v_5))) else none)
def B_X11_clash_11   (g11 : Int32 → Int32 → Int32 → (Option (Int32 × Unit))) (g20 : Int32 → Int32 → Int32 → Int32 → (Option (Int32 × Unit))) (court_shoeCount : Int32) (court_claimCount : Int32) (court_suitCount : Int32) (x1 : Int32) (x2 : Int32) (x3 : Int32) : Option (Int32 × Unit) :=
  (if (32 : Int32) ≤ x3 then (if 0 ≤ x1 then (some ((-1 : Int32), ())) else (some (x2, ()))) else (g20 x1 x2 x3 (0 : Int32)))
def B_X11_clash_0   (g11 : Int32 → Int32 → Int32 → (Option (Int32 × Unit))) (g20 : Int32 → Int32 → Int32 → Int32 → (Option (Int32 × Unit))) (court_shoeCount : Int32) (court_claimCount : Int32) (court_suitCount : Int32) (x1 : Int32) : Option (Int32 × Unit) :=
  (if (-1 : Int32) ≤ x1 then (g11 x1 (0 : Int32) (0 : Int32)) else (some ((-1 : Int32), ())))
def G_X11_clash   (court_shoeCount : Int32) (court_claimCount : Int32) (court_suitCount : Int32) (n : Nat) : (Int32 → Int32 → Int32 → (Option (Int32 × Unit))) × (Int32 → Int32 → Int32 → Int32 → (Option (Int32 × Unit))) :=
  Nat.rec (motive := fun _ => (Int32 → Int32 → Int32 → (Option (Int32 × Unit))) × (Int32 → Int32 → Int32 → Int32 → (Option (Int32 × Unit)))) ((fun _ _ _ => none), (fun _ _ _ _ => none)) (fun _ ih => (B_X11_clash_11   ih.1 ih.2 court_shoeCount court_claimCount court_suitCount, B_X11_clash_20   ih.1 ih.2 court_shoeCount court_claimCount court_suitCount)) n
def f_X11_clash   (n : Nat) (x1 : Int32) (court_shoeCount : Int32) (court_claimCount : Int32) (court_suitCount : Int32) : Option (Int32 × Unit) := B_X11_clash_0   ((G_X11_clash   court_shoeCount court_claimCount court_suitCount n).1) ((G_X11_clash   court_shoeCount court_claimCount court_suitCount n).2) court_shoeCount court_claimCount court_suitCount x1 
set_option maxHeartbeats 4000000 in
set_option maxRecDepth 100000 in
theorem L_X11_clash_79 {p : Program} {l : Launch} {e : Env} {s : State} {m : MethodId} {args : Array Value} {below : List Frame} {meth : Method} {c : Code} {A : Nat → Prop} {D : va_G} {cs : Nat → ClassId} {ad : Nat → Nat} {court_shoeCount : Int32} {court_claimCount : Int32} {court_suitCount : Int32} {R : Int32 × Unit} {g11 : Int32 → Int32 → Int32 → (Option (Int32 × Unit))} {g20 : Int32 → Int32 → Int32 → Int32 → (Option (Int32 × Unit))} (C0 : zC p s m args meth c cX11_clash 8 (some .int) RX11 zW) (hK : va_K D classes (zT cs) s) (hA : ∀ q : Nat, s.heap.size ≤ q → A q) (ih11 : ∀ (x1 : Int32) (x2 : Int32) (x3 : Int32) (h : g11 x1 x2 x3 = some R) (H : Heap) (locs : List Loc) (ls : Array Slot) (hP : va_P D classes (wl_X11_clash ad cs court_shoeCount court_claimCount court_suitCount) H) (hD : va_D A (wl_X11_clash ad cs court_shoeCount court_claimCount court_suitCount)) (hS : va_S A s.heap H locs) (hl : lv_has ls 8 [(0, .ref (ad 0)), (1, .int x1), (2, .int x2), (3, .int x3)]), W p l e rm_X11_clash s m args below meth c H locs 0 0 (MQ below (Q_X11_clash D cs ad court_shoeCount court_claimCount court_suitCount A R) args s 0 0 A) (F0 m 11 ls [])) (ih20 : ∀ (x1 : Int32) (x2 : Int32) (x3 : Int32) (x4 : Int32) (h : g20 x1 x2 x3 x4 = some R) (H : Heap) (locs : List Loc) (ls : Array Slot) (hP : va_P D classes (wl_X11_clash ad cs court_shoeCount court_claimCount court_suitCount) H) (hD : va_D A (wl_X11_clash ad cs court_shoeCount court_claimCount court_suitCount)) (hS : va_S A s.heap H locs) (hl : lv_has ls 8 [(0, .ref (ad 0)), (1, .int x1), (2, .int x2), (3, .int x3), (4, .int x4)]), W p l e rm_X11_clash s m args below meth c H locs 0 0 (MQ below (Q_X11_clash D cs ad court_shoeCount court_claimCount court_suitCount A R) args s 0 0 A) (F0 m 20 ls [])) (x1 : Int32) (x2 : Int32) (x3 : Int32) (x4 : Int32) (x7 : Int32) (h : B_X11_clash_79 g11 g20 court_shoeCount court_claimCount court_suitCount x1 x2 x3 x4 x7 = some R) (H : Heap) (locs : List Loc) (ls : Array Slot) (hP : va_P D classes (wl_X11_clash ad cs court_shoeCount court_claimCount court_suitCount) H) (hD : va_D A (wl_X11_clash ad cs court_shoeCount court_claimCount court_suitCount)) (hS : va_S A s.heap H locs) (hl : lv_has ls 8 [(0, .ref (ad 0)), (1, .int x1), (2, .int x2), (3, .int x3), (4, .int x4), (7, .int x7)]) : W p l e rm_X11_clash s m args below meth c H locs 0 0 (MQ below (Q_X11_clash D cs ad court_shoeCount court_claimCount court_suitCount A R) args s 0 0 A) (F0 m 79 ls []) := by
  obtain ⟨hx, hb, hr, hml, hown, ht, hlocks⟩ := id C0
  refine lv_iload_n hx hb dX11_clash_79 rfl (lv_at hl 2 rfl) ?_
  refine lv_iload hx hb dX11_clash_80 (lv_at hl 5 rfl) ?_
  refine lv_iadd hx hb dX11_clash_82 ?_
  obtain ⟨v_6, ev_6, h⟩ := zk_lt h
  refine W.eq (g2 := F0 m 83 ls [.int v_6]) (by rw [ev_6]) ?_
  refine lv_istore_n (lv' := [(2, .int v_6), (0, .ref (ad 0)), (1, .int x1), (3, .int x3), (4, .int x4), (7, .int x7)]) hx hb dX11_clash_83 rfl hl (by decide) rfl (fun ls hl => ?_)
  obtain ⟨v_7, ev_7, h⟩ := zk_lt h
  refine lv_iinc (v := v_7) (lv' := [(4, .int v_7), (2, .int v_6), (0, .ref (ad 0)), (1, .int x1), (3, .int x3), (7, .int x7)]) hx hb dX11_clash_84 hl (k := 4) rfl (by rw [ev_7]; rfl) (by decide) rfl (fun ls hl => ?_)
  refine lv_goto (tgt := 20) hx hb dX11_clash_87 (by decide) ?_
  exact ih20 x1 v_6 x3 v_7 h H locs ls hP hD hS (lv_sub hl [2, 3, 1, 4, 0] rfl)
set_option maxHeartbeats 4000000 in
set_option maxRecDepth 100000 in
theorem L_X11_clash_20 {p : Program} {l : Launch} {e : Env} {s : State} {m : MethodId} {args : Array Value} {below : List Frame} {meth : Method} {c : Code} {A : Nat → Prop} {D : va_G} {cs : Nat → ClassId} {ad : Nat → Nat} {court_shoeCount : Int32} {court_claimCount : Int32} {court_suitCount : Int32} {R : Int32 × Unit} {g11 : Int32 → Int32 → Int32 → (Option (Int32 × Unit))} {g20 : Int32 → Int32 → Int32 → Int32 → (Option (Int32 × Unit))} (C0 : zC p s m args meth c cX11_clash 8 (some .int) RX11 zW) (hK : va_K D classes (zT cs) s) (hA : ∀ q : Nat, s.heap.size ≤ q → A q) (ih11 : ∀ (x1 : Int32) (x2 : Int32) (x3 : Int32) (h : g11 x1 x2 x3 = some R) (H : Heap) (locs : List Loc) (ls : Array Slot) (hP : va_P D classes (wl_X11_clash ad cs court_shoeCount court_claimCount court_suitCount) H) (hD : va_D A (wl_X11_clash ad cs court_shoeCount court_claimCount court_suitCount)) (hS : va_S A s.heap H locs) (hl : lv_has ls 8 [(0, .ref (ad 0)), (1, .int x1), (2, .int x2), (3, .int x3)]), W p l e rm_X11_clash s m args below meth c H locs 0 0 (MQ below (Q_X11_clash D cs ad court_shoeCount court_claimCount court_suitCount A R) args s 0 0 A) (F0 m 11 ls [])) (ih20 : ∀ (x1 : Int32) (x2 : Int32) (x3 : Int32) (x4 : Int32) (h : g20 x1 x2 x3 x4 = some R) (H : Heap) (locs : List Loc) (ls : Array Slot) (hP : va_P D classes (wl_X11_clash ad cs court_shoeCount court_claimCount court_suitCount) H) (hD : va_D A (wl_X11_clash ad cs court_shoeCount court_claimCount court_suitCount)) (hS : va_S A s.heap H locs) (hl : lv_has ls 8 [(0, .ref (ad 0)), (1, .int x1), (2, .int x2), (3, .int x3), (4, .int x4)]), W p l e rm_X11_clash s m args below meth c H locs 0 0 (MQ below (Q_X11_clash D cs ad court_shoeCount court_claimCount court_suitCount A R) args s 0 0 A) (F0 m 20 ls [])) (x1 : Int32) (x2 : Int32) (x3 : Int32) (x4 : Int32) (h : B_X11_clash_20 g11 g20 court_shoeCount court_claimCount court_suitCount x1 x2 x3 x4 = some R) (H : Heap) (locs : List Loc) (ls : Array Slot) (hP : va_P D classes (wl_X11_clash ad cs court_shoeCount court_claimCount court_suitCount) H) (hD : va_D A (wl_X11_clash ad cs court_shoeCount court_claimCount court_suitCount)) (hS : va_S A s.heap H locs) (hl : lv_has ls 8 [(0, .ref (ad 0)), (1, .int x1), (2, .int x2), (3, .int x3), (4, .int x4)]) : W p l e rm_X11_clash s m args below meth c H locs 0 0 (MQ below (Q_X11_clash D cs ad court_shoeCount court_claimCount court_suitCount A R) args s 0 0 A) (F0 m 20 ls []) := by
  obtain ⟨hx, hb, hr, hml, hown, ht, hlocks⟩ := id C0
  refine lv_iload hx hb dX11_clash_20 (lv_at hl 4 rfl) ?_
  refine lv_aload_n hx hb dX11_clash_22 rfl (lv_at hl 0 rfl) ?_
  refine va_get (D := D) (ci := 11) (v := .ref (ad 4)) (C := RX11) (T := TX11) (N := 11) hx hb ht iX11 hown hK hP 0 rfl rfl 0 (by decide) (ht _ kw_696) (fun _ h9 => h9) rfl dX11_clash_23 ?_
  refine va_get (D := D) (ci := 2) (v := .int court_suitCount) (C := RX2) (T := TX2) (N := 13) hx hb ht iX2 hown hK hP 1 rfl rfl 12 (by decide) (ht _ kw_155) (fun _ h9 => h9) rfl dX11_clash_26 ?_
  refine lv_icmp_ge (tgt := 90) hx hb dX11_clash_29 (by decide) (fun c_4 => ?_) (fun c_4 => ?_)
  · have h := zk_t c_4 h
    obtain ⟨v_5, ev_5, h⟩ := zk_lt h
    refine lv_iinc (v := v_5) (lv' := [(3, .int v_5), (0, .ref (ad 0)), (1, .int x1), (2, .int x2), (4, .int x4)]) hx hb dX11_clash_90 hl (k := 3) rfl (by rw [ev_5]; rfl) (by decide) rfl (fun ls hl => ?_)
    refine lv_goto (tgt := 11) hx hb dX11_clash_93 (by decide) ?_
    exact ih11 x1 x2 v_5 h H locs ls hP hD hS (lv_sub hl [1, 2, 3, 0] rfl)
  · have h := zk_f c_4 h
    refine lv_aload_n hx hb dX11_clash_32 rfl (lv_at hl 0 rfl) ?_
    refine va_get (D := D) (ci := 11) (v := .ref (ad 4)) (C := RX11) (T := TX11) (N := 11) hx hb ht iX11 hown hK hP 0 rfl rfl 0 (by decide) (ht _ kw_696) (fun _ h9 => h9) rfl dX11_clash_33 ?_
    refine lv_iload_n hx hb dX11_clash_36 rfl (lv_at hl 3 rfl) ?_
    refine lv_iload hx hb dX11_clash_37 (lv_at hl 4 rfl) ?_
    cases h
set_option maxHeartbeats 4000000 in
set_option maxRecDepth 100000 in
theorem L_X11_clash_11 {p : Program} {l : Launch} {e : Env} {s : State} {m : MethodId} {args : Array Value} {below : List Frame} {meth : Method} {c : Code} {A : Nat → Prop} {D : va_G} {cs : Nat → ClassId} {ad : Nat → Nat} {court_shoeCount : Int32} {court_claimCount : Int32} {court_suitCount : Int32} {R : Int32 × Unit} {g11 : Int32 → Int32 → Int32 → (Option (Int32 × Unit))} {g20 : Int32 → Int32 → Int32 → Int32 → (Option (Int32 × Unit))} (C0 : zC p s m args meth c cX11_clash 8 (some .int) RX11 zW) (hK : va_K D classes (zT cs) s) (hA : ∀ q : Nat, s.heap.size ≤ q → A q) (ih11 : ∀ (x1 : Int32) (x2 : Int32) (x3 : Int32) (h : g11 x1 x2 x3 = some R) (H : Heap) (locs : List Loc) (ls : Array Slot) (hP : va_P D classes (wl_X11_clash ad cs court_shoeCount court_claimCount court_suitCount) H) (hD : va_D A (wl_X11_clash ad cs court_shoeCount court_claimCount court_suitCount)) (hS : va_S A s.heap H locs) (hl : lv_has ls 8 [(0, .ref (ad 0)), (1, .int x1), (2, .int x2), (3, .int x3)]), W p l e rm_X11_clash s m args below meth c H locs 0 0 (MQ below (Q_X11_clash D cs ad court_shoeCount court_claimCount court_suitCount A R) args s 0 0 A) (F0 m 11 ls [])) (ih20 : ∀ (x1 : Int32) (x2 : Int32) (x3 : Int32) (x4 : Int32) (h : g20 x1 x2 x3 x4 = some R) (H : Heap) (locs : List Loc) (ls : Array Slot) (hP : va_P D classes (wl_X11_clash ad cs court_shoeCount court_claimCount court_suitCount) H) (hD : va_D A (wl_X11_clash ad cs court_shoeCount court_claimCount court_suitCount)) (hS : va_S A s.heap H locs) (hl : lv_has ls 8 [(0, .ref (ad 0)), (1, .int x1), (2, .int x2), (3, .int x3), (4, .int x4)]), W p l e rm_X11_clash s m args below meth c H locs 0 0 (MQ below (Q_X11_clash D cs ad court_shoeCount court_claimCount court_suitCount A R) args s 0 0 A) (F0 m 20 ls [])) (x1 : Int32) (x2 : Int32) (x3 : Int32) (h : B_X11_clash_11 g11 g20 court_shoeCount court_claimCount court_suitCount x1 x2 x3 = some R) (H : Heap) (locs : List Loc) (ls : Array Slot) (hP : va_P D classes (wl_X11_clash ad cs court_shoeCount court_claimCount court_suitCount) H) (hD : va_D A (wl_X11_clash ad cs court_shoeCount court_claimCount court_suitCount)) (hS : va_S A s.heap H locs) (hl : lv_has ls 8 [(0, .ref (ad 0)), (1, .int x1), (2, .int x2), (3, .int x3)]) : W p l e rm_X11_clash s m args below meth c H locs 0 0 (MQ below (Q_X11_clash D cs ad court_shoeCount court_claimCount court_suitCount A R) args s 0 0 A) (F0 m 11 ls []) := by
  obtain ⟨hx, hb, hr, hml, hown, ht, hlocks⟩ := id C0
  refine lv_iload_n hx hb dX11_clash_11 rfl (lv_at hl 3 rfl) ?_
  refine lv_bipush (v := (32 : Int32)) hx hb dX11_clash_12 (by decide) ?_
  refine lv_icmp_ge (tgt := 96) hx hb dX11_clash_14 (by decide) (fun c_2 => ?_) (fun c_2 => ?_)
  · have h := zk_t c_2 h
    refine lv_iload_n hx hb dX11_clash_96 rfl (lv_at hl 1 rfl) ?_
    refine lv_if_ge (tgt := 104) hx hb dX11_clash_97 (by decide) (fun c_3 => ?_) (fun c_3 => ?_)
    · have h := zk_t c_3 h
      refine lv_iconst (v := (-1 : Int32)) hx hb dX11_clash_104 (by decide) ?_
      exact W.iret (v := (-1 : Int32)) hx hb hr (fun t ht2 hW => ⟨⟨(-1 : Int32), (), rfl, Option.some.inj h, by rw [ht2]; exact hP, hD⟩, hS.F ht2⟩) hS.2.2 dX11_clash_105 hlocks
    · have h := zk_f c_3 h
      refine lv_iload_n hx hb dX11_clash_100 rfl (lv_at hl 2 rfl) ?_
      refine lv_goto (tgt := 105) hx hb dX11_clash_101 (by decide) ?_
      exact W.iret (v := x2) hx hb hr (fun t ht2 hW => ⟨⟨x2, (), rfl, Option.some.inj h, by rw [ht2]; exact hP, hD⟩, hS.F ht2⟩) hS.2.2 dX11_clash_105 hlocks
  · have h := zk_f c_2 h
    refine lv_iconst (v := (0 : Int32)) hx hb dX11_clash_17 (by decide) ?_
    refine lv_istore (lv' := [(4, .int (0 : Int32)), (0, .ref (ad 0)), (1, .int x1), (2, .int x2), (3, .int x3)]) hx hb dX11_clash_18 hl (by decide) rfl (fun ls hl => ?_)
    exact ih20 x1 x2 x3 (0 : Int32) h H locs ls hP hD hS (lv_sub hl [1, 2, 3, 4, 0] rfl)
set_option maxHeartbeats 4000000 in
set_option maxRecDepth 100000 in
theorem L_X11_clash_0 {p : Program} {l : Launch} {e : Env} {s : State} {m : MethodId} {args : Array Value} {below : List Frame} {meth : Method} {c : Code} {A : Nat → Prop} {D : va_G} {cs : Nat → ClassId} {ad : Nat → Nat} {court_shoeCount : Int32} {court_claimCount : Int32} {court_suitCount : Int32} {R : Int32 × Unit} {g11 : Int32 → Int32 → Int32 → (Option (Int32 × Unit))} {g20 : Int32 → Int32 → Int32 → Int32 → (Option (Int32 × Unit))} (C0 : zC p s m args meth c cX11_clash 8 (some .int) RX11 zW) (hK : va_K D classes (zT cs) s) (hA : ∀ q : Nat, s.heap.size ≤ q → A q) (ih11 : ∀ (x1 : Int32) (x2 : Int32) (x3 : Int32) (h : g11 x1 x2 x3 = some R) (H : Heap) (locs : List Loc) (ls : Array Slot) (hP : va_P D classes (wl_X11_clash ad cs court_shoeCount court_claimCount court_suitCount) H) (hD : va_D A (wl_X11_clash ad cs court_shoeCount court_claimCount court_suitCount)) (hS : va_S A s.heap H locs) (hl : lv_has ls 8 [(0, .ref (ad 0)), (1, .int x1), (2, .int x2), (3, .int x3)]), W p l e rm_X11_clash s m args below meth c H locs 0 0 (MQ below (Q_X11_clash D cs ad court_shoeCount court_claimCount court_suitCount A R) args s 0 0 A) (F0 m 11 ls [])) (ih20 : ∀ (x1 : Int32) (x2 : Int32) (x3 : Int32) (x4 : Int32) (h : g20 x1 x2 x3 x4 = some R) (H : Heap) (locs : List Loc) (ls : Array Slot) (hP : va_P D classes (wl_X11_clash ad cs court_shoeCount court_claimCount court_suitCount) H) (hD : va_D A (wl_X11_clash ad cs court_shoeCount court_claimCount court_suitCount)) (hS : va_S A s.heap H locs) (hl : lv_has ls 8 [(0, .ref (ad 0)), (1, .int x1), (2, .int x2), (3, .int x3), (4, .int x4)]), W p l e rm_X11_clash s m args below meth c H locs 0 0 (MQ below (Q_X11_clash D cs ad court_shoeCount court_claimCount court_suitCount A R) args s 0 0 A) (F0 m 20 ls [])) (x1 : Int32) (h : B_X11_clash_0 g11 g20 court_shoeCount court_claimCount court_suitCount x1 = some R) (H : Heap) (locs : List Loc) (ls : Array Slot) (hP : va_P D classes (wl_X11_clash ad cs court_shoeCount court_claimCount court_suitCount) H) (hD : va_D A (wl_X11_clash ad cs court_shoeCount court_claimCount court_suitCount)) (hS : va_S A s.heap H locs) (hl : lv_has ls 8 [(0, .ref (ad 0)), (1, .int x1)]) : W p l e rm_X11_clash s m args below meth c H locs 0 0 (MQ below (Q_X11_clash D cs ad court_shoeCount court_claimCount court_suitCount A R) args s 0 0 A) (F0 m 0 ls []) := by
  obtain ⟨hx, hb, hr, hml, hown, ht, hlocks⟩ := id C0
  refine lv_iload_n hx hb dX11_clash_0 rfl (lv_at hl 1 rfl) ?_
  refine lv_iconst (v := (-1 : Int32)) hx hb dX11_clash_1 (by decide) ?_
  refine lv_icmp_ge (tgt := 7) hx hb dX11_clash_2 (by decide) (fun c_1 => ?_) (fun c_1 => ?_)
  · have h := zk_t c_1 h
    refine lv_iconst (v := (0 : Int32)) hx hb dX11_clash_7 (by decide) ?_
    refine lv_istore_n (lv' := [(2, .int (0 : Int32)), (0, .ref (ad 0)), (1, .int x1)]) hx hb dX11_clash_8 rfl hl (by decide) rfl (fun ls hl => ?_)
    refine lv_iconst (v := (0 : Int32)) hx hb dX11_clash_9 (by decide) ?_
    refine lv_istore_n (lv' := [(3, .int (0 : Int32)), (2, .int (0 : Int32)), (0, .ref (ad 0)), (1, .int x1)]) hx hb dX11_clash_10 rfl hl (by decide) rfl (fun ls hl => ?_)
    exact ih11 x1 (0 : Int32) (0 : Int32) h H locs ls hP hD hS (lv_sub hl [2, 3, 1, 0] rfl)
  · have h := zk_f c_1 h
    refine lv_iconst (v := (-1 : Int32)) hx hb dX11_clash_5 (by decide) ?_
    exact W.iret (v := (-1 : Int32)) hx hb hr (fun t ht2 hW => ⟨⟨(-1 : Int32), (), rfl, Option.some.inj h, by rw [ht2]; exact hP, hD⟩, hS.F ht2⟩) hS.2.2 dX11_clash_6 hlocks
theorem LG_X11_clash {p : Program} {l : Launch} {e : Env} {s : State} {m : MethodId} {args : Array Value} {below : List Frame} {meth : Method} {c : Code} {A : Nat → Prop} {D : va_G} {cs : Nat → ClassId} {ad : Nat → Nat} {court_shoeCount : Int32} {court_claimCount : Int32} {court_suitCount : Int32} {R : Int32 × Unit} (C0 : zC p s m args meth c cX11_clash 8 (some .int) RX11 zW) (hK : va_K D classes (zT cs) s) (hA : ∀ q : Nat, s.heap.size ≤ q → A q) : ∀ n : Nat, (∀ (x1 : Int32) (x2 : Int32) (x3 : Int32) (h : (G_X11_clash   court_shoeCount court_claimCount court_suitCount n).1 x1 x2 x3 = some R) (H : Heap) (locs : List Loc) (ls : Array Slot) (hP : va_P D classes (wl_X11_clash ad cs court_shoeCount court_claimCount court_suitCount) H) (hD : va_D A (wl_X11_clash ad cs court_shoeCount court_claimCount court_suitCount)) (hS : va_S A s.heap H locs) (hl : lv_has ls 8 [(0, .ref (ad 0)), (1, .int x1), (2, .int x2), (3, .int x3)]), W p l e rm_X11_clash s m args below meth c H locs 0 0 (MQ below (Q_X11_clash D cs ad court_shoeCount court_claimCount court_suitCount A R) args s 0 0 A) (F0 m 11 ls [])) ∧ (∀ (x1 : Int32) (x2 : Int32) (x3 : Int32) (x4 : Int32) (h : (G_X11_clash   court_shoeCount court_claimCount court_suitCount n).2 x1 x2 x3 x4 = some R) (H : Heap) (locs : List Loc) (ls : Array Slot) (hP : va_P D classes (wl_X11_clash ad cs court_shoeCount court_claimCount court_suitCount) H) (hD : va_D A (wl_X11_clash ad cs court_shoeCount court_claimCount court_suitCount)) (hS : va_S A s.heap H locs) (hl : lv_has ls 8 [(0, .ref (ad 0)), (1, .int x1), (2, .int x2), (3, .int x3), (4, .int x4)]), W p l e rm_X11_clash s m args below meth c H locs 0 0 (MQ below (Q_X11_clash D cs ad court_shoeCount court_claimCount court_suitCount A R) args s 0 0 A) (F0 m 20 ls [])) := by
  intro n
  induction n with
  | zero =>
    refine ⟨?_, ?_⟩ <;> (intros; rename_i h _ _ _ _ _ _ _; cases h)
  | succ n ih =>
    exact ⟨L_X11_clash_11 C0 hK hA  ih.1 ih.2, L_X11_clash_20 C0 hK hA  ih.1 ih.2⟩
set_option maxHeartbeats 4000000 in
set_option maxRecDepth 100000 in
theorem c_X11_clash (l : Launch) (D : va_G) (cs : Nat → ClassId) (ad : Nat → Nat) (sz : Nat) (n : Nat) (x1 : Int32) (court_shoeCount : Int32) (court_claimCount : Int32) (court_suitCount : Int32) (R : Int32 × Unit) (h : f_X11_clash   n x1 court_shoeCount court_claimCount court_suitCount = some R) : Met l yX11_clash (z_X11_clash) rm_X11_clash (va_Pc [.ref (ad 0), .int x1] (zPre D cs (wl_X11_clash ad cs court_shoeCount court_claimCount court_suitCount) sz)) (Q_X11_clash D cs ad court_shoeCount court_claimCount court_suitCount (va_A (wl_X11_clash ad cs court_shoeCount court_claimCount court_suitCount) sz) R) 0 0 (va_A (wl_X11_clash ad cs court_shoeCount court_claimCount court_suitCount) sz) := by
  refine Met.ofW (cc := cX11_clash) (maxL := 8) (ret := (some .int)) (by decide) rfl ?_
  intro p e s m args below meth c s₁ B hml hv
  obtain ⟨rfl, hsz, hP, hK, hD0⟩ := hv
  subst hsz
  have hD := hD0.self (sz := s.heap.size)
  have C0 : zC p s m _ meth c cX11_clash 8 (some .int) RX11 zW := ⟨B.exec, B.bytes, B.returns, hml, findClass_of_methodNamed B.named, fun w hw => atoms_spec (ws := z_X11_clash) B.pre w (List.mem_cons_of_mem _ hw), B.notSynchronized⟩
  have hA : ∀ q : Nat, s.heap.size ≤ q → va_A (wl_X11_clash ad cs court_shoeCount court_claimCount court_suitCount) s.heap.size q := fun q h => Or.inr h
  have hl := lv_entry ([.ref (ad 0), .int x1]) (n := 8) (Nat.le_of_ble_eq_true rfl)
  rw [lg_entry_eq]
  generalize (lg_sl ([.ref (ad 0), .int x1]) ++ List.replicate (8 - (lg_sl ([.ref (ad 0), .int x1])).length) Slot.unset).toArray = ls at hl ⊢
  exact L_X11_clash_0 C0 hK hA  ((LG_X11_clash C0 hK hA  n).1) ((LG_X11_clash C0 hK hA  n).2) x1  h s.heap [] ls hP hD va_S.rf hl
theorem kw_81 : Cond.initialized RX10 ∈ zW := zwI (i := 81) (by decide +kernel) (by decide +kernel)
theorem kw_390 : Cond.fieldLink RX11 287 "AlreadyJudged$Wishes" "size" "I" ∈ zW := zwI (i := 390) (by decide +kernel) (by decide +kernel)
theorem kw_701 : Cond.fieldLink RX11 51 "AlreadyJudged" "wishes" "LAlreadyJudged$Wishes;" ∈ zW := zwI (i := 701) (by decide +kernel) (by decide +kernel)
theorem kw_1091 : Cond.methodLink RX11 284 yX10_has ∈ zW := zwI (i := 1091) (by decide +kernel) (by decide +kernel)
theorem kw_1092 : Cond.instanceMethod yX10_has ∈ zW := zwI (i := 1092) (by decide +kernel) (by decide +kernel)
theorem kw_1093 : Cond.selects RX10 yX10_has yX10_has ∈ zW := zwI (i := 1093) (by decide +kernel) (by decide +kernel)
theorem kw_1094 : Cond.code yX10_has cX10_has 3 (some .boolean) ∈ zW := zwI (i := 1094) (by decide +kernel) (by decide +kernel)
theorem kw_1095 : Cond.methodLink RX11 288 yX10_add ∈ zW := zwI (i := 1095) (by decide +kernel) (by decide +kernel)
theorem kw_1096 : Cond.instanceMethod yX10_add ∈ zW := zwI (i := 1096) (by decide +kernel) (by decide +kernel)
theorem kw_1097 : Cond.selects RX10 yX10_add yX10_add ∈ zW := zwI (i := 1097) (by decide +kernel) (by decide +kernel)
theorem kw_1098 : Cond.code yX10_add cX10_add 3 none ∈ zW := zwI (i := 1098) (by decide +kernel) (by decide +kernel)
theorem dX11_wish_0 : decode cX11_wish 0 = .ok (.aload_n 0, 1) := by decide +kernel
theorem dX11_wish_1 : decode cX11_wish 1 = .ok (.iload_n 1, 1) := by decide +kernel
theorem dX11_wish_2 : decode cX11_wish 2 = .ok (.invokevirtual 172, 3) := by decide +kernel
theorem dX11_wish_5 : decode cX11_wish 5 = .ok (.ifCond .eq 21, 3) := by decide +kernel
theorem dX11_wish_8 : decode cX11_wish 8 = .ok (.iload_n 2, 1) := by decide +kernel
theorem dX11_wish_9 : decode cX11_wish 9 = .ok (.invokestatic 154, 3) := by decide +kernel
theorem dX11_wish_12 : decode cX11_wish 12 = .ok (.ifCond .eq 14, 3) := by decide +kernel
theorem dX11_wish_15 : decode cX11_wish 15 = .ok (.aload_n 0, 1) := by decide +kernel
theorem dX11_wish_16 : decode cX11_wish 16 = .ok (.getfield 51, 3) := by decide +kernel
theorem dX11_wish_19 : decode cX11_wish 19 = .ok (.iload_n 1, 1) := by decide +kernel
theorem dX11_wish_20 : decode cX11_wish 20 = .ok (.invokevirtual 284, 3) := by decide +kernel
theorem dX11_wish_23 : decode cX11_wish 23 = .ok (.ifCond .eq 5, 3) := by decide +kernel
theorem dX11_wish_26 : decode cX11_wish 26 = .ok (.iconst (-1), 1) := by decide +kernel
theorem dX11_wish_27 : decode cX11_wish 27 = .ok (.ireturn, 1) := by decide +kernel
theorem dX11_wish_28 : decode cX11_wish 28 = .ok (.aload_n 0, 1) := by decide +kernel
theorem dX11_wish_29 : decode cX11_wish 29 = .ok (.getfield 51, 3) := by decide +kernel
theorem dX11_wish_32 : decode cX11_wish 32 = .ok (.getfield 287, 3) := by decide +kernel
theorem dX11_wish_35 : decode cX11_wish 35 = .ok (.iconst 5, 1) := by decide +kernel
theorem dX11_wish_36 : decode cX11_wish 36 = .ok (.if_icmp .lt 6, 3) := by decide +kernel
theorem dX11_wish_39 : decode cX11_wish 39 = .ok (.bipush (-3), 2) := by decide +kernel
theorem dX11_wish_41 : decode cX11_wish 41 = .ok (.ireturn, 1) := by decide +kernel
theorem dX11_wish_42 : decode cX11_wish 42 = .ok (.aload_n 0, 1) := by decide +kernel
theorem dX11_wish_43 : decode cX11_wish 43 = .ok (.getfield 51, 3) := by decide +kernel
theorem dX11_wish_46 : decode cX11_wish 46 = .ok (.iload_n 1, 1) := by decide +kernel
theorem dX11_wish_47 : decode cX11_wish 47 = .ok (.iload_n 2, 1) := by decide +kernel
theorem dX11_wish_48 : decode cX11_wish 48 = .ok (.invokevirtual 288, 3) := by decide +kernel
theorem dX11_wish_51 : decode cX11_wish 51 = .ok (.aload_n 0, 1) := by decide +kernel
theorem dX11_wish_52 : decode cX11_wish 52 = .ok (.getfield 51, 3) := by decide +kernel
theorem dX11_wish_55 : decode cX11_wish 55 = .ok (.getfield 287, 3) := by decide +kernel
theorem dX11_wish_58 : decode cX11_wish 58 = .ok (.ireturn, 1) := by decide +kernel
abbrev z_X11_wish : List Cond := .code yX11_wish cX11_wish 3 (some .int) :: zW
abbrev wl_X11_wish (ad : Nat → Nat) (cs : Nat → ClassId)  (court_shoeCount : Int32) (court_claimCount : Int32) (court_suitCount : Int32) (wishes_size : Int32) (wishes_brought : Value) (wishes_best : Int32) (wishes_bestRow : Int32) (wishes_claims : Nat → Int32) (wishes_wins : Nat → Int32) : va_W := [((ad 0), .inr (11, [.ref (ad 4), .ref (ad 15), .ref (ad 23), .ref (ad 25), .ref (ad 26), .ref (ad 28), .ref (ad 34), .ref (ad 39), .ref (ad 1), .ref (ad 2), .ref (ad 3)])), ((ad 4), .inr (2, [.ref (ad 5), .ref (ad 6), .ref (ad 7), .ref (ad 8), .ref (ad 9), .ref (ad 10), .ref (ad 11), .ref (ad 12), .ref (ad 13), .ref (ad 14), .int court_shoeCount, .int court_claimCount, .int court_suitCount])), ((ad 28), .inr (10, [.ref (ad 29), .ref (ad 30), .int wishes_size, .ref (ad 31), .ref (ad 32), .ref (ad 33), wishes_brought, .int wishes_best, .int wishes_bestRow])), ((ad 29), .inl (cs 0, 5, .inl wishes_claims)), ((ad 30), .inl (cs 0, 5, .inl wishes_wins))]
def Q_X11_wish (D : va_G) (cs : Nat → ClassId) (ad : Nat → Nat)  (court_shoeCount : Int32) (court_claimCount : Int32) (court_suitCount : Int32) (wishes_brought : Value) (wishes_best : Int32) (wishes_bestRow : Int32) (A : Nat → Prop) (R : Int32 × Int32 × (Nat → Int32) × (Nat → Int32)) : Array Value → State → Outcome → State → Prop :=
  va_Qi (fun (r : Int32) (u : Int32 × (Nat → Int32) × (Nat → Int32)) => (r, u) = R) (fun (u : Int32 × (Nat → Int32) × (Nat → Int32)) (t : State) => va_P D classes (wl_X11_wish ad cs court_shoeCount court_claimCount court_suitCount u.1 wishes_brought wishes_best wishes_bestRow u.2.1 u.2.2) t.heap ∧ va_D A (wl_X11_wish ad cs court_shoeCount court_claimCount court_suitCount u.1 wishes_brought wishes_best wishes_bestRow u.2.1 u.2.2)) A
abbrev rm_X11_wish : Room := { frames := 1, cells := 0, slots := 0, locals := 22 }
theorem g_X11_284 : GoodIn zW (wsV RX11 284 RX10 yX10_has z_X10_has) := zGV kw_1091 kw_1092 kw_1093 kw_81 kw_1094
theorem g_X11_288 : GoodIn zW (wsV RX11 288 RX10 yX10_add z_X10_add) := zGV kw_1095 kw_1096 kw_1097 kw_81 kw_1098
def B_X11_wish_0    (court_shoeCount : Int32) (court_claimCount : Int32) (court_suitCount : Int32) (wishes_brought : Value) (wishes_best : Int32) (wishes_bestRow : Int32) (x1 : Int32) (x2 : Int32) (wishes_size : Int32) (wishes_claims : Nat → Int32) (wishes_wins : Nat → Int32) : Option (Int32 × Int32 × (Nat → Int32) × (Nat → Int32)) :=
  (zk_b2 (f_X11_isClaim x1 court_shoeCount court_claimCount court_suitCount) (fun r_1 u_2 => (if r_1 = 0 then (some ((-1 : Int32), wishes_size, wishes_claims, wishes_wins)) else (zk_b2 (f_X11_isChoice x2) (fun r_5 u_6 => (if r_5 = 0 then (some ((-1 : Int32), wishes_size, wishes_claims, wishes_wins)) else (zk_b2 (f_X10_has 4000 x1 wishes_size wishes_brought wishes_best wishes_bestRow wishes_claims) (fun r_9 u_10 => (if r_9 = 0 then (if wishes_size < (5 : Int32) then (zk_b3 (f_X10_add x1 x2 wishes_size wishes_brought wishes_best wishes_bestRow wishes_claims wishes_wins) (fun u_14 u_15 u_16 => (some (u_14, u_14, u_15, u_16)))) else (some ((-3 : Int32), wishes_size, wishes_claims, wishes_wins))) else (some ((-1 : Int32), wishes_size, wishes_claims, wishes_wins)))))))))))
def f_X11_wish   (x1 : Int32) (x2 : Int32) (court_shoeCount : Int32) (court_claimCount : Int32) (court_suitCount : Int32) (wishes_size : Int32) (wishes_brought : Value) (wishes_best : Int32) (wishes_bestRow : Int32) (wishes_claims : Nat → Int32) (wishes_wins : Nat → Int32) : Option (Int32 × Int32 × (Nat → Int32) × (Nat → Int32)) := B_X11_wish_0   court_shoeCount court_claimCount court_suitCount wishes_brought wishes_best wishes_bestRow x1 x2 wishes_size wishes_claims wishes_wins
set_option maxHeartbeats 4000000 in
set_option maxRecDepth 100000 in
theorem L_X11_wish_0 {p : Program} {l : Launch} {e : Env} {s : State} {m : MethodId} {args : Array Value} {below : List Frame} {meth : Method} {c : Code} {A : Nat → Prop} {D : va_G} {cs : Nat → ClassId} {ad : Nat → Nat} {court_shoeCount : Int32} {court_claimCount : Int32} {court_suitCount : Int32} {wishes_brought : Value} {wishes_best : Int32} {wishes_bestRow : Int32} {R : Int32 × Int32 × (Nat → Int32) × (Nat → Int32)} (C0 : zC p s m args meth c cX11_wish 3 (some .int) RX11 zW) (hK : va_K D classes (zT cs) s) (hA : ∀ q : Nat, s.heap.size ≤ q → A q) (x1 : Int32) (x2 : Int32) (wishes_size : Int32) (wishes_claims : Nat → Int32) (wishes_wins : Nat → Int32) (h : B_X11_wish_0 court_shoeCount court_claimCount court_suitCount wishes_brought wishes_best wishes_bestRow x1 x2 wishes_size wishes_claims wishes_wins = some R) (H : Heap) (locs : List Loc) (ls : Array Slot) (hP : va_P D classes (wl_X11_wish ad cs court_shoeCount court_claimCount court_suitCount wishes_size wishes_brought wishes_best wishes_bestRow wishes_claims wishes_wins) H) (hD : va_D A (wl_X11_wish ad cs court_shoeCount court_claimCount court_suitCount wishes_size wishes_brought wishes_best wishes_bestRow wishes_claims wishes_wins)) (hS : va_S A s.heap H locs) (hl : lv_has ls 3 [(0, .ref (ad 0)), (1, .int x1), (2, .int x2)]) : W p l e rm_X11_wish s m args below meth c H locs 0 0 (MQ below (Q_X11_wish D cs ad court_shoeCount court_claimCount court_suitCount wishes_brought wishes_best wishes_bestRow A R) args s 0 0 A) (F0 m 0 ls []) := by
  obtain ⟨hx, hb, hr, hml, hown, ht, hlocks⟩ := id C0
  refine lv_aload_n hx hb dX11_wish_0 rfl (lv_at hl 0 rfl) ?_
  refine lv_iload_n hx hb dX11_wish_1 rfl (lv_at hl 1 rfl) ?_
  obtain ⟨r_1, u_2, hc_3, h⟩ := zk_o2 h
  refine zk_vi (post := (fun r u => (r, u) = (r_1, u_2))) (w1 := fun u => (wl_X11_isClaim ad cs court_shoeCount court_claimCount court_suitCount)) (As := [.int x1]) (rest := []) (c_X11_isClaim l D cs ad  H.size x1 court_shoeCount court_claimCount court_suitCount _ hc_3) ⟨hx, hb, hml, hown, ht⟩ (cwV 1 ht g_X11_172 rfl rfl rfl (by decide +kernel) ⟨Nat.le_of_ble_eq_true rfl, Nat.le_of_ble_eq_true rfl⟩) (va_recv hK hP (ci := 11) (q0 := 0) rfl rfl) hP hD hS hK hA [0, 1] [2, 3, 4] rfl rfl rfl rfl (by decide) rfl hl.1 (Nat.le_of_ble_eq_true rfl) dX11_wish_2 ⟨Nat.zero_le _, Nat.zero_le _⟩ (fun r u H locs hq hP hD hS => ?_)
  cases hq
  have hP : va_P D classes (wl_X11_wish ad cs court_shoeCount court_claimCount court_suitCount wishes_size wishes_brought wishes_best wishes_bestRow wishes_claims wishes_wins) H := hP.sub [3, 4, 0, 1, 2] rfl
  have hD : va_D A (wl_X11_wish ad cs court_shoeCount court_claimCount court_suitCount wishes_size wishes_brought wishes_best wishes_bestRow wishes_claims wishes_wins) := hD.sub [3, 4, 0, 1, 2] rfl rfl
  refine lv_if_eq (tgt := 26) hx hb dX11_wish_5 (by decide) (fun c_4 => ?_) (fun c_4 => ?_)
  · have h := zk_t c_4 h
    refine lv_iconst (v := (-1 : Int32)) hx hb dX11_wish_26 (by decide) ?_
    exact W.iret (v := (-1 : Int32)) hx hb hr (fun t ht2 hW => ⟨⟨(-1 : Int32), (wishes_size, wishes_claims, wishes_wins), rfl, Option.some.inj h, by rw [ht2]; exact hP, hD⟩, hS.F ht2⟩) hS.2.2 dX11_wish_27 hlocks
  · have h := zk_f c_4 h
    refine lv_iload_n hx hb dX11_wish_8 rfl (lv_at hl 2 rfl) ?_
    obtain ⟨r_5, u_6, hc_7, h⟩ := zk_o2 h
    refine zk_si (post := (fun r u => (r, u) = (r_5, u_6))) (w1 := fun u => (wl_X11_isChoice ad cs )) (As := [.int x2]) (rest := []) (c_X11_isChoice l D cs ad  H.size x2 _ hc_7) ⟨hx, hb, hml, hown, ht⟩ (va_cwS 1 ht g_X11_154 rfl rfl rfl (by decide +kernel) ⟨Nat.le_of_ble_eq_true rfl, Nat.le_of_ble_eq_true rfl⟩) hP hD hS hK hA [] [0, 1, 2, 3, 4] rfl rfl rfl rfl (by decide) rfl hl.1 (Nat.le_of_ble_eq_true rfl) dX11_wish_9 ⟨Nat.zero_le _, Nat.zero_le _⟩ (fun r u H locs hq hP hD hS => ?_)
    cases hq
    have hP : va_P D classes (wl_X11_wish ad cs court_shoeCount court_claimCount court_suitCount wishes_size wishes_brought wishes_best wishes_bestRow wishes_claims wishes_wins) H := hP.sub [0, 1, 2, 3, 4] rfl
    have hD : va_D A (wl_X11_wish ad cs court_shoeCount court_claimCount court_suitCount wishes_size wishes_brought wishes_best wishes_bestRow wishes_claims wishes_wins) := hD.sub [0, 1, 2, 3, 4] rfl rfl
    refine lv_if_eq (tgt := 26) hx hb dX11_wish_12 (by decide) (fun c_8 => ?_) (fun c_8 => ?_)
    · have h := zk_t c_8 h
      refine lv_iconst (v := (-1 : Int32)) hx hb dX11_wish_26 (by decide) ?_
      exact W.iret (v := (-1 : Int32)) hx hb hr (fun t ht2 hW => ⟨⟨(-1 : Int32), (wishes_size, wishes_claims, wishes_wins), rfl, Option.some.inj h, by rw [ht2]; exact hP, hD⟩, hS.F ht2⟩) hS.2.2 dX11_wish_27 hlocks
    · have h := zk_f c_8 h
      refine lv_aload_n hx hb dX11_wish_15 rfl (lv_at hl 0 rfl) ?_
      refine va_get (D := D) (ci := 11) (v := .ref (ad 28)) (C := RX11) (T := TX11) (N := 11) hx hb ht iX11 hown hK hP 0 rfl rfl 5 (by decide) (ht _ kw_701) (fun _ h9 => h9) rfl dX11_wish_16 ?_
      refine lv_iload_n hx hb dX11_wish_19 rfl (lv_at hl 1 rfl) ?_
      obtain ⟨r_9, u_10, hc_11, h⟩ := zk_o2 h
      refine zk_vi (post := (fun r u => (r, u) = (r_9, u_10))) (w1 := fun u => (wl_X10_has ad cs wishes_size wishes_brought wishes_best wishes_bestRow wishes_claims)) (As := [.int x1]) (rest := []) (c_X10_has l D cs ad  H.size 4000 x1 wishes_size wishes_brought wishes_best wishes_bestRow wishes_claims _ hc_11) ⟨hx, hb, hml, hown, ht⟩ (cwV 1 ht g_X11_284 rfl rfl rfl (by decide +kernel) ⟨Nat.le_of_ble_eq_true rfl, Nat.le_of_ble_eq_true rfl⟩) (va_recv hK hP (ci := 10) (q0 := 2) rfl rfl) hP hD hS hK hA [2, 3] [0, 1, 4] rfl rfl rfl rfl (by decide) rfl hl.1 (Nat.le_of_ble_eq_true rfl) dX11_wish_20 ⟨Nat.zero_le _, Nat.zero_le _⟩ (fun r u H locs hq hP hD hS => ?_)
      cases hq
      have hP : va_P D classes (wl_X11_wish ad cs court_shoeCount court_claimCount court_suitCount wishes_size wishes_brought wishes_best wishes_bestRow wishes_claims wishes_wins) H := hP.sub [0, 1, 3, 4, 2] rfl
      have hD : va_D A (wl_X11_wish ad cs court_shoeCount court_claimCount court_suitCount wishes_size wishes_brought wishes_best wishes_bestRow wishes_claims wishes_wins) := hD.sub [0, 1, 3, 4, 2] rfl rfl
      refine lv_if_eq (tgt := 28) hx hb dX11_wish_23 (by decide) (fun c_12 => ?_) (fun c_12 => ?_)
      · have h := zk_t c_12 h
        refine lv_aload_n hx hb dX11_wish_28 rfl (lv_at hl 0 rfl) ?_
        refine va_get (D := D) (ci := 11) (v := .ref (ad 28)) (C := RX11) (T := TX11) (N := 11) hx hb ht iX11 hown hK hP 0 rfl rfl 5 (by decide) (ht _ kw_701) (fun _ h9 => h9) rfl dX11_wish_29 ?_
        refine va_get (D := D) (ci := 10) (v := .int wishes_size) (C := RX10) (T := TX10) (N := 9) hx hb ht iX10 hown hK hP 2 rfl rfl 2 (by decide) (ht _ kw_390) (fun _ h9 => h9) rfl dX11_wish_32 ?_
        refine lv_iconst (v := (5 : Int32)) hx hb dX11_wish_35 (by decide) ?_
        refine lv_icmp_lt (tgt := 42) hx hb dX11_wish_36 (by decide) (fun c_13 => ?_) (fun c_13 => ?_)
        · have h := zk_t c_13 h
          refine lv_aload_n hx hb dX11_wish_42 rfl (lv_at hl 0 rfl) ?_
          refine va_get (D := D) (ci := 11) (v := .ref (ad 28)) (C := RX11) (T := TX11) (N := 11) hx hb ht iX11 hown hK hP 0 rfl rfl 5 (by decide) (ht _ kw_701) (fun _ h9 => h9) rfl dX11_wish_43 ?_
          refine lv_iload_n hx hb dX11_wish_46 rfl (lv_at hl 1 rfl) ?_
          refine lv_iload_n hx hb dX11_wish_47 rfl (lv_at hl 2 rfl) ?_
          obtain ⟨u_14, u_15, u_16, hc_17, h⟩ := zk_o3 h
          refine zk_vv (post := (fun u => u = (u_14, u_15, u_16))) (w1 := fun u => (wl_X10_add ad cs u.1 wishes_brought wishes_best wishes_bestRow u.2.1 u.2.2)) (As := [.int x1, .int x2]) (rest := []) (c_X10_add l D cs ad  H.size x1 x2 wishes_size wishes_brought wishes_best wishes_bestRow wishes_claims wishes_wins _ hc_17) ⟨hx, hb, hml, hown, ht⟩ (cwV 2 ht g_X11_288 rfl rfl rfl (by decide +kernel) ⟨Nat.le_of_ble_eq_true rfl, Nat.le_of_ble_eq_true rfl⟩) (va_recv hK hP (ci := 10) (q0 := 2) rfl rfl) hP hD hS hK hA [2, 3, 4] [0, 1] rfl rfl rfl rfl (by decide) rfl hl.1 (Nat.le_of_ble_eq_true rfl) dX11_wish_48 ⟨Nat.zero_le _, Nat.zero_le _⟩ (fun u H locs hq hP hD hS => ?_)
          cases hq
          have hP : va_P D classes (wl_X11_wish ad cs court_shoeCount court_claimCount court_suitCount u_14 wishes_brought wishes_best wishes_bestRow u_15 u_16) H := hP.sub [0, 1, 2, 3, 4] rfl
          have hD : va_D A (wl_X11_wish ad cs court_shoeCount court_claimCount court_suitCount u_14 wishes_brought wishes_best wishes_bestRow u_15 u_16) := hD.sub [0, 1, 2, 3, 4] rfl rfl
          refine lv_aload_n hx hb dX11_wish_51 rfl (lv_at hl 0 rfl) ?_
          refine va_get (D := D) (ci := 11) (v := .ref (ad 28)) (C := RX11) (T := TX11) (N := 11) hx hb ht iX11 hown hK hP 0 rfl rfl 5 (by decide) (ht _ kw_701) (fun _ h9 => h9) rfl dX11_wish_52 ?_
          refine va_get (D := D) (ci := 10) (v := .int u_14) (C := RX10) (T := TX10) (N := 9) hx hb ht iX10 hown hK hP 2 rfl rfl 2 (by decide) (ht _ kw_390) (fun _ h9 => h9) rfl dX11_wish_55 ?_
          exact W.iret (v := u_14) hx hb hr (fun t ht2 hW => ⟨⟨u_14, (u_14, u_15, u_16), rfl, Option.some.inj h, by rw [ht2]; exact hP, hD⟩, hS.F ht2⟩) hS.2.2 dX11_wish_58 hlocks
        · have h := zk_f c_13 h
          refine lv_bipush (v := (-3 : Int32)) hx hb dX11_wish_39 (by decide) ?_
          exact W.iret (v := (-3 : Int32)) hx hb hr (fun t ht2 hW => ⟨⟨(-3 : Int32), (wishes_size, wishes_claims, wishes_wins), rfl, Option.some.inj h, by rw [ht2]; exact hP, hD⟩, hS.F ht2⟩) hS.2.2 dX11_wish_41 hlocks
      · have h := zk_f c_12 h
        refine lv_iconst (v := (-1 : Int32)) hx hb dX11_wish_26 (by decide) ?_
        exact W.iret (v := (-1 : Int32)) hx hb hr (fun t ht2 hW => ⟨⟨(-1 : Int32), (wishes_size, wishes_claims, wishes_wins), rfl, Option.some.inj h, by rw [ht2]; exact hP, hD⟩, hS.F ht2⟩) hS.2.2 dX11_wish_27 hlocks
set_option maxHeartbeats 4000000 in
set_option maxRecDepth 100000 in
theorem c_X11_wish (l : Launch) (D : va_G) (cs : Nat → ClassId) (ad : Nat → Nat) (sz : Nat) (x1 : Int32) (x2 : Int32) (court_shoeCount : Int32) (court_claimCount : Int32) (court_suitCount : Int32) (wishes_size : Int32) (wishes_brought : Value) (wishes_best : Int32) (wishes_bestRow : Int32) (wishes_claims : Nat → Int32) (wishes_wins : Nat → Int32) (R : Int32 × Int32 × (Nat → Int32) × (Nat → Int32)) (h : f_X11_wish   x1 x2 court_shoeCount court_claimCount court_suitCount wishes_size wishes_brought wishes_best wishes_bestRow wishes_claims wishes_wins = some R) : Met l yX11_wish (z_X11_wish) rm_X11_wish (va_Pc [.ref (ad 0), .int x1, .int x2] (zPre D cs (wl_X11_wish ad cs court_shoeCount court_claimCount court_suitCount wishes_size wishes_brought wishes_best wishes_bestRow wishes_claims wishes_wins) sz)) (Q_X11_wish D cs ad court_shoeCount court_claimCount court_suitCount wishes_brought wishes_best wishes_bestRow (va_A (wl_X11_wish ad cs court_shoeCount court_claimCount court_suitCount wishes_size wishes_brought wishes_best wishes_bestRow wishes_claims wishes_wins) sz) R) 0 0 (va_A (wl_X11_wish ad cs court_shoeCount court_claimCount court_suitCount wishes_size wishes_brought wishes_best wishes_bestRow wishes_claims wishes_wins) sz) := by
  refine Met.ofW (cc := cX11_wish) (maxL := 3) (ret := (some .int)) (by decide) rfl ?_
  intro p e s m args below meth c s₁ B hml hv
  obtain ⟨rfl, hsz, hP, hK, hD0⟩ := hv
  subst hsz
  have hD := hD0.self (sz := s.heap.size)
  have C0 : zC p s m _ meth c cX11_wish 3 (some .int) RX11 zW := ⟨B.exec, B.bytes, B.returns, hml, findClass_of_methodNamed B.named, fun w hw => atoms_spec (ws := z_X11_wish) B.pre w (List.mem_cons_of_mem _ hw), B.notSynchronized⟩
  have hA : ∀ q : Nat, s.heap.size ≤ q → va_A (wl_X11_wish ad cs court_shoeCount court_claimCount court_suitCount wishes_size wishes_brought wishes_best wishes_bestRow wishes_claims wishes_wins) s.heap.size q := fun q h => Or.inr h
  have hl := lv_entry ([.ref (ad 0), .int x1, .int x2]) (n := 3) (Nat.le_of_ble_eq_true rfl)
  rw [lg_entry_eq]
  generalize (lg_sl ([.ref (ad 0), .int x1, .int x2]) ++ List.replicate (3 - (lg_sl ([.ref (ad 0), .int x1, .int x2])).length) Slot.unset).toArray = ls at hl ⊢
  exact L_X11_wish_0 C0 hK hA   x1 x2 wishes_size wishes_claims wishes_wins h s.heap [] ls hP hD va_S.rf hl
theorem dX11_order_0 : decode cX11_order 0 = .ok (.iload_n 1, 1) := by decide +kernel
theorem dX11_order_1 : decode cX11_order 1 = .ok (.invokestatic 243, 3) := by decide +kernel
theorem dX11_order_4 : decode cX11_order 4 = .ok (.ifCond .eq 10, 3) := by decide +kernel
theorem dX11_order_7 : decode cX11_order 7 = .ok (.iload_n 2, 1) := by decide +kernel
theorem dX11_order_8 : decode cX11_order 8 = .ok (.invokestatic 154, 3) := by decide +kernel
theorem dX11_order_11 : decode cX11_order 11 = .ok (.ifCond .ne 5, 3) := by decide +kernel
theorem dX11_order_14 : decode cX11_order 14 = .ok (.iconst (-1), 1) := by decide +kernel
theorem dX11_order_15 : decode cX11_order 15 = .ok (.ireturn, 1) := by decide +kernel
theorem dX11_order_16 : decode cX11_order 16 = .ok (.aload_n 0, 1) := by decide +kernel
theorem dX11_order_17 : decode cX11_order 17 = .ok (.getfield 51, 3) := by decide +kernel
theorem dX11_order_20 : decode cX11_order 20 = .ok (.getfield 287, 3) := by decide +kernel
theorem dX11_order_23 : decode cX11_order 23 = .ok (.ifCond .ne 6, 3) := by decide +kernel
theorem dX11_order_26 : decode cX11_order 26 = .ok (.bipush (-5), 2) := by decide +kernel
theorem dX11_order_28 : decode cX11_order 28 = .ok (.ireturn, 1) := by decide +kernel
theorem dX11_order_29 : decode cX11_order 29 = .ok (.aload_n 0, 1) := by decide +kernel
theorem dX11_order_30 : decode cX11_order 30 = .ok (.getfield 51, 3) := by decide +kernel
theorem dX11_order_33 : decode cX11_order 33 = .ok (.aload_n 0, 1) := by decide +kernel
theorem dX11_order_34 : decode cX11_order 34 = .ok (.getfield 21, 3) := by decide +kernel
theorem dX11_order_37 : decode cX11_order 37 = .ok (.iload_n 1, 1) := by decide +kernel
theorem dX11_order_38 : decode cX11_order 38 = .ok (.bipush 10, 2) := by decide +kernel
theorem dX11_order_40 : decode cX11_order 40 = .ok (.idiv, 1) := by decide +kernel
theorem dX11_order_41 : decode cX11_order 41 = .ok (.iload_n 1, 1) := by decide +kernel
theorem dX11_order_42 : decode cX11_order 42 = .ok (.bipush 10, 2) := by decide +kernel
theorem dX11_order_44 : decode cX11_order 44 = .ok (.irem, 1) := by decide +kernel
abbrev z_X11_order : List Cond := .code yX11_order cX11_order 3 (some .int) :: zW
abbrev wl_X11_order (ad : Nat → Nat) (cs : Nat → ClassId)  (wishes_size : Int32) (wishes_brought : Value) (wishes_best : Int32) (wishes_bestRow : Int32) : va_W := [((ad 0), .inr (11, [.ref (ad 4), .ref (ad 15), .ref (ad 23), .ref (ad 25), .ref (ad 26), .ref (ad 28), .ref (ad 34), .ref (ad 39), .ref (ad 1), .ref (ad 2), .ref (ad 3)])), ((ad 28), .inr (10, [.ref (ad 29), .ref (ad 30), .int wishes_size, .ref (ad 31), .ref (ad 32), .ref (ad 33), wishes_brought, .int wishes_best, .int wishes_bestRow]))]
def Q_X11_order (D : va_G) (cs : Nat → ClassId) (ad : Nat → Nat)  (wishes_size : Int32) (wishes_brought : Value) (wishes_best : Int32) (wishes_bestRow : Int32) (A : Nat → Prop) (R : Int32 × Unit) : Array Value → State → Outcome → State → Prop :=
  va_Qi (fun (r : Int32) (u : Unit) => (r, u) = R) (fun (u : Unit) (t : State) => va_P D classes (wl_X11_order ad cs wishes_size wishes_brought wishes_best wishes_bestRow) t.heap ∧ va_D A (wl_X11_order ad cs wishes_size wishes_brought wishes_best wishes_bestRow)) A
abbrev rm_X11_order : Room := { frames := 2, cells := 0, slots := 0, locals := 40 }
def B_X11_order_0    (wishes_size : Int32) (wishes_brought : Value) (wishes_best : Int32) (wishes_bestRow : Int32) (x1 : Int32) (x2 : Int32) : Option (Int32 × Unit) :=
  (zk_b2 (f_X11_isWhen x1) (fun r_1 u_2 => (if r_1 = 0 then (some ((-1 : Int32), ())) else (zk_b2 (f_X11_isChoice x2) (fun r_5 u_6 => (if r_5 = 0 then (some ((-1 : Int32), ())) else (if wishes_size = 0 then (some ((-5 : Int32), ())) else none)))))))
def f_X11_order   (x1 : Int32) (x2 : Int32) (wishes_size : Int32) (wishes_brought : Value) (wishes_best : Int32) (wishes_bestRow : Int32) : Option (Int32 × Unit) := B_X11_order_0   wishes_size wishes_brought wishes_best wishes_bestRow x1 x2 
set_option maxHeartbeats 4000000 in
set_option maxRecDepth 100000 in
theorem L_X11_order_0 {p : Program} {l : Launch} {e : Env} {s : State} {m : MethodId} {args : Array Value} {below : List Frame} {meth : Method} {c : Code} {A : Nat → Prop} {D : va_G} {cs : Nat → ClassId} {ad : Nat → Nat} {wishes_size : Int32} {wishes_brought : Value} {wishes_best : Int32} {wishes_bestRow : Int32} {R : Int32 × Unit} (C0 : zC p s m args meth c cX11_order 3 (some .int) RX11 zW) (hK : va_K D classes (zT cs) s) (hA : ∀ q : Nat, s.heap.size ≤ q → A q) (x1 : Int32) (x2 : Int32) (h : B_X11_order_0 wishes_size wishes_brought wishes_best wishes_bestRow x1 x2 = some R) (H : Heap) (locs : List Loc) (ls : Array Slot) (hP : va_P D classes (wl_X11_order ad cs wishes_size wishes_brought wishes_best wishes_bestRow) H) (hD : va_D A (wl_X11_order ad cs wishes_size wishes_brought wishes_best wishes_bestRow)) (hS : va_S A s.heap H locs) (hl : lv_has ls 3 [(0, .ref (ad 0)), (1, .int x1), (2, .int x2)]) : W p l e rm_X11_order s m args below meth c H locs 0 0 (MQ below (Q_X11_order D cs ad wishes_size wishes_brought wishes_best wishes_bestRow A R) args s 0 0 A) (F0 m 0 ls []) := by
  obtain ⟨hx, hb, hr, hml, hown, ht, hlocks⟩ := id C0
  refine lv_iload_n hx hb dX11_order_0 rfl (lv_at hl 1 rfl) ?_
  obtain ⟨r_1, u_2, hc_3, h⟩ := zk_o2 h
  refine zk_si (post := (fun r u => (r, u) = (r_1, u_2))) (w1 := fun u => (wl_X11_isWhen ad cs )) (As := [.int x1]) (rest := []) (c_X11_isWhen l D cs ad  H.size x1 _ hc_3) ⟨hx, hb, hml, hown, ht⟩ (va_cwS 1 ht g_X11_243 rfl rfl rfl (by decide +kernel) ⟨Nat.le_of_ble_eq_true rfl, Nat.le_of_ble_eq_true rfl⟩) hP hD hS hK hA [] [0, 1] rfl rfl rfl rfl (by decide) rfl hl.1 (Nat.le_of_ble_eq_true rfl) dX11_order_1 ⟨Nat.zero_le _, Nat.zero_le _⟩ (fun r u H locs hq hP hD hS => ?_)
  cases hq
  have hP : va_P D classes (wl_X11_order ad cs wishes_size wishes_brought wishes_best wishes_bestRow) H := hP.sub [0, 1] rfl
  have hD : va_D A (wl_X11_order ad cs wishes_size wishes_brought wishes_best wishes_bestRow) := hD.sub [0, 1] rfl rfl
  refine lv_if_eq (tgt := 14) hx hb dX11_order_4 (by decide) (fun c_4 => ?_) (fun c_4 => ?_)
  · have h := zk_t c_4 h
    refine lv_iconst (v := (-1 : Int32)) hx hb dX11_order_14 (by decide) ?_
    exact W.iret (v := (-1 : Int32)) hx hb hr (fun t ht2 hW => ⟨⟨(-1 : Int32), (), rfl, Option.some.inj h, by rw [ht2]; exact hP, hD⟩, hS.F ht2⟩) hS.2.2 dX11_order_15 hlocks
  · have h := zk_f c_4 h
    refine lv_iload_n hx hb dX11_order_7 rfl (lv_at hl 2 rfl) ?_
    obtain ⟨r_5, u_6, hc_7, h⟩ := zk_o2 h
    refine zk_si (post := (fun r u => (r, u) = (r_5, u_6))) (w1 := fun u => (wl_X11_isChoice ad cs )) (As := [.int x2]) (rest := []) (c_X11_isChoice l D cs ad  H.size x2 _ hc_7) ⟨hx, hb, hml, hown, ht⟩ (va_cwS 1 ht g_X11_154 rfl rfl rfl (by decide +kernel) ⟨Nat.le_of_ble_eq_true rfl, Nat.le_of_ble_eq_true rfl⟩) hP hD hS hK hA [] [0, 1] rfl rfl rfl rfl (by decide) rfl hl.1 (Nat.le_of_ble_eq_true rfl) dX11_order_8 ⟨Nat.zero_le _, Nat.zero_le _⟩ (fun r u H locs hq hP hD hS => ?_)
    cases hq
    have hP : va_P D classes (wl_X11_order ad cs wishes_size wishes_brought wishes_best wishes_bestRow) H := hP.sub [0, 1] rfl
    have hD : va_D A (wl_X11_order ad cs wishes_size wishes_brought wishes_best wishes_bestRow) := hD.sub [0, 1] rfl rfl
    refine lv_if_ne (tgt := 16) hx hb dX11_order_11 (by decide) (fun c_8 => ?_) (fun c_8 => ?_)
    · have h := zk_f c_8 h
      refine lv_aload_n hx hb dX11_order_16 rfl (lv_at hl 0 rfl) ?_
      refine va_get (D := D) (ci := 11) (v := .ref (ad 28)) (C := RX11) (T := TX11) (N := 11) hx hb ht iX11 hown hK hP 0 rfl rfl 5 (by decide) (ht _ kw_701) (fun _ h9 => h9) rfl dX11_order_17 ?_
      refine va_get (D := D) (ci := 10) (v := .int wishes_size) (C := RX10) (T := TX10) (N := 9) hx hb ht iX10 hown hK hP 1 rfl rfl 2 (by decide) (ht _ kw_390) (fun _ h9 => h9) rfl dX11_order_20 ?_
      refine lv_if_ne (tgt := 29) hx hb dX11_order_23 (by decide) (fun c_9 => ?_) (fun c_9 => ?_)
      · have h := zk_f c_9 h
        refine lv_aload_n hx hb dX11_order_29 rfl (lv_at hl 0 rfl) ?_
        refine va_get (D := D) (ci := 11) (v := .ref (ad 28)) (C := RX11) (T := TX11) (N := 11) hx hb ht iX11 hown hK hP 0 rfl rfl 5 (by decide) (ht _ kw_701) (fun _ h9 => h9) rfl dX11_order_30 ?_
        refine lv_aload_n hx hb dX11_order_33 rfl (lv_at hl 0 rfl) ?_
        refine va_get (D := D) (ci := 11) (v := .ref (ad 15)) (C := RX11) (T := TX11) (N := 11) hx hb ht iX11 hown hK hP 0 rfl rfl 1 (by decide) (ht _ kw_697) (fun _ h9 => h9) rfl dX11_order_34 ?_
        refine lv_iload_n hx hb dX11_order_37 rfl (lv_at hl 1 rfl) ?_
        refine lv_bipush (v := (10 : Int32)) hx hb dX11_order_38 (by decide) ?_
        refine lv_idiv hx hb dX11_order_40 (by decide) ?_
        refine lv_iload_n hx hb dX11_order_41 rfl (lv_at hl 1 rfl) ?_
        refine lv_bipush (v := (10 : Int32)) hx hb dX11_order_42 (by decide) ?_
        refine lv_irem hx hb dX11_order_44 (by decide) ?_
        cases h
      · have h := zk_t c_9 h
        refine lv_bipush (v := (-5 : Int32)) hx hb dX11_order_26 (by decide) ?_
        exact W.iret (v := (-5 : Int32)) hx hb hr (fun t ht2 hW => ⟨⟨(-5 : Int32), (), rfl, Option.some.inj h, by rw [ht2]; exact hP, hD⟩, hS.F ht2⟩) hS.2.2 dX11_order_28 hlocks
    · have h := zk_t c_8 h
      refine lv_iconst (v := (-1 : Int32)) hx hb dX11_order_14 (by decide) ?_
      exact W.iret (v := (-1 : Int32)) hx hb hr (fun t ht2 hW => ⟨⟨(-1 : Int32), (), rfl, Option.some.inj h, by rw [ht2]; exact hP, hD⟩, hS.F ht2⟩) hS.2.2 dX11_order_15 hlocks
set_option maxHeartbeats 4000000 in
set_option maxRecDepth 100000 in
theorem c_X11_order (l : Launch) (D : va_G) (cs : Nat → ClassId) (ad : Nat → Nat) (sz : Nat) (x1 : Int32) (x2 : Int32) (wishes_size : Int32) (wishes_brought : Value) (wishes_best : Int32) (wishes_bestRow : Int32) (R : Int32 × Unit) (h : f_X11_order   x1 x2 wishes_size wishes_brought wishes_best wishes_bestRow = some R) : Met l yX11_order (z_X11_order) rm_X11_order (va_Pc [.ref (ad 0), .int x1, .int x2] (zPre D cs (wl_X11_order ad cs wishes_size wishes_brought wishes_best wishes_bestRow) sz)) (Q_X11_order D cs ad wishes_size wishes_brought wishes_best wishes_bestRow (va_A (wl_X11_order ad cs wishes_size wishes_brought wishes_best wishes_bestRow) sz) R) 0 0 (va_A (wl_X11_order ad cs wishes_size wishes_brought wishes_best wishes_bestRow) sz) := by
  refine Met.ofW (cc := cX11_order) (maxL := 3) (ret := (some .int)) (by decide) rfl ?_
  intro p e s m args below meth c s₁ B hml hv
  obtain ⟨rfl, hsz, hP, hK, hD0⟩ := hv
  subst hsz
  have hD := hD0.self (sz := s.heap.size)
  have C0 : zC p s m _ meth c cX11_order 3 (some .int) RX11 zW := ⟨B.exec, B.bytes, B.returns, hml, findClass_of_methodNamed B.named, fun w hw => atoms_spec (ws := z_X11_order) B.pre w (List.mem_cons_of_mem _ hw), B.notSynchronized⟩
  have hA : ∀ q : Nat, s.heap.size ≤ q → va_A (wl_X11_order ad cs wishes_size wishes_brought wishes_best wishes_bestRow) s.heap.size q := fun q h => Or.inr h
  have hl := lv_entry ([.ref (ad 0), .int x1, .int x2]) (n := 3) (Nat.le_of_ble_eq_true rfl)
  rw [lg_entry_eq]
  generalize (lg_sl ([.ref (ad 0), .int x1, .int x2]) ++ List.replicate (3 - (lg_sl ([.ref (ad 0), .int x1, .int x2])).length) Slot.unset).toArray = ls at hl ⊢
  exact L_X11_order_0 C0 hK hA   x1 x2  h s.heap [] ls hP hD va_S.rf hl
theorem dX11_unwish_0 : decode cX11_unwish 0 = .ok (.aload_n 0, 1) := by decide +kernel
theorem dX11_unwish_1 : decode cX11_unwish 1 = .ok (.getfield 51, 3) := by decide +kernel
theorem dX11_unwish_4 : decode cX11_unwish 4 = .ok (.getfield 287, 3) := by decide +kernel
theorem dX11_unwish_7 : decode cX11_unwish 7 = .ok (.istore_n 1, 1) := by decide +kernel
theorem dX11_unwish_8 : decode cX11_unwish 8 = .ok (.aload_n 0, 1) := by decide +kernel
theorem dX11_unwish_9 : decode cX11_unwish 9 = .ok (.getfield 51, 3) := by decide +kernel
theorem dX11_unwish_12 : decode cX11_unwish 12 = .ok (.iconst 0, 1) := by decide +kernel
theorem dX11_unwish_13 : decode cX11_unwish 13 = .ok (.putfield 287, 3) := by decide +kernel
theorem dX11_unwish_16 : decode cX11_unwish 16 = .ok (.iload_n 1, 1) := by decide +kernel
theorem dX11_unwish_17 : decode cX11_unwish 17 = .ok (.ireturn, 1) := by decide +kernel
abbrev z_X11_unwish : List Cond := .code yX11_unwish cX11_unwish 2 (some .int) :: zW
abbrev wl_X11_unwish (ad : Nat → Nat) (cs : Nat → ClassId)  (wishes_size : Int32) (wishes_brought : Value) (wishes_best : Int32) (wishes_bestRow : Int32) : va_W := [((ad 0), .inr (11, [.ref (ad 4), .ref (ad 15), .ref (ad 23), .ref (ad 25), .ref (ad 26), .ref (ad 28), .ref (ad 34), .ref (ad 39), .ref (ad 1), .ref (ad 2), .ref (ad 3)])), ((ad 28), .inr (10, [.ref (ad 29), .ref (ad 30), .int wishes_size, .ref (ad 31), .ref (ad 32), .ref (ad 33), wishes_brought, .int wishes_best, .int wishes_bestRow]))]
def Q_X11_unwish (D : va_G) (cs : Nat → ClassId) (ad : Nat → Nat)  (wishes_brought : Value) (wishes_best : Int32) (wishes_bestRow : Int32) (A : Nat → Prop) (R : Int32 × Int32) : Array Value → State → Outcome → State → Prop :=
  va_Qi (fun (r : Int32) (u : Int32) => (r, u) = R) (fun (u : Int32) (t : State) => va_P D classes (wl_X11_unwish ad cs u wishes_brought wishes_best wishes_bestRow) t.heap ∧ va_D A (wl_X11_unwish ad cs u wishes_brought wishes_best wishes_bestRow)) A
abbrev rm_X11_unwish : Room := { frames := 0, cells := 0, slots := 0, locals := 0 }
def B_X11_unwish_0    (wishes_brought : Value) (wishes_best : Int32) (wishes_bestRow : Int32) (wishes_size : Int32) : Option (Int32 × Int32) :=
  (some (wishes_size, (0 : Int32)))
def f_X11_unwish    (wishes_size : Int32) (wishes_brought : Value) (wishes_best : Int32) (wishes_bestRow : Int32) : Option (Int32 × Int32) := B_X11_unwish_0   wishes_brought wishes_best wishes_bestRow  wishes_size
set_option maxHeartbeats 4000000 in
set_option maxRecDepth 100000 in
theorem L_X11_unwish_0 {p : Program} {l : Launch} {e : Env} {s : State} {m : MethodId} {args : Array Value} {below : List Frame} {meth : Method} {c : Code} {A : Nat → Prop} {D : va_G} {cs : Nat → ClassId} {ad : Nat → Nat} {wishes_brought : Value} {wishes_best : Int32} {wishes_bestRow : Int32} {R : Int32 × Int32} (C0 : zC p s m args meth c cX11_unwish 2 (some .int) RX11 zW) (hK : va_K D classes (zT cs) s) (hA : ∀ q : Nat, s.heap.size ≤ q → A q) (wishes_size : Int32) (h : B_X11_unwish_0 wishes_brought wishes_best wishes_bestRow wishes_size = some R) (H : Heap) (locs : List Loc) (ls : Array Slot) (hP : va_P D classes (wl_X11_unwish ad cs wishes_size wishes_brought wishes_best wishes_bestRow) H) (hD : va_D A (wl_X11_unwish ad cs wishes_size wishes_brought wishes_best wishes_bestRow)) (hS : va_S A s.heap H locs) (hl : lv_has ls 2 [(0, .ref (ad 0))]) : W p l e rm_X11_unwish s m args below meth c H locs 0 0 (MQ below (Q_X11_unwish D cs ad wishes_brought wishes_best wishes_bestRow A R) args s 0 0 A) (F0 m 0 ls []) := by
  obtain ⟨hx, hb, hr, hml, hown, ht, hlocks⟩ := id C0
  refine lv_aload_n hx hb dX11_unwish_0 rfl (lv_at hl 0 rfl) ?_
  refine va_get (D := D) (ci := 11) (v := .ref (ad 28)) (C := RX11) (T := TX11) (N := 11) hx hb ht iX11 hown hK hP 0 rfl rfl 5 (by decide) (ht _ kw_701) (fun _ h9 => h9) rfl dX11_unwish_1 ?_
  refine va_get (D := D) (ci := 10) (v := .int wishes_size) (C := RX10) (T := TX10) (N := 9) hx hb ht iX10 hown hK hP 1 rfl rfl 2 (by decide) (ht _ kw_390) (fun _ h9 => h9) rfl dX11_unwish_4 ?_
  refine lv_istore_n (lv' := [(1, .int wishes_size), (0, .ref (ad 0))]) hx hb dX11_unwish_7 rfl hl (by decide) rfl (fun ls hl => ?_)
  refine lv_aload_n hx hb dX11_unwish_8 rfl (lv_at hl 1 rfl) ?_
  refine va_get (D := D) (ci := 11) (v := .ref (ad 28)) (C := RX11) (T := TX11) (N := 11) hx hb ht iX11 hown hK hP 0 rfl rfl 5 (by decide) (ht _ kw_701) (fun _ h9 => h9) rfl dX11_unwish_9 ?_
  refine lv_iconst (v := (0 : Int32)) hx hb dX11_unwish_12 (by decide) ?_
  refine va_put (D := D) (ci := 10) (v := .int (0 : Int32)) (ty := .int) (C := RX10) (T := TX10) (N := 9) hx hb ht iX10 tyX10 tyX10_ok nmX10 hown hK hP hD hS 1 rfl rfl 2 (by decide) (ht _ kw_390) (fun _ h9 => h9) rfl (by decide +kernel) rfl rfl (Nat.le_of_ble_eq_true rfl) dX11_unwish_13 (fun H locs hP hD hS => ?_)
  have hP : va_P D classes (wl_X11_unwish ad cs (0 : Int32) wishes_brought wishes_best wishes_bestRow) H := hP
  have hD : va_D A (wl_X11_unwish ad cs (0 : Int32) wishes_brought wishes_best wishes_bestRow) := hD
  refine lv_iload_n hx hb dX11_unwish_16 rfl (lv_at hl 0 rfl) ?_
  exact W.iret (v := wishes_size) hx hb hr (fun t ht2 hW => ⟨⟨wishes_size, (0 : Int32), rfl, Option.some.inj h, by rw [ht2]; exact hP, hD⟩, hS.F ht2⟩) hS.2.2 dX11_unwish_17 hlocks
set_option maxHeartbeats 4000000 in
set_option maxRecDepth 100000 in
theorem c_X11_unwish (l : Launch) (D : va_G) (cs : Nat → ClassId) (ad : Nat → Nat) (sz : Nat)  (wishes_size : Int32) (wishes_brought : Value) (wishes_best : Int32) (wishes_bestRow : Int32) (R : Int32 × Int32) (h : f_X11_unwish    wishes_size wishes_brought wishes_best wishes_bestRow = some R) : Met l yX11_unwish (z_X11_unwish) rm_X11_unwish (va_Pc [.ref (ad 0)] (zPre D cs (wl_X11_unwish ad cs wishes_size wishes_brought wishes_best wishes_bestRow) sz)) (Q_X11_unwish D cs ad wishes_brought wishes_best wishes_bestRow (va_A (wl_X11_unwish ad cs wishes_size wishes_brought wishes_best wishes_bestRow) sz) R) 0 0 (va_A (wl_X11_unwish ad cs wishes_size wishes_brought wishes_best wishes_bestRow) sz) := by
  refine Met.ofW (cc := cX11_unwish) (maxL := 2) (ret := (some .int)) (by decide) rfl ?_
  intro p e s m args below meth c s₁ B hml hv
  obtain ⟨rfl, hsz, hP, hK, hD0⟩ := hv
  subst hsz
  have hD := hD0.self (sz := s.heap.size)
  have C0 : zC p s m _ meth c cX11_unwish 2 (some .int) RX11 zW := ⟨B.exec, B.bytes, B.returns, hml, findClass_of_methodNamed B.named, fun w hw => atoms_spec (ws := z_X11_unwish) B.pre w (List.mem_cons_of_mem _ hw), B.notSynchronized⟩
  have hA : ∀ q : Nat, s.heap.size ≤ q → va_A (wl_X11_unwish ad cs wishes_size wishes_brought wishes_best wishes_bestRow) s.heap.size q := fun q h => Or.inr h
  have hl := lv_entry ([.ref (ad 0)]) (n := 2) (Nat.le_of_ble_eq_true rfl)
  rw [lg_entry_eq]
  generalize (lg_sl ([.ref (ad 0)]) ++ List.replicate (2 - (lg_sl ([.ref (ad 0)])).length) Slot.unset).toArray = ls at hl ⊢
  exact L_X11_unwish_0 C0 hK hA    wishes_size h s.heap [] ls hP hD va_S.rf hl
theorem dX11_joined_0 : decode cX11_joined 0 = .ok (.aload_n 0, 1) := by decide +kernel
theorem dX11_joined_1 : decode cX11_joined 1 = .ok (.getfield 10, 3) := by decide +kernel
theorem dX11_joined_4 : decode cX11_joined 4 = .ok (.iload_n 1, 1) := by decide +kernel
theorem dX11_joined_5 : decode cX11_joined 5 = .ok (.invokevirtual 207, 3) := by decide +kernel
theorem dX11_joined_8 : decode cX11_joined 8 = .ok (.astore 4, 2) := by decide +kernel
theorem dX11_joined_10 : decode cX11_joined 10 = .ok (.aload 4, 2) := by decide +kernel
theorem dX11_joined_12 : decode cX11_joined 12 = .ok (.ifnull 21, 3) := by decide +kernel
theorem dX11_joined_33 : decode cX11_joined 33 = .ok (.iconst (-1), 1) := by decide +kernel
theorem dX11_joined_34 : decode cX11_joined 34 = .ok (.ireturn, 1) := by decide +kernel
abbrev z_X11_joined : List Cond := .code yX11_joined cX11_joined 6 (some .int) :: zW
abbrev wl_X11_joined (ad : Nat → Nat) (cs : Nat → ClassId)  (court_shoeCount : Int32) (court_claimCount : Int32) (court_suitCount : Int32) (court_shoePerson : Nat → Int32) (court_shoeOther : Nat → Int32) (inq_day : Int32) (inq_land : Int32) (inq_shoeLeftOut : Int32) (inq_judgedShoes : Nat → Int64) (inq_bindingShoes : Nat → Int64) (inq_boundAs : Nat → Int32) (inq_standing : Nat → Int32) (inq_arriving : Nat → Int32) : va_W := [((ad 0), .inr (11, [.ref (ad 4), .ref (ad 15), .ref (ad 23), .ref (ad 25), .ref (ad 26), .ref (ad 28), .ref (ad 34), .ref (ad 39), .ref (ad 1), .ref (ad 2), .ref (ad 3)])), ((ad 4), .inr (2, [.ref (ad 5), .ref (ad 6), .ref (ad 7), .ref (ad 8), .ref (ad 9), .ref (ad 10), .ref (ad 11), .ref (ad 12), .ref (ad 13), .ref (ad 14), .int court_shoeCount, .int court_claimCount, .int court_suitCount])), ((ad 5), .inl (cs 0, 40, .inl court_shoePerson)), ((ad 6), .inl (cs 0, 40, .inl court_shoeOther)), ((ad 15), .inr (3, [.ref (ad 4), .ref (ad 16), .ref (ad 17), .ref (ad 18), .ref (ad 19), .ref (ad 20), .ref (ad 21), .ref (ad 22), .int inq_day, .int inq_land, .int inq_shoeLeftOut])), ((ad 18), .inl (cs 1, 7, .inr (.inl inq_judgedShoes))), ((ad 19), .inl (cs 1, 7, .inr (.inl inq_bindingShoes))), ((ad 20), .inl (cs 0, 20, .inl inq_boundAs)), ((ad 21), .inl (cs 0, 20, .inl inq_standing)), ((ad 22), .inl (cs 0, 20, .inl inq_arriving))]
def Q_X11_joined (D : va_G) (cs : Nat → ClassId) (ad : Nat → Nat)  (court_shoeCount : Int32) (court_claimCount : Int32) (court_suitCount : Int32) (court_shoePerson : Nat → Int32) (court_shoeOther : Nat → Int32) (A : Nat → Prop) (R : Int32 × Int32 × Int32 × Int32 × (Nat → Int64) × (Nat → Int64) × (Nat → Int32) × (Nat → Int32) × (Nat → Int32)) : Array Value → State → Outcome → State → Prop :=
  va_Qi (fun (r : Int32) (u : Int32 × Int32 × Int32 × (Nat → Int64) × (Nat → Int64) × (Nat → Int32) × (Nat → Int32) × (Nat → Int32)) => (r, u) = R) (fun (u : Int32 × Int32 × Int32 × (Nat → Int64) × (Nat → Int64) × (Nat → Int32) × (Nat → Int32) × (Nat → Int32)) (t : State) => va_P D classes (wl_X11_joined ad cs court_shoeCount court_claimCount court_suitCount court_shoePerson court_shoeOther u.1 u.2.1 u.2.2.1 u.2.2.2.1 u.2.2.2.2.1 u.2.2.2.2.2.1 u.2.2.2.2.2.2.1 u.2.2.2.2.2.2.2) t.heap ∧ va_D A (wl_X11_joined ad cs court_shoeCount court_claimCount court_suitCount court_shoePerson court_shoeOther u.1 u.2.1 u.2.2.1 u.2.2.2.1 u.2.2.2.2.1 u.2.2.2.2.2.1 u.2.2.2.2.2.2.1 u.2.2.2.2.2.2.2)) A
abbrev rm_X11_joined : Room := { frames := 1, cells := 0, slots := 0, locals := 21 }
def B_X11_joined_0    (court_shoeCount : Int32) (court_claimCount : Int32) (court_suitCount : Int32) (court_shoePerson : Nat → Int32) (court_shoeOther : Nat → Int32) (x1 : Int32) (x2 : Int32) (x3 : Int32) (inq_day : Int32) (inq_land : Int32) (inq_shoeLeftOut : Int32) (inq_judgedShoes : Nat → Int64) (inq_bindingShoes : Nat → Int64) (inq_boundAs : Nat → Int32) (inq_standing : Nat → Int32) (inq_arriving : Nat → Int32) : Option (Int32 × Int32 × Int32 × Int32 × (Nat → Int64) × (Nat → Int64) × (Nat → Int32) × (Nat → Int32) × (Nat → Int32)) :=
  (zk_b2 (f_X2_suitAt x1 court_shoeCount court_claimCount court_suitCount) (fun r_1 u_2 => (if r_1 = true then none else (some ((-1 : Int32), inq_day, inq_land, inq_shoeLeftOut, inq_judgedShoes, inq_bindingShoes, inq_boundAs, inq_standing, inq_arriving)))))
def f_X11_joined   (x1 : Int32) (x2 : Int32) (x3 : Int32) (court_shoeCount : Int32) (court_claimCount : Int32) (court_suitCount : Int32) (court_shoePerson : Nat → Int32) (court_shoeOther : Nat → Int32) (inq_day : Int32) (inq_land : Int32) (inq_shoeLeftOut : Int32) (inq_judgedShoes : Nat → Int64) (inq_bindingShoes : Nat → Int64) (inq_boundAs : Nat → Int32) (inq_standing : Nat → Int32) (inq_arriving : Nat → Int32) : Option (Int32 × Int32 × Int32 × Int32 × (Nat → Int64) × (Nat → Int64) × (Nat → Int32) × (Nat → Int32) × (Nat → Int32)) := B_X11_joined_0   court_shoeCount court_claimCount court_suitCount court_shoePerson court_shoeOther x1 x2 x3 inq_day inq_land inq_shoeLeftOut inq_judgedShoes inq_bindingShoes inq_boundAs inq_standing inq_arriving
set_option maxHeartbeats 4000000 in
set_option maxRecDepth 100000 in
theorem L_X11_joined_0 {p : Program} {l : Launch} {e : Env} {s : State} {m : MethodId} {args : Array Value} {below : List Frame} {meth : Method} {c : Code} {A : Nat → Prop} {D : va_G} {cs : Nat → ClassId} {ad : Nat → Nat} {court_shoeCount : Int32} {court_claimCount : Int32} {court_suitCount : Int32} {court_shoePerson : Nat → Int32} {court_shoeOther : Nat → Int32} {R : Int32 × Int32 × Int32 × Int32 × (Nat → Int64) × (Nat → Int64) × (Nat → Int32) × (Nat → Int32) × (Nat → Int32)} (C0 : zC p s m args meth c cX11_joined 6 (some .int) RX11 zW) (hK : va_K D classes (zT cs) s) (hA : ∀ q : Nat, s.heap.size ≤ q → A q) (x1 : Int32) (x2 : Int32) (x3 : Int32) (inq_day : Int32) (inq_land : Int32) (inq_shoeLeftOut : Int32) (inq_judgedShoes : Nat → Int64) (inq_bindingShoes : Nat → Int64) (inq_boundAs : Nat → Int32) (inq_standing : Nat → Int32) (inq_arriving : Nat → Int32) (h : B_X11_joined_0 court_shoeCount court_claimCount court_suitCount court_shoePerson court_shoeOther x1 x2 x3 inq_day inq_land inq_shoeLeftOut inq_judgedShoes inq_bindingShoes inq_boundAs inq_standing inq_arriving = some R) (H : Heap) (locs : List Loc) (ls : Array Slot) (hP : va_P D classes (wl_X11_joined ad cs court_shoeCount court_claimCount court_suitCount court_shoePerson court_shoeOther inq_day inq_land inq_shoeLeftOut inq_judgedShoes inq_bindingShoes inq_boundAs inq_standing inq_arriving) H) (hD : va_D A (wl_X11_joined ad cs court_shoeCount court_claimCount court_suitCount court_shoePerson court_shoeOther inq_day inq_land inq_shoeLeftOut inq_judgedShoes inq_bindingShoes inq_boundAs inq_standing inq_arriving)) (hS : va_S A s.heap H locs) (hl : lv_has ls 6 [(0, .ref (ad 0)), (1, .int x1), (2, .int x2), (3, .int x3)]) : W p l e rm_X11_joined s m args below meth c H locs 0 0 (MQ below (Q_X11_joined D cs ad court_shoeCount court_claimCount court_suitCount court_shoePerson court_shoeOther A R) args s 0 0 A) (F0 m 0 ls []) := by
  obtain ⟨hx, hb, hr, hml, hown, ht, hlocks⟩ := id C0
  refine lv_aload_n hx hb dX11_joined_0 rfl (lv_at hl 0 rfl) ?_
  refine va_get (D := D) (ci := 11) (v := .ref (ad 4)) (C := RX11) (T := TX11) (N := 11) hx hb ht iX11 hown hK hP 0 rfl rfl 0 (by decide) (ht _ kw_696) (fun _ h9 => h9) rfl dX11_joined_1 ?_
  refine lv_iload_n hx hb dX11_joined_4 rfl (lv_at hl 1 rfl) ?_
  obtain ⟨r_1, u_2, hc_3, h⟩ := zk_o2 h
  refine zk_vq (post := (fun r u => r = (if r_1 = true then some 0 else none) ∧ u = (u_2))) (w1 := fun u => (wl_X2_suitAt ad cs court_shoeCount court_claimCount court_suitCount)) (As := [.int x1]) (rest := []) (c_X2_suitAt l D cs ad  H.size x1 court_shoeCount court_claimCount court_suitCount _ hc_3) ⟨hx, hb, hml, hown, ht⟩ (cwV 1 ht g_X11_207 rfl rfl rfl (by decide +kernel) ⟨Nat.le_of_ble_eq_true rfl, Nat.le_of_ble_eq_true rfl⟩) (va_recv hK hP (ci := 2) (q0 := 1) rfl rfl) hP hD hS hK hA [1] [0, 2, 3, 4, 5, 6, 7, 8, 9] rfl rfl rfl rfl (by decide) rfl hl.1 (Nat.le_of_ble_eq_true rfl) dX11_joined_5 ⟨Nat.zero_le _, Nat.zero_le _⟩ (fun r u H locs hq hP hD hS => ?_)
  obtain ⟨hq1, hq2⟩ := hq; cases hq2; subst hq1
  have hP : va_P D classes (wl_X11_joined ad cs court_shoeCount court_claimCount court_suitCount court_shoePerson court_shoeOther inq_day inq_land inq_shoeLeftOut inq_judgedShoes inq_bindingShoes inq_boundAs inq_standing inq_arriving) H := hP.sub [0, 9, 1, 2, 3, 4, 5, 6, 7, 8] rfl
  have hD : va_D A (wl_X11_joined ad cs court_shoeCount court_claimCount court_suitCount court_shoePerson court_shoeOther inq_day inq_land inq_shoeLeftOut inq_judgedShoes inq_bindingShoes inq_boundAs inq_standing inq_arriving) := hD.sub [0, 9, 1, 2, 3, 4, 5, 6, 7, 8] rfl rfl
  by_cases c_4 : r_1 = true
  · have h := zk_t c_4 h
    cases h
  · have h := zk_f c_4 h
    refine W.eq (g2 := F0 m 8 ls [.null]) (by rw [if_neg c_4]; rfl) ?_
    refine lv_astoreN (lv' := [(4, .null), (0, .ref (ad 0)), (1, .int x1), (2, .int x2), (3, .int x3)]) hx hb dX11_joined_8 hl (by decide) rfl (fun ls hl => ?_)
    refine lv_aloadN hx hb dX11_joined_10 (lv_at hl 0 rfl) ?_
    refine lv_ifnullN (tgt := 33) hx hb dX11_joined_12 (by decide) ?_
    refine lv_iconst (v := (-1 : Int32)) hx hb dX11_joined_33 (by decide) ?_
    exact W.iret (v := (-1 : Int32)) hx hb hr (fun t ht2 hW => ⟨⟨(-1 : Int32), (inq_day, inq_land, inq_shoeLeftOut, inq_judgedShoes, inq_bindingShoes, inq_boundAs, inq_standing, inq_arriving), rfl, Option.some.inj h, by rw [ht2]; exact hP, hD⟩, hS.F ht2⟩) hS.2.2 dX11_joined_34 hlocks
set_option maxHeartbeats 4000000 in
set_option maxRecDepth 100000 in
theorem c_X11_joined (l : Launch) (D : va_G) (cs : Nat → ClassId) (ad : Nat → Nat) (sz : Nat) (x1 : Int32) (x2 : Int32) (x3 : Int32) (court_shoeCount : Int32) (court_claimCount : Int32) (court_suitCount : Int32) (court_shoePerson : Nat → Int32) (court_shoeOther : Nat → Int32) (inq_day : Int32) (inq_land : Int32) (inq_shoeLeftOut : Int32) (inq_judgedShoes : Nat → Int64) (inq_bindingShoes : Nat → Int64) (inq_boundAs : Nat → Int32) (inq_standing : Nat → Int32) (inq_arriving : Nat → Int32) (R : Int32 × Int32 × Int32 × Int32 × (Nat → Int64) × (Nat → Int64) × (Nat → Int32) × (Nat → Int32) × (Nat → Int32)) (h : f_X11_joined   x1 x2 x3 court_shoeCount court_claimCount court_suitCount court_shoePerson court_shoeOther inq_day inq_land inq_shoeLeftOut inq_judgedShoes inq_bindingShoes inq_boundAs inq_standing inq_arriving = some R) : Met l yX11_joined (z_X11_joined) rm_X11_joined (va_Pc [.ref (ad 0), .int x1, .int x2, .int x3] (zPre D cs (wl_X11_joined ad cs court_shoeCount court_claimCount court_suitCount court_shoePerson court_shoeOther inq_day inq_land inq_shoeLeftOut inq_judgedShoes inq_bindingShoes inq_boundAs inq_standing inq_arriving) sz)) (Q_X11_joined D cs ad court_shoeCount court_claimCount court_suitCount court_shoePerson court_shoeOther (va_A (wl_X11_joined ad cs court_shoeCount court_claimCount court_suitCount court_shoePerson court_shoeOther inq_day inq_land inq_shoeLeftOut inq_judgedShoes inq_bindingShoes inq_boundAs inq_standing inq_arriving) sz) R) 0 0 (va_A (wl_X11_joined ad cs court_shoeCount court_claimCount court_suitCount court_shoePerson court_shoeOther inq_day inq_land inq_shoeLeftOut inq_judgedShoes inq_bindingShoes inq_boundAs inq_standing inq_arriving) sz) := by
  refine Met.ofW (cc := cX11_joined) (maxL := 6) (ret := (some .int)) (by decide) rfl ?_
  intro p e s m args below meth c s₁ B hml hv
  obtain ⟨rfl, hsz, hP, hK, hD0⟩ := hv
  subst hsz
  have hD := hD0.self (sz := s.heap.size)
  have C0 : zC p s m _ meth c cX11_joined 6 (some .int) RX11 zW := ⟨B.exec, B.bytes, B.returns, hml, findClass_of_methodNamed B.named, fun w hw => atoms_spec (ws := z_X11_joined) B.pre w (List.mem_cons_of_mem _ hw), B.notSynchronized⟩
  have hA : ∀ q : Nat, s.heap.size ≤ q → va_A (wl_X11_joined ad cs court_shoeCount court_claimCount court_suitCount court_shoePerson court_shoeOther inq_day inq_land inq_shoeLeftOut inq_judgedShoes inq_bindingShoes inq_boundAs inq_standing inq_arriving) s.heap.size q := fun q h => Or.inr h
  have hl := lv_entry ([.ref (ad 0), .int x1, .int x2, .int x3]) (n := 6) (Nat.le_of_ble_eq_true rfl)
  rw [lg_entry_eq]
  generalize (lg_sl ([.ref (ad 0), .int x1, .int x2, .int x3]) ++ List.replicate (6 - (lg_sl ([.ref (ad 0), .int x1, .int x2, .int x3])).length) Slot.unset).toArray = ls at hl ⊢
  exact L_X11_joined_0 C0 hK hA   x1 x2 x3 inq_day inq_land inq_shoeLeftOut inq_judgedShoes inq_bindingShoes inq_boundAs inq_standing inq_arriving h s.heap [] ls hP hD va_S.rf hl
theorem kw_11 : Cond.selects RX11 yX11_ringOn yX11_ringOn ∈ zW := zwI (i := 11) (by decide +kernel) (by decide +kernel)
theorem kw_706 : Cond.fieldLink RX11 79 "AlreadyJudged" "heeded" "[I" ∈ zW := zwI (i := 706) (by decide +kernel) (by decide +kernel)
theorem kw_1165 : Cond.methodLink RX11 422 yX11_ringOn ∈ zW := zwI (i := 1165) (by decide +kernel) (by decide +kernel)
theorem kw_1167 : Cond.instanceMethod yX11_ringOn ∈ zW := zwI (i := 1167) (by decide +kernel) (by decide +kernel)
theorem kw_1168 : Cond.code yX11_ringOn cX11_ringOn 8 (some .int) ∈ zW := zwI (i := 1168) (by decide +kernel) (by decide +kernel)
theorem dX11_ringOn_0 : decode cX11_ringOn 0 = .ok (.iload 4, 2) := by decide +kernel
theorem dX11_ringOn_2 : decode cX11_ringOn 2 = .ok (.ifCond .gt 23, 3) := by decide +kernel
theorem dX11_ringOn_5 : decode cX11_ringOn 5 = .ok (.aload_n 0, 1) := by decide +kernel
theorem dX11_ringOn_6 : decode cX11_ringOn 6 = .ok (.getfield 79, 3) := by decide +kernel
theorem dX11_ringOn_9 : decode cX11_ringOn 9 = .ok (.iload_n 2, 1) := by decide +kernel
theorem dX11_ringOn_10 : decode cX11_ringOn 10 = .ok (.iaload, 1) := by decide +kernel
theorem dX11_ringOn_11 : decode cX11_ringOn 11 = .ok (.iload_n 1, 1) := by decide +kernel
theorem dX11_ringOn_12 : decode cX11_ringOn 12 = .ok (.ishr, 1) := by decide +kernel
theorem dX11_ringOn_13 : decode cX11_ringOn 13 = .ok (.iconst 1, 1) := by decide +kernel
theorem dX11_ringOn_14 : decode cX11_ringOn 14 = .ok (.iand, 1) := by decide +kernel
theorem dX11_ringOn_15 : decode cX11_ringOn 15 = .ok (.ifCond .eq 8, 3) := by decide +kernel
theorem dX11_ringOn_18 : decode cX11_ringOn 18 = .ok (.iload 5, 2) := by decide +kernel
theorem dX11_ringOn_20 : decode cX11_ringOn 20 = .ok (.goto 4, 3) := by decide +kernel
theorem dX11_ringOn_23 : decode cX11_ringOn 23 = .ok (.iconst 0, 1) := by decide +kernel
theorem dX11_ringOn_24 : decode cX11_ringOn 24 = .ok (.ireturn, 1) := by decide +kernel
theorem dX11_ringOn_25 : decode cX11_ringOn 25 = .ok (.iload_n 1, 1) := by decide +kernel
theorem dX11_ringOn_26 : decode cX11_ringOn 26 = .ok (.iconst 1, 1) := by decide +kernel
theorem dX11_ringOn_27 : decode cX11_ringOn 27 = .ok (.iadd, 1) := by decide +kernel
theorem dX11_ringOn_28 : decode cX11_ringOn 28 = .ok (.istore 6, 2) := by decide +kernel
theorem dX11_ringOn_30 : decode cX11_ringOn 30 = .ok (.iload 6, 2) := by decide +kernel
theorem dX11_ringOn_32 : decode cX11_ringOn 32 = .ok (.bipush 8, 2) := by decide +kernel
theorem dX11_ringOn_34 : decode cX11_ringOn 34 = .ok (.if_icmp .ge 69, 3) := by decide +kernel
theorem dX11_ringOn_37 : decode cX11_ringOn 37 = .ok (.iload_n 3, 1) := by decide +kernel
theorem dX11_ringOn_38 : decode cX11_ringOn 38 = .ok (.iload 6, 2) := by decide +kernel
theorem dX11_ringOn_40 : decode cX11_ringOn 40 = .ok (.ishr, 1) := by decide +kernel
theorem dX11_ringOn_41 : decode cX11_ringOn 41 = .ok (.iconst 1, 1) := by decide +kernel
theorem dX11_ringOn_42 : decode cX11_ringOn 42 = .ok (.iand, 1) := by decide +kernel
theorem dX11_ringOn_43 : decode cX11_ringOn 43 = .ok (.ifCond .ne 54, 3) := by decide +kernel
theorem dX11_ringOn_46 : decode cX11_ringOn 46 = .ok (.aload_n 0, 1) := by decide +kernel
theorem dX11_ringOn_47 : decode cX11_ringOn 47 = .ok (.getfield 79, 3) := by decide +kernel
theorem dX11_ringOn_50 : decode cX11_ringOn 50 = .ok (.iload_n 2, 1) := by decide +kernel
theorem dX11_ringOn_51 : decode cX11_ringOn 51 = .ok (.iaload, 1) := by decide +kernel
theorem dX11_ringOn_52 : decode cX11_ringOn 52 = .ok (.iload 6, 2) := by decide +kernel
theorem dX11_ringOn_54 : decode cX11_ringOn 54 = .ok (.ishr, 1) := by decide +kernel
theorem dX11_ringOn_55 : decode cX11_ringOn 55 = .ok (.iconst 1, 1) := by decide +kernel
theorem dX11_ringOn_56 : decode cX11_ringOn 56 = .ok (.iand, 1) := by decide +kernel
theorem dX11_ringOn_57 : decode cX11_ringOn 57 = .ok (.ifCond .eq 40, 3) := by decide +kernel
theorem dX11_ringOn_60 : decode cX11_ringOn 60 = .ok (.aload_n 0, 1) := by decide +kernel
theorem dX11_ringOn_61 : decode cX11_ringOn 61 = .ok (.iload_n 1, 1) := by decide +kernel
theorem dX11_ringOn_62 : decode cX11_ringOn 62 = .ok (.iload 6, 2) := by decide +kernel
theorem dX11_ringOn_64 : decode cX11_ringOn 64 = .ok (.iload_n 3, 1) := by decide +kernel
theorem dX11_ringOn_65 : decode cX11_ringOn 65 = .ok (.iconst 1, 1) := by decide +kernel
theorem dX11_ringOn_66 : decode cX11_ringOn 66 = .ok (.iload 6, 2) := by decide +kernel
theorem dX11_ringOn_68 : decode cX11_ringOn 68 = .ok (.ishl, 1) := by decide +kernel
theorem dX11_ringOn_69 : decode cX11_ringOn 69 = .ok (.ior, 1) := by decide +kernel
theorem dX11_ringOn_70 : decode cX11_ringOn 70 = .ok (.iload 4, 2) := by decide +kernel
theorem dX11_ringOn_72 : decode cX11_ringOn 72 = .ok (.iconst 1, 1) := by decide +kernel
theorem dX11_ringOn_73 : decode cX11_ringOn 73 = .ok (.isub, 1) := by decide +kernel
theorem dX11_ringOn_74 : decode cX11_ringOn 74 = .ok (.iload 5, 2) := by decide +kernel
theorem dX11_ringOn_76 : decode cX11_ringOn 76 = .ok (.bipush 10, 2) := by decide +kernel
theorem dX11_ringOn_78 : decode cX11_ringOn 78 = .ok (.imul, 1) := by decide +kernel
theorem dX11_ringOn_79 : decode cX11_ringOn 79 = .ok (.iload 6, 2) := by decide +kernel
theorem dX11_ringOn_81 : decode cX11_ringOn 81 = .ok (.iadd, 1) := by decide +kernel
theorem dX11_ringOn_82 : decode cX11_ringOn 82 = .ok (.iconst 1, 1) := by decide +kernel
theorem dX11_ringOn_83 : decode cX11_ringOn 83 = .ok (.iadd, 1) := by decide +kernel
theorem dX11_ringOn_84 : decode cX11_ringOn 84 = .ok (.invokevirtual 422, 3) := by decide +kernel
theorem dX11_ringOn_87 : decode cX11_ringOn 87 = .ok (.istore 7, 2) := by decide +kernel
theorem dX11_ringOn_89 : decode cX11_ringOn 89 = .ok (.iload 7, 2) := by decide +kernel
theorem dX11_ringOn_91 : decode cX11_ringOn 91 = .ok (.ifCond .le 6, 3) := by decide +kernel
theorem dX11_ringOn_94 : decode cX11_ringOn 94 = .ok (.iload 7, 2) := by decide +kernel
theorem dX11_ringOn_96 : decode cX11_ringOn 96 = .ok (.ireturn, 1) := by decide +kernel
theorem dX11_ringOn_97 : decode cX11_ringOn 97 = .ok (.iinc 6 1, 3) := by decide +kernel
theorem dX11_ringOn_100 : decode cX11_ringOn 100 = .ok (.goto (-70), 3) := by decide +kernel
theorem dX11_ringOn_103 : decode cX11_ringOn 103 = .ok (.iconst 0, 1) := by decide +kernel
theorem dX11_ringOn_104 : decode cX11_ringOn 104 = .ok (.ireturn, 1) := by decide +kernel
abbrev z_X11_ringOn : List Cond := .code yX11_ringOn cX11_ringOn 8 (some .int) :: zW
abbrev wl_X11_ringOn (ad : Nat → Nat) (cs : Nat → ClassId)  (root_heeded : Nat → Int32) : va_W := [((ad 0), .inr (11, [.ref (ad 4), .ref (ad 15), .ref (ad 23), .ref (ad 25), .ref (ad 26), .ref (ad 28), .ref (ad 34), .ref (ad 39), .ref (ad 1), .ref (ad 2), .ref (ad 3)])), ((ad 3), .inl (cs 0, 8, .inl root_heeded))]
def Q_X11_ringOn (D : va_G) (cs : Nat → ClassId) (ad : Nat → Nat)  (root_heeded : Nat → Int32) (A : Nat → Prop) (R : Int32 × Unit) : Array Value → State → Outcome → State → Prop :=
  va_Qi (fun (r : Int32) (u : Unit) => (r, u) = R) (fun (u : Unit) (t : State) => va_P D classes (wl_X11_ringOn ad cs root_heeded) t.heap ∧ va_D A (wl_X11_ringOn ad cs root_heeded)) A
theorem g_X11_422 : GoodIn zW (wsV RX11 422 RX11 yX11_ringOn z_X11_ringOn) := zGV kw_1165 kw_1167 kw_11 kw_75 kw_1168
def B_X11_ringOn_97  (r_X11_ringOn : Int32 → Int32 → Int32 → Int32 → Int32 → (Nat → Int32) → (Option (Int32 × Unit))) (g30 : Int32 → Int32 → Int32 → Int32 → Int32 → Int32 → (Option (Int32 × Unit))) (root_heeded : Nat → Int32) (x1 : Int32) (x2 : Int32) (x3 : Int32) (x4 : Int32) (x5 : Int32) (x6 : Int32) : Option (Int32 × Unit) :=
  (zk_let (x6 + (1 : Int32)) (fun v_13 => (g30 x1 x2 x3 x4 x5 v_13)))
def B_X11_ringOn_30  (r_X11_ringOn : Int32 → Int32 → Int32 → Int32 → Int32 → (Nat → Int32) → (Option (Int32 × Unit))) (g30 : Int32 → Int32 → Int32 → Int32 → Int32 → Int32 → (Option (Int32 × Unit))) (root_heeded : Nat → Int32) (x1 : Int32) (x2 : Int32) (x3 : Int32) (x4 : Int32) (x5 : Int32) (x6 : Int32) : Option (Int32 × Unit) :=
  (if (8 : Int32) ≤ x6 then (some ((0 : Int32), ())) else (if ((x3 >>> (x6 &&& 31)) &&& (1 : Int32)) = 0 then (if (x2 < 0 ∨ 8 ≤ x2.toNatClampNeg) then none else (if (((root_heeded x2.toNatClampNeg) >>> (x6 &&& 31)) &&& (1 : Int32)) = 0 then (B_X11_ringOn_97 r_X11_ringOn g30 root_heeded x1 x2 x3 x4 x5 x6) else (zk_b2 (r_X11_ringOn x1 x6 (x3 ||| ((1 : Int32) <<< (x6 &&& 31))) (x4 - (1 : Int32)) (((x5 * (10 : Int32)) + x6) + (1 : Int32)) root_heeded) (fun r_9 u_10 => (if r_9 ≤ 0 then (B_X11_ringOn_97 r_X11_ringOn g30 root_heeded x1 x2 x3 x4 x5 x6) else (some (r_9, ()))))))) else (B_X11_ringOn_97 r_X11_ringOn g30 root_heeded x1 x2 x3 x4 x5 x6)))
def B_X11_ringOn_0  (r_X11_ringOn : Int32 → Int32 → Int32 → Int32 → Int32 → (Nat → Int32) → (Option (Int32 × Unit))) (g30 : Int32 → Int32 → Int32 → Int32 → Int32 → Int32 → (Option (Int32 × Unit))) (root_heeded : Nat → Int32) (x1 : Int32) (x2 : Int32) (x3 : Int32) (x4 : Int32) (x5 : Int32) : Option (Int32 × Unit) :=
  (if 0 < x4 then (zk_let (x1 + (1 : Int32)) (fun v_2 => (g30 x1 x2 x3 x4 x5 v_2))) else (if (x2 < 0 ∨ 8 ≤ x2.toNatClampNeg) then none else (if (((root_heeded x2.toNatClampNeg) >>> (x1 &&& 31)) &&& (1 : Int32)) = 0 then (some ((0 : Int32), ())) else (some (x5, ())))))
def G_X11_ringOn  (r_X11_ringOn : Int32 → Int32 → Int32 → Int32 → Int32 → (Nat → Int32) → (Option (Int32 × Unit))) (root_heeded : Nat → Int32) (n : Nat) : (Int32 → Int32 → Int32 → Int32 → Int32 → Int32 → (Option (Int32 × Unit))) :=
  Nat.rec (motive := fun _ => (Int32 → Int32 → Int32 → Int32 → Int32 → Int32 → (Option (Int32 × Unit)))) ((fun _ _ _ _ _ _ => none)) (fun _ ih => (B_X11_ringOn_30  r_X11_ringOn ih root_heeded)) n
def f_X11_ringOn  (r_X11_ringOn : Int32 → Int32 → Int32 → Int32 → Int32 → (Nat → Int32) → (Option (Int32 × Unit))) (n : Nat) (x1 : Int32) (x2 : Int32) (x3 : Int32) (x4 : Int32) (x5 : Int32) (root_heeded : Nat → Int32) : Option (Int32 × Unit) := B_X11_ringOn_0  r_X11_ringOn ((G_X11_ringOn  r_X11_ringOn root_heeded n)) root_heeded x1 x2 x3 x4 x5 
def grp_grp210 (n : Nat) : (Int32 → Int32 → Int32 → Int32 → Int32 → (Nat → Int32) → (Option (Int32 × Unit))) :=
  Nat.rec (motive := fun _ => (Int32 → Int32 → Int32 → Int32 → Int32 → (Nat → Int32) → (Option (Int32 × Unit)))) ((fun _ _ _ _ _ _ => none)) (fun _ ih => (f_X11_ringOn (ih) 4000)) n
set_option maxHeartbeats 4000000 in
set_option maxRecDepth 100000 in
theorem L_X11_ringOn_97 {p : Program} {l : Launch} {e : Env} {s : State} {m : MethodId} {args : Array Value} {below : List Frame} {meth : Method} {c : Code} {A : Nat → Prop} {D : va_G} {cs : Nat → ClassId} {ad : Nat → Nat} {root_heeded : Nat → Int32} {R : Int32 × Unit} {g30 : Int32 → Int32 → Int32 → Int32 → Int32 → Int32 → (Option (Int32 × Unit))} (C0 : zC p s m args meth c cX11_ringOn 8 (some .int) RX11 zW) (hK : va_K D classes (zT cs) s) (hA : ∀ q : Nat, s.heap.size ≤ q → A q) {fr lo : Nat} {r_X11_ringOn : Int32 → Int32 → Int32 → Int32 → Int32 → (Nat → Int32) → (Option (Int32 × Unit))} (hr_X11_ringOn : ∀ (D : va_G) (cs : Nat → ClassId) (ad : Nat → Nat) (sz : Nat) (x1 : Int32) (x2 : Int32) (x3 : Int32) (x4 : Int32) (x5 : Int32) (root_heeded : Nat → Int32) (R : Int32 × Unit) (h : r_X11_ringOn x1 x2 x3 x4 x5 root_heeded = some R), Met l yX11_ringOn z_X11_ringOn ({ frames := fr, cells := 0, slots := 0, locals := lo } : Room) (va_Pc [.ref (ad 0), .int x1, .int x2, .int x3, .int x4, .int x5] (zPre D cs (wl_X11_ringOn ad cs root_heeded) sz)) (Q_X11_ringOn D cs ad root_heeded (va_A (wl_X11_ringOn ad cs root_heeded) sz) R) 0 0 (va_A (wl_X11_ringOn ad cs root_heeded) sz)) (ih30 : ∀ (x1 : Int32) (x2 : Int32) (x3 : Int32) (x4 : Int32) (x5 : Int32) (x6 : Int32) (h : g30 x1 x2 x3 x4 x5 x6 = some R) (H : Heap) (locs : List Loc) (ls : Array Slot) (hP : va_P D classes (wl_X11_ringOn ad cs root_heeded) H) (hD : va_D A (wl_X11_ringOn ad cs root_heeded)) (hS : va_S A s.heap H locs) (hl : lv_has ls 8 [(0, .ref (ad 0)), (1, .int x1), (2, .int x2), (3, .int x3), (4, .int x4), (5, .int x5), (6, .int x6)]), W p l e ({ frames := fr + 1, cells := 0, slots := 0, locals := lo + 27 } : Room) s m args below meth c H locs 0 0 (MQ below (Q_X11_ringOn D cs ad root_heeded A R) args s 0 0 A) (F0 m 30 ls [])) (x1 : Int32) (x2 : Int32) (x3 : Int32) (x4 : Int32) (x5 : Int32) (x6 : Int32) (h : B_X11_ringOn_97 r_X11_ringOn g30 root_heeded x1 x2 x3 x4 x5 x6 = some R) (H : Heap) (locs : List Loc) (ls : Array Slot) (hP : va_P D classes (wl_X11_ringOn ad cs root_heeded) H) (hD : va_D A (wl_X11_ringOn ad cs root_heeded)) (hS : va_S A s.heap H locs) (hl : lv_has ls 8 [(0, .ref (ad 0)), (1, .int x1), (2, .int x2), (3, .int x3), (4, .int x4), (5, .int x5), (6, .int x6)]) : W p l e ({ frames := fr + 1, cells := 0, slots := 0, locals := lo + 27 } : Room) s m args below meth c H locs 0 0 (MQ below (Q_X11_ringOn D cs ad root_heeded A R) args s 0 0 A) (F0 m 97 ls []) := by
  obtain ⟨hx, hb, hr, hml, hown, ht, hlocks⟩ := id C0
  obtain ⟨v_13, ev_13, h⟩ := zk_lt h
  refine lv_iinc (v := v_13) (lv' := [(6, .int v_13), (0, .ref (ad 0)), (1, .int x1), (2, .int x2), (3, .int x3), (4, .int x4), (5, .int x5)]) hx hb dX11_ringOn_97 hl (k := 6) rfl (by rw [ev_13]; rfl) (by decide) rfl (fun ls hl => ?_)
  refine lv_goto (tgt := 30) hx hb dX11_ringOn_100 (by decide) ?_
  exact ih30 x1 x2 x3 x4 x5 v_13 h H locs ls hP hD hS (lv_sub hl [1, 2, 3, 4, 5, 6, 0] rfl)
set_option maxHeartbeats 4000000 in
set_option maxRecDepth 100000 in
theorem L_X11_ringOn_30 {p : Program} {l : Launch} {e : Env} {s : State} {m : MethodId} {args : Array Value} {below : List Frame} {meth : Method} {c : Code} {A : Nat → Prop} {D : va_G} {cs : Nat → ClassId} {ad : Nat → Nat} {root_heeded : Nat → Int32} {R : Int32 × Unit} {g30 : Int32 → Int32 → Int32 → Int32 → Int32 → Int32 → (Option (Int32 × Unit))} (C0 : zC p s m args meth c cX11_ringOn 8 (some .int) RX11 zW) (hK : va_K D classes (zT cs) s) (hA : ∀ q : Nat, s.heap.size ≤ q → A q) {fr lo : Nat} {r_X11_ringOn : Int32 → Int32 → Int32 → Int32 → Int32 → (Nat → Int32) → (Option (Int32 × Unit))} (hr_X11_ringOn : ∀ (D : va_G) (cs : Nat → ClassId) (ad : Nat → Nat) (sz : Nat) (x1 : Int32) (x2 : Int32) (x3 : Int32) (x4 : Int32) (x5 : Int32) (root_heeded : Nat → Int32) (R : Int32 × Unit) (h : r_X11_ringOn x1 x2 x3 x4 x5 root_heeded = some R), Met l yX11_ringOn z_X11_ringOn ({ frames := fr, cells := 0, slots := 0, locals := lo } : Room) (va_Pc [.ref (ad 0), .int x1, .int x2, .int x3, .int x4, .int x5] (zPre D cs (wl_X11_ringOn ad cs root_heeded) sz)) (Q_X11_ringOn D cs ad root_heeded (va_A (wl_X11_ringOn ad cs root_heeded) sz) R) 0 0 (va_A (wl_X11_ringOn ad cs root_heeded) sz)) (ih30 : ∀ (x1 : Int32) (x2 : Int32) (x3 : Int32) (x4 : Int32) (x5 : Int32) (x6 : Int32) (h : g30 x1 x2 x3 x4 x5 x6 = some R) (H : Heap) (locs : List Loc) (ls : Array Slot) (hP : va_P D classes (wl_X11_ringOn ad cs root_heeded) H) (hD : va_D A (wl_X11_ringOn ad cs root_heeded)) (hS : va_S A s.heap H locs) (hl : lv_has ls 8 [(0, .ref (ad 0)), (1, .int x1), (2, .int x2), (3, .int x3), (4, .int x4), (5, .int x5), (6, .int x6)]), W p l e ({ frames := fr + 1, cells := 0, slots := 0, locals := lo + 27 } : Room) s m args below meth c H locs 0 0 (MQ below (Q_X11_ringOn D cs ad root_heeded A R) args s 0 0 A) (F0 m 30 ls [])) (x1 : Int32) (x2 : Int32) (x3 : Int32) (x4 : Int32) (x5 : Int32) (x6 : Int32) (h : B_X11_ringOn_30 r_X11_ringOn g30 root_heeded x1 x2 x3 x4 x5 x6 = some R) (H : Heap) (locs : List Loc) (ls : Array Slot) (hP : va_P D classes (wl_X11_ringOn ad cs root_heeded) H) (hD : va_D A (wl_X11_ringOn ad cs root_heeded)) (hS : va_S A s.heap H locs) (hl : lv_has ls 8 [(0, .ref (ad 0)), (1, .int x1), (2, .int x2), (3, .int x3), (4, .int x4), (5, .int x5), (6, .int x6)]) : W p l e ({ frames := fr + 1, cells := 0, slots := 0, locals := lo + 27 } : Room) s m args below meth c H locs 0 0 (MQ below (Q_X11_ringOn D cs ad root_heeded A R) args s 0 0 A) (F0 m 30 ls []) := by
  obtain ⟨hx, hb, hr, hml, hown, ht, hlocks⟩ := id C0
  refine lv_iload hx hb dX11_ringOn_30 (lv_at hl 6 rfl) ?_
  refine lv_bipush (v := (8 : Int32)) hx hb dX11_ringOn_32 (by decide) ?_
  refine lv_icmp_ge (tgt := 103) hx hb dX11_ringOn_34 (by decide) (fun c_5 => ?_) (fun c_5 => ?_)
  · have h := zk_t c_5 h
    refine lv_iconst (v := (0 : Int32)) hx hb dX11_ringOn_103 (by decide) ?_
    exact W.iret (v := (0 : Int32)) hx hb hr (fun t ht2 hW => ⟨⟨(0 : Int32), (), rfl, Option.some.inj h, by rw [ht2]; exact hP, hD⟩, hS.F ht2⟩) hS.2.2 dX11_ringOn_104 hlocks
  · have h := zk_f c_5 h
    refine lv_iload_n hx hb dX11_ringOn_37 rfl (lv_at hl 3 rfl) ?_
    refine lv_iload hx hb dX11_ringOn_38 (lv_at hl 6 rfl) ?_
    refine lv_ishr hx hb dX11_ringOn_40 ?_
    refine lv_iconst (v := (1 : Int32)) hx hb dX11_ringOn_41 (by decide) ?_
    refine lv_iand hx hb dX11_ringOn_42 ?_
    refine lv_if_ne (tgt := 97) hx hb dX11_ringOn_43 (by decide) (fun c_6 => ?_) (fun c_6 => ?_)
    · have h := zk_f c_6 h
      exact L_X11_ringOn_97 C0 hK hA hr_X11_ringOn ih30 x1 x2 x3 x4 x5 x6 h H locs ls hP hD hS (lv_sub hl [0, 1, 2, 3, 4, 5, 6] rfl)
    · have h := zk_t c_6 h
      refine lv_aload_n hx hb dX11_ringOn_46 rfl (lv_at hl 0 rfl) ?_
      refine va_get (D := D) (ci := 11) (v := .ref (ad 3)) (C := RX11) (T := TX11) (N := 11) hx hb ht iX11 hown hK hP 0 rfl rfl 10 (by decide) (ht _ kw_706) (fun _ h9 => h9) rfl dX11_ringOn_47 ?_
      refine lv_iload_n hx hb dX11_ringOn_50 rfl (lv_at hl 2 rfl) ?_
      obtain ⟨g_7, h⟩ := zk_gd h
      refine va_iald hx hb hK hP 1 0 rfl rfl g_7 dX11_ringOn_51 ?_
      refine lv_iload hx hb dX11_ringOn_52 (lv_at hl 6 rfl) ?_
      refine lv_ishr hx hb dX11_ringOn_54 ?_
      refine lv_iconst (v := (1 : Int32)) hx hb dX11_ringOn_55 (by decide) ?_
      refine lv_iand hx hb dX11_ringOn_56 ?_
      refine lv_if_eq (tgt := 97) hx hb dX11_ringOn_57 (by decide) (fun c_8 => ?_) (fun c_8 => ?_)
      · have h := zk_t c_8 h
        exact L_X11_ringOn_97 C0 hK hA hr_X11_ringOn ih30 x1 x2 x3 x4 x5 x6 h H locs ls hP hD hS (lv_sub hl [0, 1, 2, 3, 4, 5, 6] rfl)
      · have h := zk_f c_8 h
        refine lv_aload_n hx hb dX11_ringOn_60 rfl (lv_at hl 0 rfl) ?_
        refine lv_iload_n hx hb dX11_ringOn_61 rfl (lv_at hl 1 rfl) ?_
        refine lv_iload hx hb dX11_ringOn_62 (lv_at hl 6 rfl) ?_
        refine lv_iload_n hx hb dX11_ringOn_64 rfl (lv_at hl 3 rfl) ?_
        refine lv_iconst (v := (1 : Int32)) hx hb dX11_ringOn_65 (by decide) ?_
        refine lv_iload hx hb dX11_ringOn_66 (lv_at hl 6 rfl) ?_
        refine lv_ishl hx hb dX11_ringOn_68 ?_
        refine lv_ior hx hb dX11_ringOn_69 ?_
        refine lv_iload hx hb dX11_ringOn_70 (lv_at hl 4 rfl) ?_
        refine lv_iconst (v := (1 : Int32)) hx hb dX11_ringOn_72 (by decide) ?_
        refine lv_isub hx hb dX11_ringOn_73 ?_
        refine lv_iload hx hb dX11_ringOn_74 (lv_at hl 5 rfl) ?_
        refine lv_bipush (v := (10 : Int32)) hx hb dX11_ringOn_76 (by decide) ?_
        refine lv_imul hx hb dX11_ringOn_78 ?_
        refine lv_iload hx hb dX11_ringOn_79 (lv_at hl 6 rfl) ?_
        refine lv_iadd hx hb dX11_ringOn_81 ?_
        refine lv_iconst (v := (1 : Int32)) hx hb dX11_ringOn_82 (by decide) ?_
        refine lv_iadd hx hb dX11_ringOn_83 ?_
        obtain ⟨r_9, u_10, hc_11, h⟩ := zk_o2 h
        refine zk_vi (post := (fun r u => (r, u) = (r_9, u_10))) (w1 := fun u => (wl_X11_ringOn ad cs root_heeded)) (As := [.int x1, .int x6, .int (x3 ||| ((1 : Int32) <<< (x6 &&& 31))), .int (x4 - (1 : Int32)), .int (((x5 * (10 : Int32)) + x6) + (1 : Int32))]) (rest := []) (hr_X11_ringOn D cs ad  H.size x1 x6 (x3 ||| ((1 : Int32) <<< (x6 &&& 31))) (x4 - (1 : Int32)) (((x5 * (10 : Int32)) + x6) + (1 : Int32)) root_heeded _ hc_11) ⟨hx, hb, hml, hown, ht⟩ (cwV 5 ht g_X11_422 rfl rfl rfl (by decide +kernel) ⟨(by show fr + 1 ≤ fr + 1; omega), (by show 8 + (8 + 11) + lo ≤ lo + 27; omega)⟩) (va_recv hK hP (ci := 11) (q0 := 0) rfl rfl) hP hD hS hK hA [0, 1] [] rfl rfl rfl rfl (by decide) rfl hl.1 (Nat.le_of_ble_eq_true rfl) dX11_ringOn_84 ⟨Nat.zero_le _, Nat.zero_le _⟩ (fun r u H locs hq hP hD hS => ?_)
        cases hq
        have hP : va_P D classes (wl_X11_ringOn ad cs root_heeded) H := hP.sub [0, 1] rfl
        have hD : va_D A (wl_X11_ringOn ad cs root_heeded) := hD.sub [0, 1] rfl rfl
        refine lv_istore (lv' := [(7, .int r_9), (0, .ref (ad 0)), (1, .int x1), (2, .int x2), (3, .int x3), (4, .int x4), (5, .int x5), (6, .int x6)]) hx hb dX11_ringOn_87 hl (by decide) rfl (fun ls hl => ?_)
        refine lv_iload hx hb dX11_ringOn_89 (lv_at hl 0 rfl) ?_
        refine lv_if_le (tgt := 97) hx hb dX11_ringOn_91 (by decide) (fun c_12 => ?_) (fun c_12 => ?_)
        · have h := zk_t c_12 h
          exact L_X11_ringOn_97 C0 hK hA hr_X11_ringOn ih30 x1 x2 x3 x4 x5 x6 h H locs ls hP hD hS (lv_sub hl [1, 2, 3, 4, 5, 6, 7] rfl)
        · have h := zk_f c_12 h
          refine lv_iload hx hb dX11_ringOn_94 (lv_at hl 0 rfl) ?_
          exact W.iret (v := r_9) hx hb hr (fun t ht2 hW => ⟨⟨r_9, (), rfl, Option.some.inj h, by rw [ht2]; exact hP, hD⟩, hS.F ht2⟩) hS.2.2 dX11_ringOn_96 hlocks
set_option maxHeartbeats 4000000 in
set_option maxRecDepth 100000 in
theorem L_X11_ringOn_0 {p : Program} {l : Launch} {e : Env} {s : State} {m : MethodId} {args : Array Value} {below : List Frame} {meth : Method} {c : Code} {A : Nat → Prop} {D : va_G} {cs : Nat → ClassId} {ad : Nat → Nat} {root_heeded : Nat → Int32} {R : Int32 × Unit} {g30 : Int32 → Int32 → Int32 → Int32 → Int32 → Int32 → (Option (Int32 × Unit))} (C0 : zC p s m args meth c cX11_ringOn 8 (some .int) RX11 zW) (hK : va_K D classes (zT cs) s) (hA : ∀ q : Nat, s.heap.size ≤ q → A q) {fr lo : Nat} {r_X11_ringOn : Int32 → Int32 → Int32 → Int32 → Int32 → (Nat → Int32) → (Option (Int32 × Unit))} (hr_X11_ringOn : ∀ (D : va_G) (cs : Nat → ClassId) (ad : Nat → Nat) (sz : Nat) (x1 : Int32) (x2 : Int32) (x3 : Int32) (x4 : Int32) (x5 : Int32) (root_heeded : Nat → Int32) (R : Int32 × Unit) (h : r_X11_ringOn x1 x2 x3 x4 x5 root_heeded = some R), Met l yX11_ringOn z_X11_ringOn ({ frames := fr, cells := 0, slots := 0, locals := lo } : Room) (va_Pc [.ref (ad 0), .int x1, .int x2, .int x3, .int x4, .int x5] (zPre D cs (wl_X11_ringOn ad cs root_heeded) sz)) (Q_X11_ringOn D cs ad root_heeded (va_A (wl_X11_ringOn ad cs root_heeded) sz) R) 0 0 (va_A (wl_X11_ringOn ad cs root_heeded) sz)) (ih30 : ∀ (x1 : Int32) (x2 : Int32) (x3 : Int32) (x4 : Int32) (x5 : Int32) (x6 : Int32) (h : g30 x1 x2 x3 x4 x5 x6 = some R) (H : Heap) (locs : List Loc) (ls : Array Slot) (hP : va_P D classes (wl_X11_ringOn ad cs root_heeded) H) (hD : va_D A (wl_X11_ringOn ad cs root_heeded)) (hS : va_S A s.heap H locs) (hl : lv_has ls 8 [(0, .ref (ad 0)), (1, .int x1), (2, .int x2), (3, .int x3), (4, .int x4), (5, .int x5), (6, .int x6)]), W p l e ({ frames := fr + 1, cells := 0, slots := 0, locals := lo + 27 } : Room) s m args below meth c H locs 0 0 (MQ below (Q_X11_ringOn D cs ad root_heeded A R) args s 0 0 A) (F0 m 30 ls [])) (x1 : Int32) (x2 : Int32) (x3 : Int32) (x4 : Int32) (x5 : Int32) (h : B_X11_ringOn_0 r_X11_ringOn g30 root_heeded x1 x2 x3 x4 x5 = some R) (H : Heap) (locs : List Loc) (ls : Array Slot) (hP : va_P D classes (wl_X11_ringOn ad cs root_heeded) H) (hD : va_D A (wl_X11_ringOn ad cs root_heeded)) (hS : va_S A s.heap H locs) (hl : lv_has ls 8 [(0, .ref (ad 0)), (1, .int x1), (2, .int x2), (3, .int x3), (4, .int x4), (5, .int x5)]) : W p l e ({ frames := fr + 1, cells := 0, slots := 0, locals := lo + 27 } : Room) s m args below meth c H locs 0 0 (MQ below (Q_X11_ringOn D cs ad root_heeded A R) args s 0 0 A) (F0 m 0 ls []) := by
  obtain ⟨hx, hb, hr, hml, hown, ht, hlocks⟩ := id C0
  refine lv_iload hx hb dX11_ringOn_0 (lv_at hl 4 rfl) ?_
  refine lv_if_gt (tgt := 25) hx hb dX11_ringOn_2 (by decide) (fun c_1 => ?_) (fun c_1 => ?_)
  · have h := zk_t c_1 h
    refine lv_iload_n hx hb dX11_ringOn_25 rfl (lv_at hl 1 rfl) ?_
    refine lv_iconst (v := (1 : Int32)) hx hb dX11_ringOn_26 (by decide) ?_
    refine lv_iadd hx hb dX11_ringOn_27 ?_
    obtain ⟨v_2, ev_2, h⟩ := zk_lt h
    refine W.eq (g2 := F0 m 28 ls [.int v_2]) (by rw [ev_2]) ?_
    refine lv_istore (lv' := [(6, .int v_2), (0, .ref (ad 0)), (1, .int x1), (2, .int x2), (3, .int x3), (4, .int x4), (5, .int x5)]) hx hb dX11_ringOn_28 hl (by decide) rfl (fun ls hl => ?_)
    exact ih30 x1 x2 x3 x4 x5 v_2 h H locs ls hP hD hS (lv_sub hl [1, 2, 3, 4, 5, 6, 0] rfl)
  · have h := zk_f c_1 h
    refine lv_aload_n hx hb dX11_ringOn_5 rfl (lv_at hl 0 rfl) ?_
    refine va_get (D := D) (ci := 11) (v := .ref (ad 3)) (C := RX11) (T := TX11) (N := 11) hx hb ht iX11 hown hK hP 0 rfl rfl 10 (by decide) (ht _ kw_706) (fun _ h9 => h9) rfl dX11_ringOn_6 ?_
    refine lv_iload_n hx hb dX11_ringOn_9 rfl (lv_at hl 2 rfl) ?_
    obtain ⟨g_3, h⟩ := zk_gd h
    refine va_iald hx hb hK hP 1 0 rfl rfl g_3 dX11_ringOn_10 ?_
    refine lv_iload_n hx hb dX11_ringOn_11 rfl (lv_at hl 1 rfl) ?_
    refine lv_ishr hx hb dX11_ringOn_12 ?_
    refine lv_iconst (v := (1 : Int32)) hx hb dX11_ringOn_13 (by decide) ?_
    refine lv_iand hx hb dX11_ringOn_14 ?_
    refine lv_if_eq (tgt := 23) hx hb dX11_ringOn_15 (by decide) (fun c_4 => ?_) (fun c_4 => ?_)
    · have h := zk_t c_4 h
      refine lv_iconst (v := (0 : Int32)) hx hb dX11_ringOn_23 (by decide) ?_
      exact W.iret (v := (0 : Int32)) hx hb hr (fun t ht2 hW => ⟨⟨(0 : Int32), (), rfl, Option.some.inj h, by rw [ht2]; exact hP, hD⟩, hS.F ht2⟩) hS.2.2 dX11_ringOn_24 hlocks
    · have h := zk_f c_4 h
      refine lv_iload hx hb dX11_ringOn_18 (lv_at hl 5 rfl) ?_
      refine lv_goto (tgt := 24) hx hb dX11_ringOn_20 (by decide) ?_
      exact W.iret (v := x5) hx hb hr (fun t ht2 hW => ⟨⟨x5, (), rfl, Option.some.inj h, by rw [ht2]; exact hP, hD⟩, hS.F ht2⟩) hS.2.2 dX11_ringOn_24 hlocks
theorem LG_X11_ringOn {p : Program} {l : Launch} {e : Env} {s : State} {m : MethodId} {args : Array Value} {below : List Frame} {meth : Method} {c : Code} {A : Nat → Prop} {D : va_G} {cs : Nat → ClassId} {ad : Nat → Nat} {root_heeded : Nat → Int32} {R : Int32 × Unit} (C0 : zC p s m args meth c cX11_ringOn 8 (some .int) RX11 zW) (hK : va_K D classes (zT cs) s) (hA : ∀ q : Nat, s.heap.size ≤ q → A q) {fr lo : Nat} {r_X11_ringOn : Int32 → Int32 → Int32 → Int32 → Int32 → (Nat → Int32) → (Option (Int32 × Unit))} (hr_X11_ringOn : ∀ (D : va_G) (cs : Nat → ClassId) (ad : Nat → Nat) (sz : Nat) (x1 : Int32) (x2 : Int32) (x3 : Int32) (x4 : Int32) (x5 : Int32) (root_heeded : Nat → Int32) (R : Int32 × Unit) (h : r_X11_ringOn x1 x2 x3 x4 x5 root_heeded = some R), Met l yX11_ringOn z_X11_ringOn ({ frames := fr, cells := 0, slots := 0, locals := lo } : Room) (va_Pc [.ref (ad 0), .int x1, .int x2, .int x3, .int x4, .int x5] (zPre D cs (wl_X11_ringOn ad cs root_heeded) sz)) (Q_X11_ringOn D cs ad root_heeded (va_A (wl_X11_ringOn ad cs root_heeded) sz) R) 0 0 (va_A (wl_X11_ringOn ad cs root_heeded) sz)) : ∀ n : Nat, (∀ (x1 : Int32) (x2 : Int32) (x3 : Int32) (x4 : Int32) (x5 : Int32) (x6 : Int32) (h : (G_X11_ringOn  r_X11_ringOn root_heeded n) x1 x2 x3 x4 x5 x6 = some R) (H : Heap) (locs : List Loc) (ls : Array Slot) (hP : va_P D classes (wl_X11_ringOn ad cs root_heeded) H) (hD : va_D A (wl_X11_ringOn ad cs root_heeded)) (hS : va_S A s.heap H locs) (hl : lv_has ls 8 [(0, .ref (ad 0)), (1, .int x1), (2, .int x2), (3, .int x3), (4, .int x4), (5, .int x5), (6, .int x6)]), W p l e ({ frames := fr + 1, cells := 0, slots := 0, locals := lo + 27 } : Room) s m args below meth c H locs 0 0 (MQ below (Q_X11_ringOn D cs ad root_heeded A R) args s 0 0 A) (F0 m 30 ls [])) := by
  intro n
  induction n with
  | zero =>
    refine ?_ <;> (intros; rename_i h _ _ _ _ _ _ _; cases h)
  | succ n ih =>
    exact L_X11_ringOn_30 C0 hK hA hr_X11_ringOn ih
set_option maxHeartbeats 4000000 in
set_option maxRecDepth 100000 in
theorem c_X11_ringOn (l : Launch) (D : va_G) (cs : Nat → ClassId) (ad : Nat → Nat) {fr lo : Nat} {r_X11_ringOn : Int32 → Int32 → Int32 → Int32 → Int32 → (Nat → Int32) → (Option (Int32 × Unit))} (hr_X11_ringOn : ∀ (D : va_G) (cs : Nat → ClassId) (ad : Nat → Nat) (sz : Nat) (x1 : Int32) (x2 : Int32) (x3 : Int32) (x4 : Int32) (x5 : Int32) (root_heeded : Nat → Int32) (R : Int32 × Unit) (h : r_X11_ringOn x1 x2 x3 x4 x5 root_heeded = some R), Met l yX11_ringOn z_X11_ringOn ({ frames := fr, cells := 0, slots := 0, locals := lo } : Room) (va_Pc [.ref (ad 0), .int x1, .int x2, .int x3, .int x4, .int x5] (zPre D cs (wl_X11_ringOn ad cs root_heeded) sz)) (Q_X11_ringOn D cs ad root_heeded (va_A (wl_X11_ringOn ad cs root_heeded) sz) R) 0 0 (va_A (wl_X11_ringOn ad cs root_heeded) sz)) (sz : Nat) (n : Nat) (x1 : Int32) (x2 : Int32) (x3 : Int32) (x4 : Int32) (x5 : Int32) (root_heeded : Nat → Int32) (R : Int32 × Unit) (h : f_X11_ringOn  r_X11_ringOn n x1 x2 x3 x4 x5 root_heeded = some R) : Met l yX11_ringOn (z_X11_ringOn) ({ frames := fr + 1, cells := 0, slots := 0, locals := lo + 27 } : Room) (va_Pc [.ref (ad 0), .int x1, .int x2, .int x3, .int x4, .int x5] (zPre D cs (wl_X11_ringOn ad cs root_heeded) sz)) (Q_X11_ringOn D cs ad root_heeded (va_A (wl_X11_ringOn ad cs root_heeded) sz) R) 0 0 (va_A (wl_X11_ringOn ad cs root_heeded) sz) := by
  refine Met.ofW (cc := cX11_ringOn) (maxL := 8) (ret := (some .int)) (by decide) rfl ?_
  intro p e s m args below meth c s₁ B hml hv
  obtain ⟨rfl, hsz, hP, hK, hD0⟩ := hv
  subst hsz
  have hD := hD0.self (sz := s.heap.size)
  have C0 : zC p s m _ meth c cX11_ringOn 8 (some .int) RX11 zW := ⟨B.exec, B.bytes, B.returns, hml, findClass_of_methodNamed B.named, fun w hw => atoms_spec (ws := z_X11_ringOn) B.pre w (List.mem_cons_of_mem _ hw), B.notSynchronized⟩
  have hA : ∀ q : Nat, s.heap.size ≤ q → va_A (wl_X11_ringOn ad cs root_heeded) s.heap.size q := fun q h => Or.inr h
  have hl := lv_entry ([.ref (ad 0), .int x1, .int x2, .int x3, .int x4, .int x5]) (n := 8) (Nat.le_of_ble_eq_true rfl)
  rw [lg_entry_eq]
  generalize (lg_sl ([.ref (ad 0), .int x1, .int x2, .int x3, .int x4, .int x5]) ++ List.replicate (8 - (lg_sl ([.ref (ad 0), .int x1, .int x2, .int x3, .int x4, .int x5])).length) Slot.unset).toArray = ls at hl ⊢
  exact L_X11_ringOn_0 C0 hK hA hr_X11_ringOn ((LG_X11_ringOn C0 hK hA hr_X11_ringOn n)) x1 x2 x3 x4 x5  h s.heap [] ls hP hD va_S.rf hl
theorem cg_grp210 (l : Launch) : ∀ n : Nat, (∀ (D : va_G) (cs : Nat → ClassId) (ad : Nat → Nat) (sz : Nat) (x1 : Int32) (x2 : Int32) (x3 : Int32) (x4 : Int32) (x5 : Int32) (root_heeded : Nat → Int32) (R : Int32 × Unit) (h : ((grp_grp210 n)) x1 x2 x3 x4 x5 root_heeded = some R), Met l yX11_ringOn z_X11_ringOn ({ frames := 1 * n, cells := 0, slots := 0, locals := 27 * n } : Room) (va_Pc [.ref (ad 0), .int x1, .int x2, .int x3, .int x4, .int x5] (zPre D cs (wl_X11_ringOn ad cs root_heeded) sz)) (Q_X11_ringOn D cs ad root_heeded (va_A (wl_X11_ringOn ad cs root_heeded) sz) R) 0 0 (va_A (wl_X11_ringOn ad cs root_heeded) sz)) := by
  intro n
  induction n with
  | zero =>
    refine ?_ <;> (intros; rename_i h; cases h)
  | succ n ih =>
    exact (fun D cs ad   sz x1 x2 x3 x4 x5 root_heeded R h => c_X11_ringOn l D cs ad   (ih) sz 4000 x1 x2 x3 x4 x5 root_heeded R h)
theorem dX11_firstRing_0 : decode cX11_firstRing 0 = .ok (.iconst 0, 1) := by decide +kernel
theorem dX11_firstRing_1 : decode cX11_firstRing 1 = .ok (.istore_n 2, 1) := by decide +kernel
theorem dX11_firstRing_2 : decode cX11_firstRing 2 = .ok (.iload_n 2, 1) := by decide +kernel
theorem dX11_firstRing_3 : decode cX11_firstRing 3 = .ok (.iload_n 1, 1) := by decide +kernel
theorem dX11_firstRing_4 : decode cX11_firstRing 4 = .ok (.iadd, 1) := by decide +kernel
theorem dX11_firstRing_5 : decode cX11_firstRing 5 = .ok (.bipush 8, 2) := by decide +kernel
theorem dX11_firstRing_7 : decode cX11_firstRing 7 = .ok (.if_icmp .gt 31, 3) := by decide +kernel
theorem dX11_firstRing_10 : decode cX11_firstRing 10 = .ok (.aload_n 0, 1) := by decide +kernel
theorem dX11_firstRing_11 : decode cX11_firstRing 11 = .ok (.iload_n 2, 1) := by decide +kernel
theorem dX11_firstRing_12 : decode cX11_firstRing 12 = .ok (.iload_n 2, 1) := by decide +kernel
theorem dX11_firstRing_13 : decode cX11_firstRing 13 = .ok (.iconst 1, 1) := by decide +kernel
theorem dX11_firstRing_14 : decode cX11_firstRing 14 = .ok (.iload_n 2, 1) := by decide +kernel
theorem dX11_firstRing_15 : decode cX11_firstRing 15 = .ok (.ishl, 1) := by decide +kernel
theorem dX11_firstRing_16 : decode cX11_firstRing 16 = .ok (.iload_n 1, 1) := by decide +kernel
theorem dX11_firstRing_17 : decode cX11_firstRing 17 = .ok (.iconst 1, 1) := by decide +kernel
theorem dX11_firstRing_18 : decode cX11_firstRing 18 = .ok (.isub, 1) := by decide +kernel
theorem dX11_firstRing_19 : decode cX11_firstRing 19 = .ok (.iload_n 2, 1) := by decide +kernel
theorem dX11_firstRing_20 : decode cX11_firstRing 20 = .ok (.iconst 1, 1) := by decide +kernel
theorem dX11_firstRing_21 : decode cX11_firstRing 21 = .ok (.iadd, 1) := by decide +kernel
theorem dX11_firstRing_22 : decode cX11_firstRing 22 = .ok (.invokevirtual 422, 3) := by decide +kernel
theorem dX11_firstRing_25 : decode cX11_firstRing 25 = .ok (.istore_n 3, 1) := by decide +kernel
theorem dX11_firstRing_26 : decode cX11_firstRing 26 = .ok (.iload_n 3, 1) := by decide +kernel
theorem dX11_firstRing_27 : decode cX11_firstRing 27 = .ok (.ifCond .le 5, 3) := by decide +kernel
theorem dX11_firstRing_30 : decode cX11_firstRing 30 = .ok (.iload_n 3, 1) := by decide +kernel
theorem dX11_firstRing_31 : decode cX11_firstRing 31 = .ok (.ireturn, 1) := by decide +kernel
theorem dX11_firstRing_32 : decode cX11_firstRing 32 = .ok (.iinc 2 1, 3) := by decide +kernel
theorem dX11_firstRing_35 : decode cX11_firstRing 35 = .ok (.goto (-33), 3) := by decide +kernel
theorem dX11_firstRing_38 : decode cX11_firstRing 38 = .ok (.iconst 0, 1) := by decide +kernel
theorem dX11_firstRing_39 : decode cX11_firstRing 39 = .ok (.ireturn, 1) := by decide +kernel
abbrev z_X11_firstRing : List Cond := .code yX11_firstRing cX11_firstRing 4 (some .int) :: zW
abbrev wl_X11_firstRing (ad : Nat → Nat) (cs : Nat → ClassId)  (root_heeded : Nat → Int32) : va_W := [((ad 0), .inr (11, [.ref (ad 4), .ref (ad 15), .ref (ad 23), .ref (ad 25), .ref (ad 26), .ref (ad 28), .ref (ad 34), .ref (ad 39), .ref (ad 1), .ref (ad 2), .ref (ad 3)])), ((ad 3), .inl (cs 0, 8, .inl root_heeded))]
def Q_X11_firstRing (D : va_G) (cs : Nat → ClassId) (ad : Nat → Nat)  (root_heeded : Nat → Int32) (A : Nat → Prop) (R : Int32 × Unit) : Array Value → State → Outcome → State → Prop :=
  va_Qi (fun (r : Int32) (u : Unit) => (r, u) = R) (fun (u : Unit) (t : State) => va_P D classes (wl_X11_firstRing ad cs root_heeded) t.heap ∧ va_D A (wl_X11_firstRing ad cs root_heeded)) A
abbrev rm_X11_firstRing : Room := { frames := 61, cells := 0, slots := 0, locals := 1647 }
def B_X11_firstRing_2   (g2 : Int32 → Int32 → (Option (Int32 × Unit))) (root_heeded : Nat → Int32) (x1 : Int32) (x2 : Int32) : Option (Int32 × Unit) :=
  (if (8 : Int32) < (x2 + x1) then (some ((0 : Int32), ())) else (zk_b2 ((grp_grp210 60) x2 x2 ((1 : Int32) <<< (x2 &&& 31)) (x1 - (1 : Int32)) (x2 + (1 : Int32)) root_heeded) (fun r_2 u_3 => (if r_2 ≤ 0 then (zk_let (x2 + (1 : Int32)) (fun v_6 => (g2 x1 v_6))) else (some (r_2, ()))))))
def B_X11_firstRing_0   (g2 : Int32 → Int32 → (Option (Int32 × Unit))) (root_heeded : Nat → Int32) (x1 : Int32) : Option (Int32 × Unit) :=
  (g2 x1 (0 : Int32))
def G_X11_firstRing   (root_heeded : Nat → Int32) (n : Nat) : (Int32 → Int32 → (Option (Int32 × Unit))) :=
  Nat.rec (motive := fun _ => (Int32 → Int32 → (Option (Int32 × Unit)))) ((fun _ _ => none)) (fun _ ih => (B_X11_firstRing_2   ih root_heeded)) n
def f_X11_firstRing   (n : Nat) (x1 : Int32) (root_heeded : Nat → Int32) : Option (Int32 × Unit) := B_X11_firstRing_0   ((G_X11_firstRing   root_heeded n)) root_heeded x1 
set_option maxHeartbeats 4000000 in
set_option maxRecDepth 100000 in
theorem L_X11_firstRing_2 {p : Program} {l : Launch} {e : Env} {s : State} {m : MethodId} {args : Array Value} {below : List Frame} {meth : Method} {c : Code} {A : Nat → Prop} {D : va_G} {cs : Nat → ClassId} {ad : Nat → Nat} {root_heeded : Nat → Int32} {R : Int32 × Unit} {g2 : Int32 → Int32 → (Option (Int32 × Unit))} (C0 : zC p s m args meth c cX11_firstRing 4 (some .int) RX11 zW) (hK : va_K D classes (zT cs) s) (hA : ∀ q : Nat, s.heap.size ≤ q → A q) (ih2 : ∀ (x1 : Int32) (x2 : Int32) (h : g2 x1 x2 = some R) (H : Heap) (locs : List Loc) (ls : Array Slot) (hP : va_P D classes (wl_X11_firstRing ad cs root_heeded) H) (hD : va_D A (wl_X11_firstRing ad cs root_heeded)) (hS : va_S A s.heap H locs) (hl : lv_has ls 4 [(0, .ref (ad 0)), (1, .int x1), (2, .int x2)]), W p l e rm_X11_firstRing s m args below meth c H locs 0 0 (MQ below (Q_X11_firstRing D cs ad root_heeded A R) args s 0 0 A) (F0 m 2 ls [])) (x1 : Int32) (x2 : Int32) (h : B_X11_firstRing_2 g2 root_heeded x1 x2 = some R) (H : Heap) (locs : List Loc) (ls : Array Slot) (hP : va_P D classes (wl_X11_firstRing ad cs root_heeded) H) (hD : va_D A (wl_X11_firstRing ad cs root_heeded)) (hS : va_S A s.heap H locs) (hl : lv_has ls 4 [(0, .ref (ad 0)), (1, .int x1), (2, .int x2)]) : W p l e rm_X11_firstRing s m args below meth c H locs 0 0 (MQ below (Q_X11_firstRing D cs ad root_heeded A R) args s 0 0 A) (F0 m 2 ls []) := by
  obtain ⟨hx, hb, hr, hml, hown, ht, hlocks⟩ := id C0
  refine lv_iload_n hx hb dX11_firstRing_2 rfl (lv_at hl 2 rfl) ?_
  refine lv_iload_n hx hb dX11_firstRing_3 rfl (lv_at hl 1 rfl) ?_
  refine lv_iadd hx hb dX11_firstRing_4 ?_
  refine lv_bipush (v := (8 : Int32)) hx hb dX11_firstRing_5 (by decide) ?_
  refine lv_icmp_gt (tgt := 38) hx hb dX11_firstRing_7 (by decide) (fun c_1 => ?_) (fun c_1 => ?_)
  · have h := zk_t c_1 h
    refine lv_iconst (v := (0 : Int32)) hx hb dX11_firstRing_38 (by decide) ?_
    exact W.iret (v := (0 : Int32)) hx hb hr (fun t ht2 hW => ⟨⟨(0 : Int32), (), rfl, Option.some.inj h, by rw [ht2]; exact hP, hD⟩, hS.F ht2⟩) hS.2.2 dX11_firstRing_39 hlocks
  · have h := zk_f c_1 h
    refine lv_aload_n hx hb dX11_firstRing_10 rfl (lv_at hl 0 rfl) ?_
    refine lv_iload_n hx hb dX11_firstRing_11 rfl (lv_at hl 2 rfl) ?_
    refine lv_iload_n hx hb dX11_firstRing_12 rfl (lv_at hl 2 rfl) ?_
    refine lv_iconst (v := (1 : Int32)) hx hb dX11_firstRing_13 (by decide) ?_
    refine lv_iload_n hx hb dX11_firstRing_14 rfl (lv_at hl 2 rfl) ?_
    refine lv_ishl hx hb dX11_firstRing_15 ?_
    refine lv_iload_n hx hb dX11_firstRing_16 rfl (lv_at hl 1 rfl) ?_
    refine lv_iconst (v := (1 : Int32)) hx hb dX11_firstRing_17 (by decide) ?_
    refine lv_isub hx hb dX11_firstRing_18 ?_
    refine lv_iload_n hx hb dX11_firstRing_19 rfl (lv_at hl 2 rfl) ?_
    refine lv_iconst (v := (1 : Int32)) hx hb dX11_firstRing_20 (by decide) ?_
    refine lv_iadd hx hb dX11_firstRing_21 ?_
    obtain ⟨r_2, u_3, hc_4, h⟩ := zk_o2 h
    refine zk_vi (post := (fun r u => (r, u) = (r_2, u_3))) (w1 := fun u => (wl_X11_ringOn ad cs root_heeded)) (As := [.int x2, .int x2, .int ((1 : Int32) <<< (x2 &&& 31)), .int (x1 - (1 : Int32)), .int (x2 + (1 : Int32))]) (rest := []) (((cg_grp210 l 60)) D cs ad  H.size x2 x2 ((1 : Int32) <<< (x2 &&& 31)) (x1 - (1 : Int32)) (x2 + (1 : Int32)) root_heeded _ hc_4) ⟨hx, hb, hml, hown, ht⟩ (cwV 5 ht g_X11_422 rfl rfl rfl (by decide +kernel) ⟨Nat.le_of_ble_eq_true rfl, Nat.le_of_ble_eq_true rfl⟩) (va_recv hK hP (ci := 11) (q0 := 0) rfl rfl) hP hD hS hK hA [0, 1] [] rfl rfl rfl rfl (by decide) rfl hl.1 (Nat.le_of_ble_eq_true rfl) dX11_firstRing_22 ⟨Nat.zero_le _, Nat.zero_le _⟩ (fun r u H locs hq hP hD hS => ?_)
    cases hq
    have hP : va_P D classes (wl_X11_firstRing ad cs root_heeded) H := hP.sub [0, 1] rfl
    have hD : va_D A (wl_X11_firstRing ad cs root_heeded) := hD.sub [0, 1] rfl rfl
    refine lv_istore_n (lv' := [(3, .int r_2), (0, .ref (ad 0)), (1, .int x1), (2, .int x2)]) hx hb dX11_firstRing_25 rfl hl (by decide) rfl (fun ls hl => ?_)
    refine lv_iload_n hx hb dX11_firstRing_26 rfl (lv_at hl 0 rfl) ?_
    refine lv_if_le (tgt := 32) hx hb dX11_firstRing_27 (by decide) (fun c_5 => ?_) (fun c_5 => ?_)
    · have h := zk_t c_5 h
      obtain ⟨v_6, ev_6, h⟩ := zk_lt h
      refine lv_iinc (v := v_6) (lv' := [(2, .int v_6), (3, .int r_2), (0, .ref (ad 0)), (1, .int x1)]) hx hb dX11_firstRing_32 hl (k := 3) rfl (by rw [ev_6]; rfl) (by decide) rfl (fun ls hl => ?_)
      refine lv_goto (tgt := 2) hx hb dX11_firstRing_35 (by decide) ?_
      exact ih2 x1 v_6 h H locs ls hP hD hS (lv_sub hl [2, 3, 0] rfl)
    · have h := zk_f c_5 h
      refine lv_iload_n hx hb dX11_firstRing_30 rfl (lv_at hl 0 rfl) ?_
      exact W.iret (v := r_2) hx hb hr (fun t ht2 hW => ⟨⟨r_2, (), rfl, Option.some.inj h, by rw [ht2]; exact hP, hD⟩, hS.F ht2⟩) hS.2.2 dX11_firstRing_31 hlocks
set_option maxHeartbeats 4000000 in
set_option maxRecDepth 100000 in
theorem L_X11_firstRing_0 {p : Program} {l : Launch} {e : Env} {s : State} {m : MethodId} {args : Array Value} {below : List Frame} {meth : Method} {c : Code} {A : Nat → Prop} {D : va_G} {cs : Nat → ClassId} {ad : Nat → Nat} {root_heeded : Nat → Int32} {R : Int32 × Unit} {g2 : Int32 → Int32 → (Option (Int32 × Unit))} (C0 : zC p s m args meth c cX11_firstRing 4 (some .int) RX11 zW) (hK : va_K D classes (zT cs) s) (hA : ∀ q : Nat, s.heap.size ≤ q → A q) (ih2 : ∀ (x1 : Int32) (x2 : Int32) (h : g2 x1 x2 = some R) (H : Heap) (locs : List Loc) (ls : Array Slot) (hP : va_P D classes (wl_X11_firstRing ad cs root_heeded) H) (hD : va_D A (wl_X11_firstRing ad cs root_heeded)) (hS : va_S A s.heap H locs) (hl : lv_has ls 4 [(0, .ref (ad 0)), (1, .int x1), (2, .int x2)]), W p l e rm_X11_firstRing s m args below meth c H locs 0 0 (MQ below (Q_X11_firstRing D cs ad root_heeded A R) args s 0 0 A) (F0 m 2 ls [])) (x1 : Int32) (h : B_X11_firstRing_0 g2 root_heeded x1 = some R) (H : Heap) (locs : List Loc) (ls : Array Slot) (hP : va_P D classes (wl_X11_firstRing ad cs root_heeded) H) (hD : va_D A (wl_X11_firstRing ad cs root_heeded)) (hS : va_S A s.heap H locs) (hl : lv_has ls 4 [(0, .ref (ad 0)), (1, .int x1)]) : W p l e rm_X11_firstRing s m args below meth c H locs 0 0 (MQ below (Q_X11_firstRing D cs ad root_heeded A R) args s 0 0 A) (F0 m 0 ls []) := by
  obtain ⟨hx, hb, hr, hml, hown, ht, hlocks⟩ := id C0
  refine lv_iconst (v := (0 : Int32)) hx hb dX11_firstRing_0 (by decide) ?_
  refine lv_istore_n (lv' := [(2, .int (0 : Int32)), (0, .ref (ad 0)), (1, .int x1)]) hx hb dX11_firstRing_1 rfl hl (by decide) rfl (fun ls hl => ?_)
  exact ih2 x1 (0 : Int32) h H locs ls hP hD hS (lv_sub hl [1, 2, 0] rfl)
theorem LG_X11_firstRing {p : Program} {l : Launch} {e : Env} {s : State} {m : MethodId} {args : Array Value} {below : List Frame} {meth : Method} {c : Code} {A : Nat → Prop} {D : va_G} {cs : Nat → ClassId} {ad : Nat → Nat} {root_heeded : Nat → Int32} {R : Int32 × Unit} (C0 : zC p s m args meth c cX11_firstRing 4 (some .int) RX11 zW) (hK : va_K D classes (zT cs) s) (hA : ∀ q : Nat, s.heap.size ≤ q → A q) : ∀ n : Nat, (∀ (x1 : Int32) (x2 : Int32) (h : (G_X11_firstRing   root_heeded n) x1 x2 = some R) (H : Heap) (locs : List Loc) (ls : Array Slot) (hP : va_P D classes (wl_X11_firstRing ad cs root_heeded) H) (hD : va_D A (wl_X11_firstRing ad cs root_heeded)) (hS : va_S A s.heap H locs) (hl : lv_has ls 4 [(0, .ref (ad 0)), (1, .int x1), (2, .int x2)]), W p l e rm_X11_firstRing s m args below meth c H locs 0 0 (MQ below (Q_X11_firstRing D cs ad root_heeded A R) args s 0 0 A) (F0 m 2 ls [])) := by
  intro n
  induction n with
  | zero =>
    refine ?_ <;> (intros; rename_i h _ _ _ _ _ _ _; cases h)
  | succ n ih =>
    exact L_X11_firstRing_2 C0 hK hA  ih
set_option maxHeartbeats 4000000 in
set_option maxRecDepth 100000 in
theorem c_X11_firstRing (l : Launch) (D : va_G) (cs : Nat → ClassId) (ad : Nat → Nat) (sz : Nat) (n : Nat) (x1 : Int32) (root_heeded : Nat → Int32) (R : Int32 × Unit) (h : f_X11_firstRing   n x1 root_heeded = some R) : Met l yX11_firstRing (z_X11_firstRing) rm_X11_firstRing (va_Pc [.ref (ad 0), .int x1] (zPre D cs (wl_X11_firstRing ad cs root_heeded) sz)) (Q_X11_firstRing D cs ad root_heeded (va_A (wl_X11_firstRing ad cs root_heeded) sz) R) 0 0 (va_A (wl_X11_firstRing ad cs root_heeded) sz) := by
  refine Met.ofW (cc := cX11_firstRing) (maxL := 4) (ret := (some .int)) (by decide) rfl ?_
  intro p e s m args below meth c s₁ B hml hv
  obtain ⟨rfl, hsz, hP, hK, hD0⟩ := hv
  subst hsz
  have hD := hD0.self (sz := s.heap.size)
  have C0 : zC p s m _ meth c cX11_firstRing 4 (some .int) RX11 zW := ⟨B.exec, B.bytes, B.returns, hml, findClass_of_methodNamed B.named, fun w hw => atoms_spec (ws := z_X11_firstRing) B.pre w (List.mem_cons_of_mem _ hw), B.notSynchronized⟩
  have hA : ∀ q : Nat, s.heap.size ≤ q → va_A (wl_X11_firstRing ad cs root_heeded) s.heap.size q := fun q h => Or.inr h
  have hl := lv_entry ([.ref (ad 0), .int x1]) (n := 4) (Nat.le_of_ble_eq_true rfl)
  rw [lg_entry_eq]
  generalize (lg_sl ([.ref (ad 0), .int x1]) ++ List.replicate (4 - (lg_sl ([.ref (ad 0), .int x1])).length) Slot.unset).toArray = ls at hl ⊢
  exact L_X11_firstRing_0 C0 hK hA  ((LG_X11_firstRing C0 hK hA  n)) x1  h s.heap [] ls hP hD va_S.rf hl
