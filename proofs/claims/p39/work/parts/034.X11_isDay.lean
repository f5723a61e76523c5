theorem zh_cX11_isDay_0 : zck [26, 155, 0, 14, 26, 17, 39, 16, 162, 0, 7, 4, 167, 0, 4, 3, 172] (zdu 0 cX11_isDay.data.toList) = true := by decide +kernel
theorem dX11_isDay_0 : decode cX11_isDay 0 = .ok (.iload_n 0, 1) := zo_26 zh_cX11_isDay_0 0 rfl
theorem dX11_isDay_1 : decode cX11_isDay 1 = .ok (.ifCond .lt 14, 3) := zo_p155 zh_cX11_isDay_0 1 14 rfl rfl
theorem dX11_isDay_4 : decode cX11_isDay 4 = .ok (.iload_n 0, 1) := zo_26 zh_cX11_isDay_0 4 rfl
theorem dX11_isDay_5 : decode cX11_isDay 5 = .ok (.sipush 10000, 3) := zo_p17 zh_cX11_isDay_0 5 10000 rfl rfl
theorem dX11_isDay_8 : decode cX11_isDay 8 = .ok (.if_icmp .ge 7, 3) := zo_p162 zh_cX11_isDay_0 8 7 rfl rfl
theorem dX11_isDay_11 : decode cX11_isDay 11 = .ok (.iconst 1, 1) := zo_4 zh_cX11_isDay_0 11 rfl
theorem dX11_isDay_12 : decode cX11_isDay 12 = .ok (.goto 4, 3) := zo_p167 zh_cX11_isDay_0 12 4 rfl rfl
theorem dX11_isDay_15 : decode cX11_isDay 15 = .ok (.iconst 0, 1) := zo_3 zh_cX11_isDay_0 15 rfl
theorem dX11_isDay_16 : decode cX11_isDay 16 = .ok (.ireturn, 1) := zo_172 zh_cX11_isDay_0 16 rfl
abbrev z_X11_isDay : List Cond := .code yX11_isDay cX11_isDay 1 (some .boolean) :: zW
abbrev wl_X11_isDay (ad : Nat → Nat) (cs : Nat → ClassId)   : va_W := []
def Q_X11_isDay (D : va_G) (cs : Nat → ClassId) (ad : Nat → Nat)   (A : Nat → Prop) (R : Int32 × Unit) : Array Value → State → Outcome → State → Prop :=
  va_Qi (fun (r : Int32) (u : Unit) => (r, u) = R) (fun (u : Unit) (t : State) => va_P D classes (wl_X11_isDay ad cs ) t.heap ∧ va_D A (wl_X11_isDay ad cs )) A
abbrev rm_X11_isDay : Room := { frames := 0, cells := 0, slots := 0, locals := 0 }
def B_X11_isDay_0     (x0 : Int32) : Option (Int32 × Unit) :=
  (if x0 < 0 then (some ((0 : Int32), ())) else (if (10000 : Int32) ≤ x0 then (some ((0 : Int32), ())) else (some ((1 : Int32), ()))))
def f_X11_isDay   (x0 : Int32)  : Option (Int32 × Unit) := B_X11_isDay_0    x0 
set_option maxHeartbeats 4000000 in
set_option maxRecDepth 100000 in
theorem L_X11_isDay_0 {p : Program} {l : Launch} {e : Env} {s : State} {m : MethodId} {args : Array Value} {below : List Frame} {meth : Method} {c : Code} {A : Nat → Prop} {D : va_G} {cs : Nat → ClassId} {ad : Nat → Nat} {R : Int32 × Unit} (C0 : zC p s m args meth c cX11_isDay 1 (some .boolean) RX11 zW) (hK : va_K D classes (zT cs) s) (hA : ∀ q : Nat, s.heap.size ≤ q → A q) (x0 : Int32) (h : B_X11_isDay_0 x0 = some R) (H : Heap) (locs : List Loc) (ls : Array Slot) (hP : va_P D classes (wl_X11_isDay ad cs ) H) (hD : va_D A (wl_X11_isDay ad cs )) (hS : va_S A s.heap H locs) (hl : lv_has ls 1 [(0, .int x0)]) : W p l e rm_X11_isDay s m args below meth c H locs 0 0 (MQ below (Q_X11_isDay D cs ad  A R) args s 0 0 A) (F0 m 0 ls []) := by
  obtain ⟨hx, hb, hr, hml, hown, ht, hlocks⟩ := id C0
  refine lv_iload_n hx hb dX11_isDay_0 rfl (lv_at hl 0 rfl) ?_
  refine lv_if_lt (tgt := 15) hx hb dX11_isDay_1 (by decide) (fun c_1 => ?_) (fun c_1 => ?_)
  · have h := zk_t c_1 h
    refine lv_iconst (v := (0 : Int32)) hx hb dX11_isDay_15 (by decide) ?_
    exact W.zret (ty := .boolean) (v := (0 : Int32)) hx hb hr rfl (fun t ht2 hW => ⟨⟨(0 : Int32), (), rfl, Option.some.inj h, by rw [ht2]; exact hP, hD⟩, hS.F ht2⟩) hS.2.2 dX11_isDay_16 hlocks
  · have h := zk_f c_1 h
    refine lv_iload_n hx hb dX11_isDay_4 rfl (lv_at hl 0 rfl) ?_
    refine lv_sipush (v := (10000 : Int32)) hx hb dX11_isDay_5 (by decide) ?_
    refine lv_icmp_ge (tgt := 15) hx hb dX11_isDay_8 (by decide) (fun c_2 => ?_) (fun c_2 => ?_)
    · have h := zk_t c_2 h
      refine lv_iconst (v := (0 : Int32)) hx hb dX11_isDay_15 (by decide) ?_
      exact W.zret (ty := .boolean) (v := (0 : Int32)) hx hb hr rfl (fun t ht2 hW => ⟨⟨(0 : Int32), (), rfl, Option.some.inj h, by rw [ht2]; exact hP, hD⟩, hS.F ht2⟩) hS.2.2 dX11_isDay_16 hlocks
    · have h := zk_f c_2 h
      refine lv_iconst (v := (1 : Int32)) hx hb dX11_isDay_11 (by decide) ?_
      refine lv_goto (tgt := 16) hx hb dX11_isDay_12 (by decide) ?_
      exact W.zret (ty := .boolean) (v := (1 : Int32)) hx hb hr rfl (fun t ht2 hW => ⟨⟨(1 : Int32), (), rfl, Option.some.inj h, by rw [ht2]; exact hP, hD⟩, hS.F ht2⟩) hS.2.2 dX11_isDay_16 hlocks
set_option maxHeartbeats 4000000 in
set_option maxRecDepth 100000 in
theorem c_X11_isDay (l : Launch) (D : va_G) (cs : Nat → ClassId) (ad : Nat → Nat) (sz : Nat) (x0 : Int32)  (R : Int32 × Unit) (h : f_X11_isDay   x0  = some R) : Met l yX11_isDay (z_X11_isDay) rm_X11_isDay (va_Pc [.int x0] (zPre D cs (wl_X11_isDay ad cs ) sz)) (Q_X11_isDay D cs ad  (va_A (wl_X11_isDay ad cs ) sz) R) 0 0 (va_A (wl_X11_isDay ad cs ) sz) := by
  refine Met.ofW (cc := cX11_isDay) (maxL := 1) (ret := (some .boolean)) (by decide) rfl ?_
  intro p e s m args below meth c s₁ B hml hv
  obtain ⟨rfl, hsz, hP, hK, hD0⟩ := hv
  subst hsz
  have hD := hD0.self (sz := s.heap.size)
  have C0 : zC p s m _ meth c cX11_isDay 1 (some .boolean) RX11 zW := ⟨B.exec, B.bytes, B.returns, hml, findClass_of_methodNamed B.named, fun w hw => atoms_spec (ws := z_X11_isDay) B.pre w (List.mem_cons_of_mem _ hw), B.notSynchronized⟩
  have hA : ∀ q : Nat, s.heap.size ≤ q → va_A (wl_X11_isDay ad cs ) s.heap.size q := fun q h => Or.inr h
  have hl := lv_entry ([.int x0]) (n := 1) (Nat.le_of_ble_eq_true rfl)
  rw [lg_entry_eq]
  generalize (lg_sl ([.int x0]) ++ List.replicate (1 - (lg_sl ([.int x0])).length) Slot.unset).toArray = ls at hl ⊢
  exact L_X11_isDay_0 C0 hK hA   x0  h s.heap [] ls hP hD va_S.rf hl
theorem zh_cJ7_fill_d0a16_0 : zck [3, 62, 42, 190, 54, 4, 29, 21, 4, 162, 0, 13, 42, 29, 31, 80, 132, 3, 1, 167, 255, 243] (zdu 0 cJ7_fill_d0a16.data.toList) = true := by decide +kernel
theorem dJ7_fill_d0a16_0 : decode cJ7_fill_d0a16 0 = .ok (.iconst 0, 1) := zo_3 zh_cJ7_fill_d0a16_0 0 rfl
theorem dJ7_fill_d0a16_1 : decode cJ7_fill_d0a16 1 = .ok (.istore_n 3, 1) := zo_62 zh_cJ7_fill_d0a16_0 1 rfl
theorem dJ7_fill_d0a16_2 : decode cJ7_fill_d0a16 2 = .ok (.aload_n 0, 1) := zo_42 zh_cJ7_fill_d0a16_0 2 rfl
theorem zo_190 {c : ByteArray} {s : Nat} {K : List Nat} (h : zck K (zdu s c.data.toList) = true) (k : Nat) (hk : zt1 K k 190 = true) : decode c (s + k) = .ok (.arraylength, 1) := zde ((zbd (zu1 (zh1 h hk))).trans rfl)
theorem dJ7_fill_d0a16_3 : decode cJ7_fill_d0a16 3 = .ok (.arraylength, 1) := zo_190 zh_cJ7_fill_d0a16_0 3 rfl
theorem dJ7_fill_d0a16_4 : decode cJ7_fill_d0a16 4 = .ok (.istore 4, 2) := zo_54 zh_cJ7_fill_d0a16_0 4 rfl
theorem dJ7_fill_d0a16_6 : decode cJ7_fill_d0a16 6 = .ok (.iload_n 3, 1) := zo_29 zh_cJ7_fill_d0a16_0 6 rfl
theorem dJ7_fill_d0a16_7 : decode cJ7_fill_d0a16 7 = .ok (.iload 4, 2) := zo_21 zh_cJ7_fill_d0a16_0 7 rfl
theorem dJ7_fill_d0a16_9 : decode cJ7_fill_d0a16 9 = .ok (.if_icmp .ge 13, 3) := zo_p162 zh_cJ7_fill_d0a16_0 9 13 rfl rfl
theorem dJ7_fill_d0a16_12 : decode cJ7_fill_d0a16 12 = .ok (.aload_n 0, 1) := zo_42 zh_cJ7_fill_d0a16_0 12 rfl
theorem dJ7_fill_d0a16_13 : decode cJ7_fill_d0a16 13 = .ok (.iload_n 3, 1) := zo_29 zh_cJ7_fill_d0a16_0 13 rfl
theorem zo_31 {c : ByteArray} {s : Nat} {K : List Nat} (h : zck K (zdu s c.data.toList) = true) (k : Nat) (hk : zt1 K k 31 = true) : decode c (s + k) = .ok (.lload_n 1, 1) := zde ((zbd (zu1 (zh1 h hk))).trans rfl)
theorem dJ7_fill_d0a16_14 : decode cJ7_fill_d0a16 14 = .ok (.lload_n 1, 1) := zo_31 zh_cJ7_fill_d0a16_0 14 rfl
theorem dJ7_fill_d0a16_15 : decode cJ7_fill_d0a16 15 = .ok (.lastore, 1) := zo_80 zh_cJ7_fill_d0a16_0 15 rfl
theorem dJ7_fill_d0a16_16 : decode cJ7_fill_d0a16 16 = .ok (.iinc 3 1, 3) := zo_p132 zh_cJ7_fill_d0a16_0 16 1 rfl rfl
theorem dJ7_fill_d0a16_19 : decode cJ7_fill_d0a16 19 = .ok (.goto (-13), 3) := zo_n167 zh_cJ7_fill_d0a16_0 19 12 rfl rfl
theorem zh_cJ7_fill_d0a16_1 : zck [255, 243, 177] (zdu 20 cJ7_fill_d0a16.data.toList) = true := by decide +kernel
theorem dJ7_fill_d0a16_22 : decode cJ7_fill_d0a16 22 = .ok (.return_, 1) := zo_177 zh_cJ7_fill_d0a16_1 2 rfl
abbrev z_J7_fill_d0a16 : List Cond := .code yJ7_fill_d0a16 cJ7_fill_d0a16 5 none :: zW
abbrev wl_J7_fill_d0a16 (ad : Nat → Nat) (cs : Nat → ClassId) (h_arJ_a : Nat) (arJ_a : Nat → Int64) (arJ_a_n : Nat) : va_W := [(h_arJ_a, .inl (cs 1, arJ_a_n, .inr (.inl arJ_a)))]
def Q_J7_fill_d0a16 (D : va_G) (cs : Nat → ClassId) (ad : Nat → Nat) (h_arJ_a : Nat) (arJ_a_n : Nat) (A : Nat → Prop) (R : (Nat → Int64)) : Array Value → State → Outcome → State → Prop :=
  va_Qv (fun u : (Nat → Int64) => u = R) (fun (u : (Nat → Int64)) (t : State) => va_P D classes (wl_J7_fill_d0a16 ad cs h_arJ_a u arJ_a_n) t.heap ∧ va_D A (wl_J7_fill_d0a16 ad cs h_arJ_a u arJ_a_n)) A
abbrev rm_J7_fill_d0a16 : Room := { frames := 0, cells := 0, slots := 0, locals := 0 }
def B_J7_fill_d0a16_6   (g6 : Int64 → Int32 → Int32 → (Nat → Int64) → (Option ((Nat → Int64)))) (arJ_a_n : Nat) (x1 : Int64) (x3 : Int32) (x4 : Int32) (arJ_a : Nat → Int64) : Option ((Nat → Int64)) :=
  (if x4 ≤ x3 then (some arJ_a) else (if (x3 < 0 ∨ arJ_a_n ≤ x3.toNatClampNeg) then none else (zk_let (vp_updL arJ_a x3.toNatClampNeg x1) (fun f_4 => (zk_let (x3 + (1 : Int32)) (fun v_5 => (g6 x1 v_5 x4 f_4)))))))
def B_J7_fill_d0a16_0   (g6 : Int64 → Int32 → Int32 → (Nat → Int64) → (Option ((Nat → Int64)))) (arJ_a_n : Nat) (x1 : Int64) (arJ_a : Nat → Int64) : Option ((Nat → Int64)) :=
  (zk_let (Int32.ofNat arJ_a_n) (fun v_1 => (g6 x1 (0 : Int32) v_1 arJ_a)))
def G_J7_fill_d0a16   (arJ_a_n : Nat) (n : Nat) : (Int64 → Int32 → Int32 → (Nat → Int64) → (Option ((Nat → Int64)))) :=
  Nat.rec (motive := fun _ => (Int64 → Int32 → Int32 → (Nat → Int64) → (Option ((Nat → Int64))))) ((fun _ _ _ _ => none)) (fun _ ih => (B_J7_fill_d0a16_6   ih arJ_a_n)) n
def f_J7_fill_d0a16   (n : Nat) (x1 : Int64) (arJ_a : Nat → Int64) (arJ_a_n : Nat) : Option ((Nat → Int64)) := B_J7_fill_d0a16_0   ((G_J7_fill_d0a16   arJ_a_n n)) arJ_a_n x1 arJ_a
set_option maxHeartbeats 4000000 in
set_option maxRecDepth 100000 in
theorem L_J7_fill_d0a16_6 {p : Program} {l : Launch} {e : Env} {s : State} {m : MethodId} {args : Array Value} {below : List Frame} {meth : Method} {c : Code} {A : Nat → Prop} {D : va_G} {cs : Nat → ClassId} {ad : Nat → Nat} {h_arJ_a : Nat} {arJ_a_n : Nat} {R : (Nat → Int64)} {g6 : Int64 → Int32 → Int32 → (Nat → Int64) → (Option ((Nat → Int64)))} (C0 : zC p s m args meth c cJ7_fill_d0a16 5 none RJ7 zW) (hK : va_K D classes (zT cs) s) (hA : ∀ q : Nat, s.heap.size ≤ q → A q) (ih6 : ∀ (x1 : Int64) (x3 : Int32) (x4 : Int32) (arJ_a : Nat → Int64) (h : g6 x1 x3 x4 arJ_a = some R) (H : Heap) (locs : List Loc) (ls : Array Slot) (hP : va_P D classes (wl_J7_fill_d0a16 ad cs h_arJ_a arJ_a arJ_a_n) H) (hD : va_D A (wl_J7_fill_d0a16 ad cs h_arJ_a arJ_a arJ_a_n)) (hS : va_S A s.heap H locs) (hl : lv_has ls 5 [(0, .ref h_arJ_a), (1, .long x1), (3, .int x3), (4, .int x4)]), W p l e rm_J7_fill_d0a16 s m args below meth c H locs 0 0 (MQ below (Q_J7_fill_d0a16 D cs ad h_arJ_a arJ_a_n A R) args s 0 0 A) (F0 m 6 ls [])) (x1 : Int64) (x3 : Int32) (x4 : Int32) (arJ_a : Nat → Int64) (h : B_J7_fill_d0a16_6 g6 arJ_a_n x1 x3 x4 arJ_a = some R) (H : Heap) (locs : List Loc) (ls : Array Slot) (hP : va_P D classes (wl_J7_fill_d0a16 ad cs h_arJ_a arJ_a arJ_a_n) H) (hD : va_D A (wl_J7_fill_d0a16 ad cs h_arJ_a arJ_a arJ_a_n)) (hS : va_S A s.heap H locs) (hl : lv_has ls 5 [(0, .ref h_arJ_a), (1, .long x1), (3, .int x3), (4, .int x4)]) : W p l e rm_J7_fill_d0a16 s m args below meth c H locs 0 0 (MQ below (Q_J7_fill_d0a16 D cs ad h_arJ_a arJ_a_n A R) args s 0 0 A) (F0 m 6 ls []) := by
  obtain ⟨hx, hb, hr, hml, hown, ht, hlocks⟩ := id C0
  refine lv_iload_n hx hb dJ7_fill_d0a16_6 rfl (lv_at hl 2 rfl) ?_
  refine lv_iload hx hb dJ7_fill_d0a16_7 (lv_at hl 3 rfl) ?_
  refine lv_icmp_ge (tgt := 22) hx hb dJ7_fill_d0a16_9 (by decide) (fun c_2 => ?_) (fun c_2 => ?_)
  · have h := zk_t c_2 h
    exact W.vret hx hb hr (fun t ht2 hW => ⟨⟨arJ_a, rfl, Option.some.inj h, by rw [ht2]; exact hP, hD⟩, hS.F ht2⟩) hS.2.2 dJ7_fill_d0a16_22 hlocks
  · have h := zk_f c_2 h
    refine lv_aload_n hx hb dJ7_fill_d0a16_12 rfl (lv_at hl 0 rfl) ?_
    refine lv_iload_n hx hb dJ7_fill_d0a16_13 rfl (lv_at hl 2 rfl) ?_
    refine lv_lload_n hx hb dJ7_fill_d0a16_14 rfl (lv_at hl 1 rfl) ?_
    obtain ⟨g_3, h⟩ := zk_gd h
    obtain ⟨f_4, ef_4, h⟩ := zk_lt h
    refine va_last hx hb hK hP hD hS 0 1 rfl rfl g_3 dJ7_fill_d0a16_15 (fun H locs hP hD hS => ?_)
    have hP : va_P D classes (wl_J7_fill_d0a16 ad cs h_arJ_a f_4 arJ_a_n) H := by rw [ef_4]; exact hP
    have hD : va_D A (wl_J7_fill_d0a16 ad cs h_arJ_a f_4 arJ_a_n) := by rw [ef_4]; exact hD
    obtain ⟨v_5, ev_5, h⟩ := zk_lt h
    refine lv_iinc (v := v_5) (lv' := [(3, .int v_5), (0, .ref h_arJ_a), (1, .long x1), (4, .int x4)]) hx hb dJ7_fill_d0a16_16 hl (k := 2) rfl (by rw [ev_5]; rfl) (by decide) rfl (fun ls hl => ?_)
    refine lv_goto (tgt := 6) hx hb dJ7_fill_d0a16_19 (by decide) ?_
    exact ih6 x1 v_5 x4 f_4 h H locs ls hP hD hS (lv_sub hl [1, 2, 0, 3] rfl)
set_option maxHeartbeats 4000000 in
set_option maxRecDepth 100000 in
theorem L_J7_fill_d0a16_0 {p : Program} {l : Launch} {e : Env} {s : State} {m : MethodId} {args : Array Value} {below : List Frame} {meth : Method} {c : Code} {A : Nat → Prop} {D : va_G} {cs : Nat → ClassId} {ad : Nat → Nat} {h_arJ_a : Nat} {arJ_a_n : Nat} {R : (Nat → Int64)} {g6 : Int64 → Int32 → Int32 → (Nat → Int64) → (Option ((Nat → Int64)))} (C0 : zC p s m args meth c cJ7_fill_d0a16 5 none RJ7 zW) (hK : va_K D classes (zT cs) s) (hA : ∀ q : Nat, s.heap.size ≤ q → A q) (ih6 : ∀ (x1 : Int64) (x3 : Int32) (x4 : Int32) (arJ_a : Nat → Int64) (h : g6 x1 x3 x4 arJ_a = some R) (H : Heap) (locs : List Loc) (ls : Array Slot) (hP : va_P D classes (wl_J7_fill_d0a16 ad cs h_arJ_a arJ_a arJ_a_n) H) (hD : va_D A (wl_J7_fill_d0a16 ad cs h_arJ_a arJ_a arJ_a_n)) (hS : va_S A s.heap H locs) (hl : lv_has ls 5 [(0, .ref h_arJ_a), (1, .long x1), (3, .int x3), (4, .int x4)]), W p l e rm_J7_fill_d0a16 s m args below meth c H locs 0 0 (MQ below (Q_J7_fill_d0a16 D cs ad h_arJ_a arJ_a_n A R) args s 0 0 A) (F0 m 6 ls [])) (x1 : Int64) (arJ_a : Nat → Int64) (h : B_J7_fill_d0a16_0 g6 arJ_a_n x1 arJ_a = some R) (H : Heap) (locs : List Loc) (ls : Array Slot) (hP : va_P D classes (wl_J7_fill_d0a16 ad cs h_arJ_a arJ_a arJ_a_n) H) (hD : va_D A (wl_J7_fill_d0a16 ad cs h_arJ_a arJ_a arJ_a_n)) (hS : va_S A s.heap H locs) (hl : lv_has ls 5 [(0, .ref h_arJ_a), (1, .long x1)]) : W p l e rm_J7_fill_d0a16 s m args below meth c H locs 0 0 (MQ below (Q_J7_fill_d0a16 D cs ad h_arJ_a arJ_a_n A R) args s 0 0 A) (F0 m 0 ls []) := by
  obtain ⟨hx, hb, hr, hml, hown, ht, hlocks⟩ := id C0
  refine lv_iconst (v := (0 : Int32)) hx hb dJ7_fill_d0a16_0 (by decide) ?_
  refine lv_istore_n (lv' := [(3, .int (0 : Int32)), (0, .ref h_arJ_a), (1, .long x1)]) hx hb dJ7_fill_d0a16_1 rfl hl (by decide) rfl (fun ls hl => ?_)
  refine lv_aload_n hx hb dJ7_fill_d0a16_2 rfl (lv_at hl 1 rfl) ?_
  refine va_alen (v := Int32.ofNat arJ_a_n) hx hb hK hP 0 1 rfl rfl rfl dJ7_fill_d0a16_3 ?_
  obtain ⟨v_1, ev_1, h⟩ := zk_lt h
  refine W.eq (g2 := F0 m 4 ls [.int v_1]) (by rw [ev_1]) ?_
  refine lv_istore (lv' := [(4, .int v_1), (3, .int (0 : Int32)), (0, .ref h_arJ_a), (1, .long x1)]) hx hb dJ7_fill_d0a16_4 hl (by decide) rfl (fun ls hl => ?_)
  exact ih6 x1 (0 : Int32) v_1 arJ_a h H locs ls hP hD hS (lv_sub hl [2, 3, 1, 0] rfl)
theorem LG_J7_fill_d0a16 {p : Program} {l : Launch} {e : Env} {s : State} {m : MethodId} {args : Array Value} {below : List Frame} {meth : Method} {c : Code} {A : Nat → Prop} {D : va_G} {cs : Nat → ClassId} {ad : Nat → Nat} {h_arJ_a : Nat} {arJ_a_n : Nat} {R : (Nat → Int64)} (C0 : zC p s m args meth c cJ7_fill_d0a16 5 none RJ7 zW) (hK : va_K D classes (zT cs) s) (hA : ∀ q : Nat, s.heap.size ≤ q → A q) : ∀ n : Nat, (∀ (x1 : Int64) (x3 : Int32) (x4 : Int32) (arJ_a : Nat → Int64) (h : (G_J7_fill_d0a16   arJ_a_n n) x1 x3 x4 arJ_a = some R) (H : Heap) (locs : List Loc) (ls : Array Slot) (hP : va_P D classes (wl_J7_fill_d0a16 ad cs h_arJ_a arJ_a arJ_a_n) H) (hD : va_D A (wl_J7_fill_d0a16 ad cs h_arJ_a arJ_a arJ_a_n)) (hS : va_S A s.heap H locs) (hl : lv_has ls 5 [(0, .ref h_arJ_a), (1, .long x1), (3, .int x3), (4, .int x4)]), W p l e rm_J7_fill_d0a16 s m args below meth c H locs 0 0 (MQ below (Q_J7_fill_d0a16 D cs ad h_arJ_a arJ_a_n A R) args s 0 0 A) (F0 m 6 ls [])) := by
  intro n
  induction n with
  | zero =>
    refine ?_ <;> (intros; rename_i h _ _ _ _ _ _ _; cases h)
  | succ n ih =>
    exact L_J7_fill_d0a16_6 C0 hK hA  ih
set_option maxHeartbeats 4000000 in
set_option maxRecDepth 100000 in
theorem c_J7_fill_d0a16 (l : Launch) (D : va_G) (cs : Nat → ClassId) (ad : Nat → Nat) (h_arJ_a : Nat) (sz : Nat) (n : Nat) (x1 : Int64) (arJ_a : Nat → Int64) (arJ_a_n : Nat) (R : (Nat → Int64)) (h : f_J7_fill_d0a16   n x1 arJ_a arJ_a_n = some R) : Met l yJ7_fill_d0a16 (z_J7_fill_d0a16) rm_J7_fill_d0a16 (va_Pc [.ref h_arJ_a, .long x1] (zPre D cs (wl_J7_fill_d0a16 ad cs h_arJ_a arJ_a arJ_a_n) sz)) (Q_J7_fill_d0a16 D cs ad h_arJ_a arJ_a_n (va_A (wl_J7_fill_d0a16 ad cs h_arJ_a arJ_a arJ_a_n) sz) R) 0 0 (va_A (wl_J7_fill_d0a16 ad cs h_arJ_a arJ_a arJ_a_n) sz) := by
  refine Met.ofW (cc := cJ7_fill_d0a16) (maxL := 5) (ret := none) (by decide) rfl ?_
  intro p e s m args below meth c s₁ B hml hv
  obtain ⟨rfl, hsz, hP, hK, hD0⟩ := hv
  subst hsz
  have hD := hD0.self (sz := s.heap.size)
  have C0 : zC p s m _ meth c cJ7_fill_d0a16 5 none RJ7 zW := ⟨B.exec, B.bytes, B.returns, hml, findClass_of_methodNamed B.named, fun w hw => atoms_spec (ws := z_J7_fill_d0a16) B.pre w (List.mem_cons_of_mem _ hw), B.notSynchronized⟩
  have hA : ∀ q : Nat, s.heap.size ≤ q → va_A (wl_J7_fill_d0a16 ad cs h_arJ_a arJ_a arJ_a_n) s.heap.size q := fun q h => Or.inr h
  have hl := lv_entry ([.ref h_arJ_a, .long x1]) (n := 5) (Nat.le_of_ble_eq_true rfl)
  rw [lg_entry_eq]
  generalize (lg_sl ([.ref h_arJ_a, .long x1]) ++ List.replicate (5 - (lg_sl ([.ref h_arJ_a, .long x1])).length) Slot.unset).toArray = ls at hl ⊢
  exact L_J7_fill_d0a16_0 C0 hK hA  ((LG_J7_fill_d0a16 C0 hK hA  n)) x1 arJ_a h s.heap [] ls hP hD va_S.rf hl
theorem zh_cJ7_fill_53178_0 : zck [3, 61, 42, 190, 62, 28, 29, 162, 0, 13, 42, 28, 27, 79, 132, 2, 1, 167, 255, 244, 177] (zdu 0 cJ7_fill_53178.data.toList) = true := by decide +kernel
theorem dJ7_fill_53178_0 : decode cJ7_fill_53178 0 = .ok (.iconst 0, 1) := zo_3 zh_cJ7_fill_53178_0 0 rfl
theorem dJ7_fill_53178_1 : decode cJ7_fill_53178 1 = .ok (.istore_n 2, 1) := zo_61 zh_cJ7_fill_53178_0 1 rfl
theorem dJ7_fill_53178_2 : decode cJ7_fill_53178 2 = .ok (.aload_n 0, 1) := zo_42 zh_cJ7_fill_53178_0 2 rfl
theorem dJ7_fill_53178_3 : decode cJ7_fill_53178 3 = .ok (.arraylength, 1) := zo_190 zh_cJ7_fill_53178_0 3 rfl
theorem dJ7_fill_53178_4 : decode cJ7_fill_53178 4 = .ok (.istore_n 3, 1) := zo_62 zh_cJ7_fill_53178_0 4 rfl
theorem dJ7_fill_53178_5 : decode cJ7_fill_53178 5 = .ok (.iload_n 2, 1) := zo_28 zh_cJ7_fill_53178_0 5 rfl
theorem dJ7_fill_53178_6 : decode cJ7_fill_53178 6 = .ok (.iload_n 3, 1) := zo_29 zh_cJ7_fill_53178_0 6 rfl
theorem dJ7_fill_53178_7 : decode cJ7_fill_53178 7 = .ok (.if_icmp .ge 13, 3) := zo_p162 zh_cJ7_fill_53178_0 7 13 rfl rfl
theorem dJ7_fill_53178_10 : decode cJ7_fill_53178 10 = .ok (.aload_n 0, 1) := zo_42 zh_cJ7_fill_53178_0 10 rfl
theorem dJ7_fill_53178_11 : decode cJ7_fill_53178 11 = .ok (.iload_n 2, 1) := zo_28 zh_cJ7_fill_53178_0 11 rfl
theorem dJ7_fill_53178_12 : decode cJ7_fill_53178 12 = .ok (.iload_n 1, 1) := zo_27 zh_cJ7_fill_53178_0 12 rfl
theorem dJ7_fill_53178_13 : decode cJ7_fill_53178 13 = .ok (.iastore, 1) := zo_79 zh_cJ7_fill_53178_0 13 rfl
theorem dJ7_fill_53178_14 : decode cJ7_fill_53178 14 = .ok (.iinc 2 1, 3) := zo_p132 zh_cJ7_fill_53178_0 14 1 rfl rfl
theorem dJ7_fill_53178_17 : decode cJ7_fill_53178 17 = .ok (.goto (-12), 3) := zo_n167 zh_cJ7_fill_53178_0 17 11 rfl rfl
theorem zh_cJ7_fill_53178_1 : zck [177] (zdu 20 cJ7_fill_53178.data.toList) = true := by decide +kernel
theorem dJ7_fill_53178_20 : decode cJ7_fill_53178 20 = .ok (.return_, 1) := zo_177 zh_cJ7_fill_53178_1 0 rfl
abbrev z_J7_fill_53178 : List Cond := .code yJ7_fill_53178 cJ7_fill_53178 4 none :: zW
abbrev wl_J7_fill_53178 (ad : Nat → Nat) (cs : Nat → ClassId) (h_arI_a : Nat) (arI_a : Nat → Int32) (arI_a_n : Nat) : va_W := [(h_arI_a, .inl (cs 0, arI_a_n, .inl arI_a))]
def Q_J7_fill_53178 (D : va_G) (cs : Nat → ClassId) (ad : Nat → Nat) (h_arI_a : Nat) (arI_a_n : Nat) (A : Nat → Prop) (R : (Nat → Int32)) : Array Value → State → Outcome → State → Prop :=
  va_Qv (fun u : (Nat → Int32) => u = R) (fun (u : (Nat → Int32)) (t : State) => va_P D classes (wl_J7_fill_53178 ad cs h_arI_a u arI_a_n) t.heap ∧ va_D A (wl_J7_fill_53178 ad cs h_arI_a u arI_a_n)) A
abbrev rm_J7_fill_53178 : Room := { frames := 0, cells := 0, slots := 0, locals := 0 }
def B_J7_fill_53178_5   (g5 : Int32 → Int32 → Int32 → (Nat → Int32) → (Option ((Nat → Int32)))) (arI_a_n : Nat) (x1 : Int32) (x2 : Int32) (x3 : Int32) (arI_a : Nat → Int32) : Option ((Nat → Int32)) :=
  (if x3 ≤ x2 then (some arI_a) else (if (x2 < 0 ∨ arI_a_n ≤ x2.toNatClampNeg) then none else (zk_let (upd arI_a x2.toNatClampNeg x1) (fun f_4 => (zk_let (x2 + (1 : Int32)) (fun v_5 => (g5 x1 v_5 x3 f_4)))))))
def B_J7_fill_53178_0   (g5 : Int32 → Int32 → Int32 → (Nat → Int32) → (Option ((Nat → Int32)))) (arI_a_n : Nat) (x1 : Int32) (arI_a : Nat → Int32) : Option ((Nat → Int32)) :=
  (zk_let (Int32.ofNat arI_a_n) (fun v_1 => (g5 x1 (0 : Int32) v_1 arI_a)))
def G_J7_fill_53178   (arI_a_n : Nat) (n : Nat) : (Int32 → Int32 → Int32 → (Nat → Int32) → (Option ((Nat → Int32)))) :=
  Nat.rec (motive := fun _ => (Int32 → Int32 → Int32 → (Nat → Int32) → (Option ((Nat → Int32))))) ((fun _ _ _ _ => none)) (fun _ ih => (B_J7_fill_53178_5   ih arI_a_n)) n
def f_J7_fill_53178   (n : Nat) (x1 : Int32) (arI_a : Nat → Int32) (arI_a_n : Nat) : Option ((Nat → Int32)) := B_J7_fill_53178_0   ((G_J7_fill_53178   arI_a_n n)) arI_a_n x1 arI_a
set_option maxHeartbeats 4000000 in
set_option maxRecDepth 100000 in
theorem L_J7_fill_53178_5 {p : Program} {l : Launch} {e : Env} {s : State} {m : MethodId} {args : Array Value} {below : List Frame} {meth : Method} {c : Code} {A : Nat → Prop} {D : va_G} {cs : Nat → ClassId} {ad : Nat → Nat} {h_arI_a : Nat} {arI_a_n : Nat} {R : (Nat → Int32)} {g5 : Int32 → Int32 → Int32 → (Nat → Int32) → (Option ((Nat → Int32)))} (C0 : zC p s m args meth c cJ7_fill_53178 4 none RJ7 zW) (hK : va_K D classes (zT cs) s) (hA : ∀ q : Nat, s.heap.size ≤ q → A q) (ih5 : ∀ (x1 : Int32) (x2 : Int32) (x3 : Int32) (arI_a : Nat → Int32) (h : g5 x1 x2 x3 arI_a = some R) (H : Heap) (locs : List Loc) (ls : Array Slot) (hP : va_P D classes (wl_J7_fill_53178 ad cs h_arI_a arI_a arI_a_n) H) (hD : va_D A (wl_J7_fill_53178 ad cs h_arI_a arI_a arI_a_n)) (hS : va_S A s.heap H locs) (hl : lv_has ls 4 [(0, .ref h_arI_a), (1, .int x1), (2, .int x2), (3, .int x3)]), W p l e rm_J7_fill_53178 s m args below meth c H locs 0 0 (MQ below (Q_J7_fill_53178 D cs ad h_arI_a arI_a_n A R) args s 0 0 A) (F0 m 5 ls [])) (x1 : Int32) (x2 : Int32) (x3 : Int32) (arI_a : Nat → Int32) (h : B_J7_fill_53178_5 g5 arI_a_n x1 x2 x3 arI_a = some R) (H : Heap) (locs : List Loc) (ls : Array Slot) (hP : va_P D classes (wl_J7_fill_53178 ad cs h_arI_a arI_a arI_a_n) H) (hD : va_D A (wl_J7_fill_53178 ad cs h_arI_a arI_a arI_a_n)) (hS : va_S A s.heap H locs) (hl : lv_has ls 4 [(0, .ref h_arI_a), (1, .int x1), (2, .int x2), (3, .int x3)]) : W p l e rm_J7_fill_53178 s m args below meth c H locs 0 0 (MQ below (Q_J7_fill_53178 D cs ad h_arI_a arI_a_n A R) args s 0 0 A) (F0 m 5 ls []) := by
  obtain ⟨hx, hb, hr, hml, hown, ht, hlocks⟩ := id C0
  refine lv_iload_n hx hb dJ7_fill_53178_5 rfl (lv_at hl 2 rfl) ?_
  refine lv_iload_n hx hb dJ7_fill_53178_6 rfl (lv_at hl 3 rfl) ?_
  refine lv_icmp_ge (tgt := 20) hx hb dJ7_fill_53178_7 (by decide) (fun c_2 => ?_) (fun c_2 => ?_)
  · have h := zk_t c_2 h
    exact W.vret hx hb hr (fun t ht2 hW => ⟨⟨arI_a, rfl, Option.some.inj h, by rw [ht2]; exact hP, hD⟩, hS.F ht2⟩) hS.2.2 dJ7_fill_53178_20 hlocks
  · have h := zk_f c_2 h
    refine lv_aload_n hx hb dJ7_fill_53178_10 rfl (lv_at hl 0 rfl) ?_
    refine lv_iload_n hx hb dJ7_fill_53178_11 rfl (lv_at hl 2 rfl) ?_
    refine lv_iload_n hx hb dJ7_fill_53178_12 rfl (lv_at hl 1 rfl) ?_
    obtain ⟨g_3, h⟩ := zk_gd h
    obtain ⟨f_4, ef_4, h⟩ := zk_lt h
    refine va_iast hx hb hK hP hD hS 0 0 rfl rfl g_3 dJ7_fill_53178_13 (fun H locs hP hD hS => ?_)
    have hP : va_P D classes (wl_J7_fill_53178 ad cs h_arI_a f_4 arI_a_n) H := by rw [ef_4]; exact hP
    have hD : va_D A (wl_J7_fill_53178 ad cs h_arI_a f_4 arI_a_n) := by rw [ef_4]; exact hD
    obtain ⟨v_5, ev_5, h⟩ := zk_lt h
    refine lv_iinc (v := v_5) (lv' := [(2, .int v_5), (0, .ref h_arI_a), (1, .int x1), (3, .int x3)]) hx hb dJ7_fill_53178_14 hl (k := 2) rfl (by rw [ev_5]; rfl) (by decide) rfl (fun ls hl => ?_)
    refine lv_goto (tgt := 5) hx hb dJ7_fill_53178_17 (by decide) ?_
    exact ih5 x1 v_5 x3 f_4 h H locs ls hP hD hS (lv_sub hl [1, 2, 0, 3] rfl)
set_option maxHeartbeats 4000000 in
set_option maxRecDepth 100000 in
theorem L_J7_fill_53178_0 {p : Program} {l : Launch} {e : Env} {s : State} {m : MethodId} {args : Array Value} {below : List Frame} {meth : Method} {c : Code} {A : Nat → Prop} {D : va_G} {cs : Nat → ClassId} {ad : Nat → Nat} {h_arI_a : Nat} {arI_a_n : Nat} {R : (Nat → Int32)} {g5 : Int32 → Int32 → Int32 → (Nat → Int32) → (Option ((Nat → Int32)))} (C0 : zC p s m args meth c cJ7_fill_53178 4 none RJ7 zW) (hK : va_K D classes (zT cs) s) (hA : ∀ q : Nat, s.heap.size ≤ q → A q) (ih5 : ∀ (x1 : Int32) (x2 : Int32) (x3 : Int32) (arI_a : Nat → Int32) (h : g5 x1 x2 x3 arI_a = some R) (H : Heap) (locs : List Loc) (ls : Array Slot) (hP : va_P D classes (wl_J7_fill_53178 ad cs h_arI_a arI_a arI_a_n) H) (hD : va_D A (wl_J7_fill_53178 ad cs h_arI_a arI_a arI_a_n)) (hS : va_S A s.heap H locs) (hl : lv_has ls 4 [(0, .ref h_arI_a), (1, .int x1), (2, .int x2), (3, .int x3)]), W p l e rm_J7_fill_53178 s m args below meth c H locs 0 0 (MQ below (Q_J7_fill_53178 D cs ad h_arI_a arI_a_n A R) args s 0 0 A) (F0 m 5 ls [])) (x1 : Int32) (arI_a : Nat → Int32) (h : B_J7_fill_53178_0 g5 arI_a_n x1 arI_a = some R) (H : Heap) (locs : List Loc) (ls : Array Slot) (hP : va_P D classes (wl_J7_fill_53178 ad cs h_arI_a arI_a arI_a_n) H) (hD : va_D A (wl_J7_fill_53178 ad cs h_arI_a arI_a arI_a_n)) (hS : va_S A s.heap H locs) (hl : lv_has ls 4 [(0, .ref h_arI_a), (1, .int x1)]) : W p l e rm_J7_fill_53178 s m args below meth c H locs 0 0 (MQ below (Q_J7_fill_53178 D cs ad h_arI_a arI_a_n A R) args s 0 0 A) (F0 m 0 ls []) := by
  obtain ⟨hx, hb, hr, hml, hown, ht, hlocks⟩ := id C0
  refine lv_iconst (v := (0 : Int32)) hx hb dJ7_fill_53178_0 (by decide) ?_
  refine lv_istore_n (lv' := [(2, .int (0 : Int32)), (0, .ref h_arI_a), (1, .int x1)]) hx hb dJ7_fill_53178_1 rfl hl (by decide) rfl (fun ls hl => ?_)
  refine lv_aload_n hx hb dJ7_fill_53178_2 rfl (lv_at hl 1 rfl) ?_
  refine va_alen (v := Int32.ofNat arI_a_n) hx hb hK hP 0 0 rfl rfl rfl dJ7_fill_53178_3 ?_
  obtain ⟨v_1, ev_1, h⟩ := zk_lt h
  refine W.eq (g2 := F0 m 4 ls [.int v_1]) (by rw [ev_1]) ?_
  refine lv_istore_n (lv' := [(3, .int v_1), (2, .int (0 : Int32)), (0, .ref h_arI_a), (1, .int x1)]) hx hb dJ7_fill_53178_4 rfl hl (by decide) rfl (fun ls hl => ?_)
  exact ih5 x1 (0 : Int32) v_1 arI_a h H locs ls hP hD hS (lv_sub hl [2, 3, 1, 0] rfl)
theorem LG_J7_fill_53178 {p : Program} {l : Launch} {e : Env} {s : State} {m : MethodId} {args : Array Value} {below : List Frame} {meth : Method} {c : Code} {A : Nat → Prop} {D : va_G} {cs : Nat → ClassId} {ad : Nat → Nat} {h_arI_a : Nat} {arI_a_n : Nat} {R : (Nat → Int32)} (C0 : zC p s m args meth c cJ7_fill_53178 4 none RJ7 zW) (hK : va_K D classes (zT cs) s) (hA : ∀ q : Nat, s.heap.size ≤ q → A q) : ∀ n : Nat, (∀ (x1 : Int32) (x2 : Int32) (x3 : Int32) (arI_a : Nat → Int32) (h : (G_J7_fill_53178   arI_a_n n) x1 x2 x3 arI_a = some R) (H : Heap) (locs : List Loc) (ls : Array Slot) (hP : va_P D classes (wl_J7_fill_53178 ad cs h_arI_a arI_a arI_a_n) H) (hD : va_D A (wl_J7_fill_53178 ad cs h_arI_a arI_a arI_a_n)) (hS : va_S A s.heap H locs) (hl : lv_has ls 4 [(0, .ref h_arI_a), (1, .int x1), (2, .int x2), (3, .int x3)]), W p l e rm_J7_fill_53178 s m args below meth c H locs 0 0 (MQ below (Q_J7_fill_53178 D cs ad h_arI_a arI_a_n A R) args s 0 0 A) (F0 m 5 ls [])) := by
  intro n
  induction n with
  | zero =>
    refine ?_ <;> (intros; rename_i h _ _ _ _ _ _ _; cases h)
  | succ n ih =>
    exact L_J7_fill_53178_5 C0 hK hA  ih
set_option maxHeartbeats 4000000 in
set_option maxRecDepth 100000 in
theorem c_J7_fill_53178 (l : Launch) (D : va_G) (cs : Nat → ClassId) (ad : Nat → Nat) (h_arI_a : Nat) (sz : Nat) (n : Nat) (x1 : Int32) (arI_a : Nat → Int32) (arI_a_n : Nat) (R : (Nat → Int32)) (h : f_J7_fill_53178   n x1 arI_a arI_a_n = some R) : Met l yJ7_fill_53178 (z_J7_fill_53178) rm_J7_fill_53178 (va_Pc [.ref h_arI_a, .int x1] (zPre D cs (wl_J7_fill_53178 ad cs h_arI_a arI_a arI_a_n) sz)) (Q_J7_fill_53178 D cs ad h_arI_a arI_a_n (va_A (wl_J7_fill_53178 ad cs h_arI_a arI_a arI_a_n) sz) R) 0 0 (va_A (wl_J7_fill_53178 ad cs h_arI_a arI_a arI_a_n) sz) := by
  refine Met.ofW (cc := cJ7_fill_53178) (maxL := 4) (ret := none) (by decide) rfl ?_
  intro p e s m args below meth c s₁ B hml hv
  obtain ⟨rfl, hsz, hP, hK, hD0⟩ := hv
  subst hsz
  have hD := hD0.self (sz := s.heap.size)
  have C0 : zC p s m _ meth c cJ7_fill_53178 4 none RJ7 zW := ⟨B.exec, B.bytes, B.returns, hml, findClass_of_methodNamed B.named, fun w hw => atoms_spec (ws := z_J7_fill_53178) B.pre w (List.mem_cons_of_mem _ hw), B.notSynchronized⟩
  have hA : ∀ q : Nat, s.heap.size ≤ q → va_A (wl_J7_fill_53178 ad cs h_arI_a arI_a arI_a_n) s.heap.size q := fun q h => Or.inr h
  have hl := lv_entry ([.ref h_arI_a, .int x1]) (n := 4) (Nat.le_of_ble_eq_true rfl)
  rw [lg_entry_eq]
  generalize (lg_sl ([.ref h_arI_a, .int x1]) ++ List.replicate (4 - (lg_sl ([.ref h_arI_a, .int x1])).length) Slot.unset).toArray = ls at hl ⊢
  exact L_J7_fill_53178_0 C0 hK hA  ((LG_J7_fill_53178 C0 hK hA  n)) x1 arI_a h s.heap [] ls hP hD va_S.rf hl
theorem kw_1059 : Cond.constantLong RJ13 314 (6148914691236517205 : Int64) ∈ zW := zwC (i := 25) zc_5 rfl rfl
theorem kw_1060 : Cond.constantLong RJ13 316 (3689348814741910323 : Int64) ∈ zW := zwC (i := 26) zc_5 rfl rfl
theorem kw_1061 : Cond.constantLong RJ13 318 (1085102592571150095 : Int64) ∈ zW := zwC (i := 27) zc_5 rfl rfl
theorem zo_30 {c : ByteArray} {s : Nat} {K : List Nat} (h : zck K (zdu s c.data.toList) = true) (k : Nat) (hk : zt1 K k 30 = true) : decode c (s + k) = .ok (.lload_n 0, 1) := zde ((zbd (zu1 (zh1 h hk))).trans rfl)
theorem zh_cJ13_bitCount_95d88_0 : zck [30, 30, 4, 125, 20, 1, 58, 127, 101, 63, 30, 20, 1, 60, 127, 30, 5, 125, 20, 1, 60, 127] (zdu 0 cJ13_bitCount_95d88.data.toList) = true := by decide +kernel
theorem dJ13_bitCount_95d88_0 : decode cJ13_bitCount_95d88 0 = .ok (.lload_n 0, 1) := zo_30 zh_cJ13_bitCount_95d88_0 0 rfl
theorem dJ13_bitCount_95d88_1 : decode cJ13_bitCount_95d88 1 = .ok (.lload_n 0, 1) := zo_30 zh_cJ13_bitCount_95d88_0 1 rfl
theorem dJ13_bitCount_95d88_2 : decode cJ13_bitCount_95d88 2 = .ok (.iconst 1, 1) := zo_4 zh_cJ13_bitCount_95d88_0 2 rfl
theorem zo_125 {c : ByteArray} {s : Nat} {K : List Nat} (h : zck K (zdu s c.data.toList) = true) (k : Nat) (hk : zt1 K k 125 = true) : decode c (s + k) = .ok (.lushr, 1) := zde ((zbd (zu1 (zh1 h hk))).trans rfl)
theorem dJ13_bitCount_95d88_3 : decode cJ13_bitCount_95d88 3 = .ok (.lushr, 1) := zo_125 zh_cJ13_bitCount_95d88_0 3 rfl
theorem dJ13_bitCount_95d88_4 : decode cJ13_bitCount_95d88 4 = .ok (.ldc2_w 314, 3) := zo_20 zh_cJ13_bitCount_95d88_0 4 rfl
theorem zo_127 {c : ByteArray} {s : Nat} {K : List Nat} (h : zck K (zdu s c.data.toList) = true) (k : Nat) (hk : zt1 K k 127 = true) : decode c (s + k) = .ok (.land, 1) := zde ((zbd (zu1 (zh1 h hk))).trans rfl)
theorem dJ13_bitCount_95d88_7 : decode cJ13_bitCount_95d88 7 = .ok (.land, 1) := zo_127 zh_cJ13_bitCount_95d88_0 7 rfl
theorem zo_101 {c : ByteArray} {s : Nat} {K : List Nat} (h : zck K (zdu s c.data.toList) = true) (k : Nat) (hk : zt1 K k 101 = true) : decode c (s + k) = .ok (.lsub, 1) := zde ((zbd (zu1 (zh1 h hk))).trans rfl)
theorem dJ13_bitCount_95d88_8 : decode cJ13_bitCount_95d88 8 = .ok (.lsub, 1) := zo_101 zh_cJ13_bitCount_95d88_0 8 rfl
theorem zo_63 {c : ByteArray} {s : Nat} {K : List Nat} (h : zck K (zdu s c.data.toList) = true) (k : Nat) (hk : zt1 K k 63 = true) : decode c (s + k) = .ok (.lstore_n 0, 1) := zde ((zbd (zu1 (zh1 h hk))).trans rfl)
theorem dJ13_bitCount_95d88_9 : decode cJ13_bitCount_95d88 9 = .ok (.lstore_n 0, 1) := zo_63 zh_cJ13_bitCount_95d88_0 9 rfl
theorem dJ13_bitCount_95d88_10 : decode cJ13_bitCount_95d88 10 = .ok (.lload_n 0, 1) := zo_30 zh_cJ13_bitCount_95d88_0 10 rfl
theorem dJ13_bitCount_95d88_11 : decode cJ13_bitCount_95d88 11 = .ok (.ldc2_w 316, 3) := zo_20 zh_cJ13_bitCount_95d88_0 11 rfl
theorem dJ13_bitCount_95d88_14 : decode cJ13_bitCount_95d88 14 = .ok (.land, 1) := zo_127 zh_cJ13_bitCount_95d88_0 14 rfl
theorem dJ13_bitCount_95d88_15 : decode cJ13_bitCount_95d88 15 = .ok (.lload_n 0, 1) := zo_30 zh_cJ13_bitCount_95d88_0 15 rfl
theorem dJ13_bitCount_95d88_16 : decode cJ13_bitCount_95d88 16 = .ok (.iconst 2, 1) := zo_5 zh_cJ13_bitCount_95d88_0 16 rfl
theorem dJ13_bitCount_95d88_17 : decode cJ13_bitCount_95d88 17 = .ok (.lushr, 1) := zo_125 zh_cJ13_bitCount_95d88_0 17 rfl
theorem dJ13_bitCount_95d88_18 : decode cJ13_bitCount_95d88 18 = .ok (.ldc2_w 316, 3) := zo_20 zh_cJ13_bitCount_95d88_0 18 rfl
theorem zh_cJ13_bitCount_95d88_1 : zck [60, 127, 97, 63, 30, 30, 7, 125, 97, 20, 1, 62, 127, 63, 30, 30, 16, 8, 125, 97, 63, 30] (zdu 20 cJ13_bitCount_95d88.data.toList) = true := by decide +kernel
theorem dJ13_bitCount_95d88_21 : decode cJ13_bitCount_95d88 21 = .ok (.land, 1) := zo_127 zh_cJ13_bitCount_95d88_1 1 rfl
theorem dJ13_bitCount_95d88_22 : decode cJ13_bitCount_95d88 22 = .ok (.ladd, 1) := zo_97 zh_cJ13_bitCount_95d88_1 2 rfl
theorem dJ13_bitCount_95d88_23 : decode cJ13_bitCount_95d88 23 = .ok (.lstore_n 0, 1) := zo_63 zh_cJ13_bitCount_95d88_1 3 rfl
theorem dJ13_bitCount_95d88_24 : decode cJ13_bitCount_95d88 24 = .ok (.lload_n 0, 1) := zo_30 zh_cJ13_bitCount_95d88_1 4 rfl
theorem dJ13_bitCount_95d88_25 : decode cJ13_bitCount_95d88 25 = .ok (.lload_n 0, 1) := zo_30 zh_cJ13_bitCount_95d88_1 5 rfl
theorem dJ13_bitCount_95d88_26 : decode cJ13_bitCount_95d88 26 = .ok (.iconst 4, 1) := zo_7 zh_cJ13_bitCount_95d88_1 6 rfl
theorem dJ13_bitCount_95d88_27 : decode cJ13_bitCount_95d88 27 = .ok (.lushr, 1) := zo_125 zh_cJ13_bitCount_95d88_1 7 rfl
theorem dJ13_bitCount_95d88_28 : decode cJ13_bitCount_95d88 28 = .ok (.ladd, 1) := zo_97 zh_cJ13_bitCount_95d88_1 8 rfl
theorem dJ13_bitCount_95d88_29 : decode cJ13_bitCount_95d88 29 = .ok (.ldc2_w 318, 3) := zo_20 zh_cJ13_bitCount_95d88_1 9 rfl
theorem dJ13_bitCount_95d88_32 : decode cJ13_bitCount_95d88 32 = .ok (.land, 1) := zo_127 zh_cJ13_bitCount_95d88_1 12 rfl
theorem dJ13_bitCount_95d88_33 : decode cJ13_bitCount_95d88 33 = .ok (.lstore_n 0, 1) := zo_63 zh_cJ13_bitCount_95d88_1 13 rfl
theorem dJ13_bitCount_95d88_34 : decode cJ13_bitCount_95d88 34 = .ok (.lload_n 0, 1) := zo_30 zh_cJ13_bitCount_95d88_1 14 rfl
theorem dJ13_bitCount_95d88_35 : decode cJ13_bitCount_95d88 35 = .ok (.lload_n 0, 1) := zo_30 zh_cJ13_bitCount_95d88_1 15 rfl
theorem dJ13_bitCount_95d88_36 : decode cJ13_bitCount_95d88 36 = .ok (.bipush 8, 2) := zo_p16 zh_cJ13_bitCount_95d88_1 16 8 rfl rfl
theorem dJ13_bitCount_95d88_38 : decode cJ13_bitCount_95d88 38 = .ok (.lushr, 1) := zo_125 zh_cJ13_bitCount_95d88_1 18 rfl
theorem dJ13_bitCount_95d88_39 : decode cJ13_bitCount_95d88 39 = .ok (.ladd, 1) := zo_97 zh_cJ13_bitCount_95d88_1 19 rfl
theorem zh_cJ13_bitCount_95d88_2 : zck [63, 30, 30, 16, 16, 125, 97, 63, 30, 30, 16, 32, 125, 97, 63, 30, 136, 16, 127, 126, 172] (zdu 40 cJ13_bitCount_95d88.data.toList) = true := by decide +kernel
theorem dJ13_bitCount_95d88_40 : decode cJ13_bitCount_95d88 40 = .ok (.lstore_n 0, 1) := zo_63 zh_cJ13_bitCount_95d88_2 0 rfl
theorem dJ13_bitCount_95d88_41 : decode cJ13_bitCount_95d88 41 = .ok (.lload_n 0, 1) := zo_30 zh_cJ13_bitCount_95d88_2 1 rfl
theorem dJ13_bitCount_95d88_42 : decode cJ13_bitCount_95d88 42 = .ok (.lload_n 0, 1) := zo_30 zh_cJ13_bitCount_95d88_2 2 rfl
theorem dJ13_bitCount_95d88_43 : decode cJ13_bitCount_95d88 43 = .ok (.bipush 16, 2) := zo_p16 zh_cJ13_bitCount_95d88_2 3 16 rfl rfl
theorem dJ13_bitCount_95d88_45 : decode cJ13_bitCount_95d88 45 = .ok (.lushr, 1) := zo_125 zh_cJ13_bitCount_95d88_2 5 rfl
theorem dJ13_bitCount_95d88_46 : decode cJ13_bitCount_95d88 46 = .ok (.ladd, 1) := zo_97 zh_cJ13_bitCount_95d88_2 6 rfl
theorem dJ13_bitCount_95d88_47 : decode cJ13_bitCount_95d88 47 = .ok (.lstore_n 0, 1) := zo_63 zh_cJ13_bitCount_95d88_2 7 rfl
theorem dJ13_bitCount_95d88_48 : decode cJ13_bitCount_95d88 48 = .ok (.lload_n 0, 1) := zo_30 zh_cJ13_bitCount_95d88_2 8 rfl
theorem dJ13_bitCount_95d88_49 : decode cJ13_bitCount_95d88 49 = .ok (.lload_n 0, 1) := zo_30 zh_cJ13_bitCount_95d88_2 9 rfl
theorem dJ13_bitCount_95d88_50 : decode cJ13_bitCount_95d88 50 = .ok (.bipush 32, 2) := zo_p16 zh_cJ13_bitCount_95d88_2 10 32 rfl rfl
theorem dJ13_bitCount_95d88_52 : decode cJ13_bitCount_95d88 52 = .ok (.lushr, 1) := zo_125 zh_cJ13_bitCount_95d88_2 12 rfl
theorem dJ13_bitCount_95d88_53 : decode cJ13_bitCount_95d88 53 = .ok (.ladd, 1) := zo_97 zh_cJ13_bitCount_95d88_2 13 rfl
theorem dJ13_bitCount_95d88_54 : decode cJ13_bitCount_95d88 54 = .ok (.lstore_n 0, 1) := zo_63 zh_cJ13_bitCount_95d88_2 14 rfl
theorem dJ13_bitCount_95d88_55 : decode cJ13_bitCount_95d88 55 = .ok (.lload_n 0, 1) := zo_30 zh_cJ13_bitCount_95d88_2 15 rfl
theorem dJ13_bitCount_95d88_56 : decode cJ13_bitCount_95d88 56 = .ok (.l2i, 1) := zo_136 zh_cJ13_bitCount_95d88_2 16 rfl
theorem dJ13_bitCount_95d88_57 : decode cJ13_bitCount_95d88 57 = .ok (.bipush 127, 2) := zo_p16 zh_cJ13_bitCount_95d88_2 17 127 rfl rfl
theorem dJ13_bitCount_95d88_59 : decode cJ13_bitCount_95d88 59 = .ok (.iand, 1) := zo_126 zh_cJ13_bitCount_95d88_2 19 rfl
theorem zh_cJ13_bitCount_95d88_3 : zck [172] (zdu 60 cJ13_bitCount_95d88.data.toList) = true := by decide +kernel
theorem dJ13_bitCount_95d88_60 : decode cJ13_bitCount_95d88 60 = .ok (.ireturn, 1) := zo_172 zh_cJ13_bitCount_95d88_3 0 rfl
abbrev z_J13_bitCount_95d88 : List Cond := .code yJ13_bitCount_95d88 cJ13_bitCount_95d88 2 (some .int) :: zW
abbrev wl_J13_bitCount_95d88 (ad : Nat → Nat) (cs : Nat → ClassId)   : va_W := []
def Q_J13_bitCount_95d88 (D : va_G) (cs : Nat → ClassId) (ad : Nat → Nat)   (A : Nat → Prop) (R : Int32 × Unit) : Array Value → State → Outcome → State → Prop :=
  va_Qi (fun (r : Int32) (u : Unit) => (r, u) = R) (fun (u : Unit) (t : State) => va_P D classes (wl_J13_bitCount_95d88 ad cs ) t.heap ∧ va_D A (wl_J13_bitCount_95d88 ad cs )) A
abbrev rm_J13_bitCount_95d88 : Room := { frames := 0, cells := 0, slots := 0, locals := 0 }
def B_J13_bitCount_95d88_0     (x0 : Int64) : Option (Int32 × Unit) :=
  (zk_let (x0 - (((x0.toUInt64 >>> ((1 : Int32).toInt64.toUInt64 &&& Int64.toUInt64 63)).toInt64) &&& (6148914691236517205 : Int64))) (fun v_1 => (zk_let ((v_1 &&& (3689348814741910323 : Int64)) + (((v_1.toUInt64 >>> ((2 : Int32).toInt64.toUInt64 &&& Int64.toUInt64 63)).toInt64) &&& (3689348814741910323 : Int64))) (fun v_2 => (zk_let ((v_2 + ((v_2.toUInt64 >>> ((4 : Int32).toInt64.toUInt64 &&& Int64.toUInt64 63)).toInt64)) &&& (1085102592571150095 : Int64)) (fun v_3 => (zk_let (v_3 + ((v_3.toUInt64 >>> ((8 : Int32).toInt64.toUInt64 &&& Int64.toUInt64 63)).toInt64)) (fun v_4 => (zk_let (v_4 + ((v_4.toUInt64 >>> ((16 : Int32).toInt64.toUInt64 &&& Int64.toUInt64 63)).toInt64)) (fun v_5 => (zk_let (v_5 + ((v_5.toUInt64 >>> ((32 : Int32).toInt64.toUInt64 &&& Int64.toUInt64 63)).toInt64)) (fun v_6 => (some (v_6.toInt32 &&& (127 : Int32), ()))))))))))))))
def f_J13_bitCount_95d88   (x0 : Int64)  : Option (Int32 × Unit) := B_J13_bitCount_95d88_0    x0 
set_option maxHeartbeats 4000000 in
set_option maxRecDepth 100000 in
theorem L_J13_bitCount_95d88_0 {p : Program} {l : Launch} {e : Env} {s : State} {m : MethodId} {args : Array Value} {below : List Frame} {meth : Method} {c : Code} {A : Nat → Prop} {D : va_G} {cs : Nat → ClassId} {ad : Nat → Nat} {R : Int32 × Unit} (C0 : zC p s m args meth c cJ13_bitCount_95d88 2 (some .int) RJ13 zW) (hK : va_K D classes (zT cs) s) (hA : ∀ q : Nat, s.heap.size ≤ q → A q) (x0 : Int64) (h : B_J13_bitCount_95d88_0 x0 = some R) (H : Heap) (locs : List Loc) (ls : Array Slot) (hP : va_P D classes (wl_J13_bitCount_95d88 ad cs ) H) (hD : va_D A (wl_J13_bitCount_95d88 ad cs )) (hS : va_S A s.heap H locs) (hl : lv_has ls 2 [(0, .long x0)]) : W p l e rm_J13_bitCount_95d88 s m args below meth c H locs 0 0 (MQ below (Q_J13_bitCount_95d88 D cs ad  A R) args s 0 0 A) (F0 m 0 ls []) := by
  obtain ⟨hx, hb, hr, hml, hown, ht, hlocks⟩ := id C0
  refine lv_lload_n hx hb dJ13_bitCount_95d88_0 rfl (lv_at hl 0 rfl) ?_
  refine lv_lload_n hx hb dJ13_bitCount_95d88_1 rfl (lv_at hl 0 rfl) ?_
  refine lv_iconst (v := (1 : Int32)) hx hb dJ13_bitCount_95d88_2 (by decide) ?_
  refine lv_lushr (v := (x0.toUInt64 >>> ((1 : Int32).toInt64.toUInt64 &&& Int64.toUInt64 63)).toInt64) hx hb dJ13_bitCount_95d88_3 rfl ?_
  refine lv_ldc2 (v := (6148914691236517205 : Int64)) hx hb hown (ht _ kw_1059) dJ13_bitCount_95d88_4 ?_
  refine lv_land hx hb dJ13_bitCount_95d88_7 ?_
  refine lv_lsub hx hb dJ13_bitCount_95d88_8 ?_
  obtain ⟨v_1, ev_1, h⟩ := zk_lt h
  refine W.eq (g2 := F0 m 9 ls [.long v_1]) (by rw [ev_1]) ?_
  refine lv_lstore_n (lv' := [(0, .long v_1)]) hx hb dJ13_bitCount_95d88_9 rfl hl (by decide) rfl (fun ls hl => ?_)
  refine lv_lload_n hx hb dJ13_bitCount_95d88_10 rfl (lv_at hl 0 rfl) ?_
  refine lv_ldc2 (v := (3689348814741910323 : Int64)) hx hb hown (ht _ kw_1060) dJ13_bitCount_95d88_11 ?_
  refine lv_land hx hb dJ13_bitCount_95d88_14 ?_
  refine lv_lload_n hx hb dJ13_bitCount_95d88_15 rfl (lv_at hl 0 rfl) ?_
  refine lv_iconst (v := (2 : Int32)) hx hb dJ13_bitCount_95d88_16 (by decide) ?_
  refine lv_lushr (v := (v_1.toUInt64 >>> ((2 : Int32).toInt64.toUInt64 &&& Int64.toUInt64 63)).toInt64) hx hb dJ13_bitCount_95d88_17 rfl ?_
  refine lv_ldc2 (v := (3689348814741910323 : Int64)) hx hb hown (ht _ kw_1060) dJ13_bitCount_95d88_18 ?_
  refine lv_land hx hb dJ13_bitCount_95d88_21 ?_
  refine lv_ladd hx hb dJ13_bitCount_95d88_22 ?_
  obtain ⟨v_2, ev_2, h⟩ := zk_lt h
  refine W.eq (g2 := F0 m 23 ls [.long v_2]) (by rw [ev_2]) ?_
  refine lv_lstore_n (lv' := [(0, .long v_2)]) hx hb dJ13_bitCount_95d88_23 rfl hl (by decide) rfl (fun ls hl => ?_)
  refine lv_lload_n hx hb dJ13_bitCount_95d88_24 rfl (lv_at hl 0 rfl) ?_
  refine lv_lload_n hx hb dJ13_bitCount_95d88_25 rfl (lv_at hl 0 rfl) ?_
  refine lv_iconst (v := (4 : Int32)) hx hb dJ13_bitCount_95d88_26 (by decide) ?_
  refine lv_lushr (v := (v_2.toUInt64 >>> ((4 : Int32).toInt64.toUInt64 &&& Int64.toUInt64 63)).toInt64) hx hb dJ13_bitCount_95d88_27 rfl ?_
  refine lv_ladd hx hb dJ13_bitCount_95d88_28 ?_
  refine lv_ldc2 (v := (1085102592571150095 : Int64)) hx hb hown (ht _ kw_1061) dJ13_bitCount_95d88_29 ?_
  refine lv_land hx hb dJ13_bitCount_95d88_32 ?_
  obtain ⟨v_3, ev_3, h⟩ := zk_lt h
  refine W.eq (g2 := F0 m 33 ls [.long v_3]) (by rw [ev_3]) ?_
  refine lv_lstore_n (lv' := [(0, .long v_3)]) hx hb dJ13_bitCount_95d88_33 rfl hl (by decide) rfl (fun ls hl => ?_)
  refine lv_lload_n hx hb dJ13_bitCount_95d88_34 rfl (lv_at hl 0 rfl) ?_
  refine lv_lload_n hx hb dJ13_bitCount_95d88_35 rfl (lv_at hl 0 rfl) ?_
  refine lv_bipush (v := (8 : Int32)) hx hb dJ13_bitCount_95d88_36 (by decide) ?_
  refine lv_lushr (v := (v_3.toUInt64 >>> ((8 : Int32).toInt64.toUInt64 &&& Int64.toUInt64 63)).toInt64) hx hb dJ13_bitCount_95d88_38 rfl ?_
  refine lv_ladd hx hb dJ13_bitCount_95d88_39 ?_
  obtain ⟨v_4, ev_4, h⟩ := zk_lt h
  refine W.eq (g2 := F0 m 40 ls [.long v_4]) (by rw [ev_4]) ?_
  refine lv_lstore_n (lv' := [(0, .long v_4)]) hx hb dJ13_bitCount_95d88_40 rfl hl (by decide) rfl (fun ls hl => ?_)
  refine lv_lload_n hx hb dJ13_bitCount_95d88_41 rfl (lv_at hl 0 rfl) ?_
  refine lv_lload_n hx hb dJ13_bitCount_95d88_42 rfl (lv_at hl 0 rfl) ?_
  refine lv_bipush (v := (16 : Int32)) hx hb dJ13_bitCount_95d88_43 (by decide) ?_
  refine lv_lushr (v := (v_4.toUInt64 >>> ((16 : Int32).toInt64.toUInt64 &&& Int64.toUInt64 63)).toInt64) hx hb dJ13_bitCount_95d88_45 rfl ?_
  refine lv_ladd hx hb dJ13_bitCount_95d88_46 ?_
  obtain ⟨v_5, ev_5, h⟩ := zk_lt h
  refine W.eq (g2 := F0 m 47 ls [.long v_5]) (by rw [ev_5]) ?_
  refine lv_lstore_n (lv' := [(0, .long v_5)]) hx hb dJ13_bitCount_95d88_47 rfl hl (by decide) rfl (fun ls hl => ?_)
  refine lv_lload_n hx hb dJ13_bitCount_95d88_48 rfl (lv_at hl 0 rfl) ?_
  refine lv_lload_n hx hb dJ13_bitCount_95d88_49 rfl (lv_at hl 0 rfl) ?_
  refine lv_bipush (v := (32 : Int32)) hx hb dJ13_bitCount_95d88_50 (by decide) ?_
  refine lv_lushr (v := (v_5.toUInt64 >>> ((32 : Int32).toInt64.toUInt64 &&& Int64.toUInt64 63)).toInt64) hx hb dJ13_bitCount_95d88_52 rfl ?_
  refine lv_ladd hx hb dJ13_bitCount_95d88_53 ?_
  obtain ⟨v_6, ev_6, h⟩ := zk_lt h
  refine W.eq (g2 := F0 m 54 ls [.long v_6]) (by rw [ev_6]) ?_
  refine lv_lstore_n (lv' := [(0, .long v_6)]) hx hb dJ13_bitCount_95d88_54 rfl hl (by decide) rfl (fun ls hl => ?_)
  refine lv_lload_n hx hb dJ13_bitCount_95d88_55 rfl (lv_at hl 0 rfl) ?_
  refine lv_l2i (v := v_6.toInt32) hx hb dJ13_bitCount_95d88_56 rfl ?_
  refine lv_bipush (v := (127 : Int32)) hx hb dJ13_bitCount_95d88_57 (by decide) ?_
  refine lv_iand hx hb dJ13_bitCount_95d88_59 ?_
  exact W.iret (v := v_6.toInt32 &&& (127 : Int32)) hx hb hr (fun t ht2 hW => ⟨⟨v_6.toInt32 &&& (127 : Int32), (), rfl, Option.some.inj h, by rw [ht2]; exact hP, hD⟩, hS.F ht2⟩) hS.2.2 dJ13_bitCount_95d88_60 hlocks
set_option maxHeartbeats 4000000 in
set_option maxRecDepth 100000 in
theorem c_J13_bitCount_95d88 (l : Launch) (D : va_G) (cs : Nat → ClassId) (ad : Nat → Nat) (sz : Nat) (x0 : Int64)  (R : Int32 × Unit) (h : f_J13_bitCount_95d88   x0  = some R) : Met l yJ13_bitCount_95d88 (z_J13_bitCount_95d88) rm_J13_bitCount_95d88 (va_Pc [.long x0] (zPre D cs (wl_J13_bitCount_95d88 ad cs ) sz)) (Q_J13_bitCount_95d88 D cs ad  (va_A (wl_J13_bitCount_95d88 ad cs ) sz) R) 0 0 (va_A (wl_J13_bitCount_95d88 ad cs ) sz) := by
  refine Met.ofW (cc := cJ13_bitCount_95d88) (maxL := 2) (ret := (some .int)) (by decide) rfl ?_
  intro p e s m args below meth c s₁ B hml hv
  obtain ⟨rfl, hsz, hP, hK, hD0⟩ := hv
  subst hsz
  have hD := hD0.self (sz := s.heap.size)
  have C0 : zC p s m _ meth c cJ13_bitCount_95d88 2 (some .int) RJ13 zW := ⟨B.exec, B.bytes, B.returns, hml, findClass_of_methodNamed B.named, fun w hw => atoms_spec (ws := z_J13_bitCount_95d88) B.pre w (List.mem_cons_of_mem _ hw), B.notSynchronized⟩
  have hA : ∀ q : Nat, s.heap.size ≤ q → va_A (wl_J13_bitCount_95d88 ad cs ) s.heap.size q := fun q h => Or.inr h
  have hl := lv_entry ([.long x0]) (n := 2) (Nat.le_of_ble_eq_true rfl)
  rw [lg_entry_eq]
  generalize (lg_sl ([.long x0]) ++ List.replicate (2 - (lg_sl ([.long x0])).length) Slot.unset).toArray = ls at hl ⊢
  exact L_J13_bitCount_95d88_0 C0 hK hA   x0  h s.heap [] ls hP hD va_S.rf hl
theorem kw_959 : Cond.constant RJ6 265 (1431655765 : Int32) ∈ zW := zwC (i := 165) zc_4 rfl rfl
theorem kw_960 : Cond.constant RJ6 266 (858993459 : Int32) ∈ zW := zwC (i := 166) zc_4 rfl rfl
theorem kw_961 : Cond.constant RJ6 267 (252645135 : Int32) ∈ zW := zwC (i := 167) zc_4 rfl rfl
theorem zh_cJ6_bitCount_0f7a4_0 : zck [26, 26, 4, 124, 19, 1, 9, 126, 100, 59, 26, 19, 1, 10, 126, 26, 5, 124, 19, 1, 10, 126] (zdu 0 cJ6_bitCount_0f7a4.data.toList) = true := by decide +kernel
theorem dJ6_bitCount_0f7a4_0 : decode cJ6_bitCount_0f7a4 0 = .ok (.iload_n 0, 1) := zo_26 zh_cJ6_bitCount_0f7a4_0 0 rfl
theorem dJ6_bitCount_0f7a4_1 : decode cJ6_bitCount_0f7a4 1 = .ok (.iload_n 0, 1) := zo_26 zh_cJ6_bitCount_0f7a4_0 1 rfl
theorem dJ6_bitCount_0f7a4_2 : decode cJ6_bitCount_0f7a4 2 = .ok (.iconst 1, 1) := zo_4 zh_cJ6_bitCount_0f7a4_0 2 rfl
theorem zo_124 {c : ByteArray} {s : Nat} {K : List Nat} (h : zck K (zdu s c.data.toList) = true) (k : Nat) (hk : zt1 K k 124 = true) : decode c (s + k) = .ok (.iushr, 1) := zde ((zbd (zu1 (zh1 h hk))).trans rfl)
theorem dJ6_bitCount_0f7a4_3 : decode cJ6_bitCount_0f7a4 3 = .ok (.iushr, 1) := zo_124 zh_cJ6_bitCount_0f7a4_0 3 rfl
theorem zo_19 {c : ByteArray} {s : Nat} {K : List Nat} (h : zck K (zdu s c.data.toList) = true) (k : Nat) {v : Nat} (hk : zt3 K k 19 v = true) : decode c (s + k) = .ok (.ldc_w v, 3) := zde ((zbd (zu1 (zh3 h hk).1)).trans ((zbd (f := fun x => pure (Instr.ldc_w x)) (zh3 h hk).2).trans rfl))
theorem dJ6_bitCount_0f7a4_4 : decode cJ6_bitCount_0f7a4 4 = .ok (.ldc_w 265, 3) := zo_19 zh_cJ6_bitCount_0f7a4_0 4 rfl
theorem dJ6_bitCount_0f7a4_7 : decode cJ6_bitCount_0f7a4 7 = .ok (.iand, 1) := zo_126 zh_cJ6_bitCount_0f7a4_0 7 rfl
theorem dJ6_bitCount_0f7a4_8 : decode cJ6_bitCount_0f7a4 8 = .ok (.isub, 1) := zo_100 zh_cJ6_bitCount_0f7a4_0 8 rfl
theorem zo_59 {c : ByteArray} {s : Nat} {K : List Nat} (h : zck K (zdu s c.data.toList) = true) (k : Nat) (hk : zt1 K k 59 = true) : decode c (s + k) = .ok (.istore_n 0, 1) := zde ((zbd (zu1 (zh1 h hk))).trans rfl)
theorem dJ6_bitCount_0f7a4_9 : decode cJ6_bitCount_0f7a4 9 = .ok (.istore_n 0, 1) := zo_59 zh_cJ6_bitCount_0f7a4_0 9 rfl
theorem dJ6_bitCount_0f7a4_10 : decode cJ6_bitCount_0f7a4 10 = .ok (.iload_n 0, 1) := zo_26 zh_cJ6_bitCount_0f7a4_0 10 rfl
theorem dJ6_bitCount_0f7a4_11 : decode cJ6_bitCount_0f7a4 11 = .ok (.ldc_w 266, 3) := zo_19 zh_cJ6_bitCount_0f7a4_0 11 rfl
theorem dJ6_bitCount_0f7a4_14 : decode cJ6_bitCount_0f7a4 14 = .ok (.iand, 1) := zo_126 zh_cJ6_bitCount_0f7a4_0 14 rfl
theorem dJ6_bitCount_0f7a4_15 : decode cJ6_bitCount_0f7a4 15 = .ok (.iload_n 0, 1) := zo_26 zh_cJ6_bitCount_0f7a4_0 15 rfl
theorem dJ6_bitCount_0f7a4_16 : decode cJ6_bitCount_0f7a4 16 = .ok (.iconst 2, 1) := zo_5 zh_cJ6_bitCount_0f7a4_0 16 rfl
theorem dJ6_bitCount_0f7a4_17 : decode cJ6_bitCount_0f7a4 17 = .ok (.iushr, 1) := zo_124 zh_cJ6_bitCount_0f7a4_0 17 rfl
theorem dJ6_bitCount_0f7a4_18 : decode cJ6_bitCount_0f7a4 18 = .ok (.ldc_w 266, 3) := zo_19 zh_cJ6_bitCount_0f7a4_0 18 rfl
theorem zh_cJ6_bitCount_0f7a4_1 : zck [10, 126, 96, 59, 26, 26, 7, 124, 96, 19, 1, 11, 126, 59, 26, 26, 16, 8, 124, 96, 59, 26] (zdu 20 cJ6_bitCount_0f7a4.data.toList) = true := by decide +kernel
theorem dJ6_bitCount_0f7a4_21 : decode cJ6_bitCount_0f7a4 21 = .ok (.iand, 1) := zo_126 zh_cJ6_bitCount_0f7a4_1 1 rfl
theorem dJ6_bitCount_0f7a4_22 : decode cJ6_bitCount_0f7a4 22 = .ok (.iadd, 1) := zo_96 zh_cJ6_bitCount_0f7a4_1 2 rfl
theorem dJ6_bitCount_0f7a4_23 : decode cJ6_bitCount_0f7a4 23 = .ok (.istore_n 0, 1) := zo_59 zh_cJ6_bitCount_0f7a4_1 3 rfl
theorem dJ6_bitCount_0f7a4_24 : decode cJ6_bitCount_0f7a4 24 = .ok (.iload_n 0, 1) := zo_26 zh_cJ6_bitCount_0f7a4_1 4 rfl
theorem dJ6_bitCount_0f7a4_25 : decode cJ6_bitCount_0f7a4 25 = .ok (.iload_n 0, 1) := zo_26 zh_cJ6_bitCount_0f7a4_1 5 rfl
theorem dJ6_bitCount_0f7a4_26 : decode cJ6_bitCount_0f7a4 26 = .ok (.iconst 4, 1) := zo_7 zh_cJ6_bitCount_0f7a4_1 6 rfl
theorem dJ6_bitCount_0f7a4_27 : decode cJ6_bitCount_0f7a4 27 = .ok (.iushr, 1) := zo_124 zh_cJ6_bitCount_0f7a4_1 7 rfl
theorem dJ6_bitCount_0f7a4_28 : decode cJ6_bitCount_0f7a4 28 = .ok (.iadd, 1) := zo_96 zh_cJ6_bitCount_0f7a4_1 8 rfl
theorem dJ6_bitCount_0f7a4_29 : decode cJ6_bitCount_0f7a4 29 = .ok (.ldc_w 267, 3) := zo_19 zh_cJ6_bitCount_0f7a4_1 9 rfl
theorem dJ6_bitCount_0f7a4_32 : decode cJ6_bitCount_0f7a4 32 = .ok (.iand, 1) := zo_126 zh_cJ6_bitCount_0f7a4_1 12 rfl
theorem dJ6_bitCount_0f7a4_33 : decode cJ6_bitCount_0f7a4 33 = .ok (.istore_n 0, 1) := zo_59 zh_cJ6_bitCount_0f7a4_1 13 rfl
theorem dJ6_bitCount_0f7a4_34 : decode cJ6_bitCount_0f7a4 34 = .ok (.iload_n 0, 1) := zo_26 zh_cJ6_bitCount_0f7a4_1 14 rfl
theorem dJ6_bitCount_0f7a4_35 : decode cJ6_bitCount_0f7a4 35 = .ok (.iload_n 0, 1) := zo_26 zh_cJ6_bitCount_0f7a4_1 15 rfl
theorem dJ6_bitCount_0f7a4_36 : decode cJ6_bitCount_0f7a4 36 = .ok (.bipush 8, 2) := zo_p16 zh_cJ6_bitCount_0f7a4_1 16 8 rfl rfl
theorem dJ6_bitCount_0f7a4_38 : decode cJ6_bitCount_0f7a4 38 = .ok (.iushr, 1) := zo_124 zh_cJ6_bitCount_0f7a4_1 18 rfl
theorem dJ6_bitCount_0f7a4_39 : decode cJ6_bitCount_0f7a4 39 = .ok (.iadd, 1) := zo_96 zh_cJ6_bitCount_0f7a4_1 19 rfl
theorem zh_cJ6_bitCount_0f7a4_2 : zck [59, 26, 26, 16, 16, 124, 96, 59, 26, 16, 63, 126, 172] (zdu 40 cJ6_bitCount_0f7a4.data.toList) = true := by decide +kernel
theorem dJ6_bitCount_0f7a4_40 : decode cJ6_bitCount_0f7a4 40 = .ok (.istore_n 0, 1) := zo_59 zh_cJ6_bitCount_0f7a4_2 0 rfl
theorem dJ6_bitCount_0f7a4_41 : decode cJ6_bitCount_0f7a4 41 = .ok (.iload_n 0, 1) := zo_26 zh_cJ6_bitCount_0f7a4_2 1 rfl
theorem dJ6_bitCount_0f7a4_42 : decode cJ6_bitCount_0f7a4 42 = .ok (.iload_n 0, 1) := zo_26 zh_cJ6_bitCount_0f7a4_2 2 rfl
theorem dJ6_bitCount_0f7a4_43 : decode cJ6_bitCount_0f7a4 43 = .ok (.bipush 16, 2) := zo_p16 zh_cJ6_bitCount_0f7a4_2 3 16 rfl rfl
theorem dJ6_bitCount_0f7a4_45 : decode cJ6_bitCount_0f7a4 45 = .ok (.iushr, 1) := zo_124 zh_cJ6_bitCount_0f7a4_2 5 rfl
theorem dJ6_bitCount_0f7a4_46 : decode cJ6_bitCount_0f7a4 46 = .ok (.iadd, 1) := zo_96 zh_cJ6_bitCount_0f7a4_2 6 rfl
theorem dJ6_bitCount_0f7a4_47 : decode cJ6_bitCount_0f7a4 47 = .ok (.istore_n 0, 1) := zo_59 zh_cJ6_bitCount_0f7a4_2 7 rfl
theorem dJ6_bitCount_0f7a4_48 : decode cJ6_bitCount_0f7a4 48 = .ok (.iload_n 0, 1) := zo_26 zh_cJ6_bitCount_0f7a4_2 8 rfl
theorem dJ6_bitCount_0f7a4_49 : decode cJ6_bitCount_0f7a4 49 = .ok (.bipush 63, 2) := zo_p16 zh_cJ6_bitCount_0f7a4_2 9 63 rfl rfl
theorem dJ6_bitCount_0f7a4_51 : decode cJ6_bitCount_0f7a4 51 = .ok (.iand, 1) := zo_126 zh_cJ6_bitCount_0f7a4_2 11 rfl
theorem dJ6_bitCount_0f7a4_52 : decode cJ6_bitCount_0f7a4 52 = .ok (.ireturn, 1) := zo_172 zh_cJ6_bitCount_0f7a4_2 12 rfl
abbrev z_J6_bitCount_0f7a4 : List Cond := .code yJ6_bitCount_0f7a4 cJ6_bitCount_0f7a4 1 (some .int) :: zW
abbrev wl_J6_bitCount_0f7a4 (ad : Nat → Nat) (cs : Nat → ClassId)   : va_W := []
def Q_J6_bitCount_0f7a4 (D : va_G) (cs : Nat → ClassId) (ad : Nat → Nat)   (A : Nat → Prop) (R : Int32 × Unit) : Array Value → State → Outcome → State → Prop :=
  va_Qi (fun (r : Int32) (u : Unit) => (r, u) = R) (fun (u : Unit) (t : State) => va_P D classes (wl_J6_bitCount_0f7a4 ad cs ) t.heap ∧ va_D A (wl_J6_bitCount_0f7a4 ad cs )) A
abbrev rm_J6_bitCount_0f7a4 : Room := { frames := 0, cells := 0, slots := 0, locals := 0 }
def B_J6_bitCount_0f7a4_0     (x0 : Int32) : Option (Int32 × Unit) :=
  (zk_let (x0 - (((x0.toUInt32 >>> ((1 : Int32).toUInt32 &&& Int32.toUInt32 31)).toInt32) &&& (1431655765 : Int32))) (fun v_1 => (zk_let ((v_1 &&& (858993459 : Int32)) + (((v_1.toUInt32 >>> ((2 : Int32).toUInt32 &&& Int32.toUInt32 31)).toInt32) &&& (858993459 : Int32))) (fun v_2 => (zk_let ((v_2 + ((v_2.toUInt32 >>> ((4 : Int32).toUInt32 &&& Int32.toUInt32 31)).toInt32)) &&& (252645135 : Int32)) (fun v_3 => (zk_let (v_3 + ((v_3.toUInt32 >>> ((8 : Int32).toUInt32 &&& Int32.toUInt32 31)).toInt32)) (fun v_4 => (zk_let (v_4 + ((v_4.toUInt32 >>> ((16 : Int32).toUInt32 &&& Int32.toUInt32 31)).toInt32)) (fun v_5 => (some (v_5 &&& (63 : Int32), ()))))))))))))
def f_J6_bitCount_0f7a4   (x0 : Int32)  : Option (Int32 × Unit) := B_J6_bitCount_0f7a4_0    x0 
set_option maxHeartbeats 4000000 in
set_option maxRecDepth 100000 in
theorem L_J6_bitCount_0f7a4_0 {p : Program} {l : Launch} {e : Env} {s : State} {m : MethodId} {args : Array Value} {below : List Frame} {meth : Method} {c : Code} {A : Nat → Prop} {D : va_G} {cs : Nat → ClassId} {ad : Nat → Nat} {R : Int32 × Unit} (C0 : zC p s m args meth c cJ6_bitCount_0f7a4 1 (some .int) RJ6 zW) (hK : va_K D classes (zT cs) s) (hA : ∀ q : Nat, s.heap.size ≤ q → A q) (x0 : Int32) (h : B_J6_bitCount_0f7a4_0 x0 = some R) (H : Heap) (locs : List Loc) (ls : Array Slot) (hP : va_P D classes (wl_J6_bitCount_0f7a4 ad cs ) H) (hD : va_D A (wl_J6_bitCount_0f7a4 ad cs )) (hS : va_S A s.heap H locs) (hl : lv_has ls 1 [(0, .int x0)]) : W p l e rm_J6_bitCount_0f7a4 s m args below meth c H locs 0 0 (MQ below (Q_J6_bitCount_0f7a4 D cs ad  A R) args s 0 0 A) (F0 m 0 ls []) := by
  obtain ⟨hx, hb, hr, hml, hown, ht, hlocks⟩ := id C0
  refine lv_iload_n hx hb dJ6_bitCount_0f7a4_0 rfl (lv_at hl 0 rfl) ?_
  refine lv_iload_n hx hb dJ6_bitCount_0f7a4_1 rfl (lv_at hl 0 rfl) ?_
  refine lv_iconst (v := (1 : Int32)) hx hb dJ6_bitCount_0f7a4_2 (by decide) ?_
  refine lv_iushr (v := (x0.toUInt32 >>> ((1 : Int32).toUInt32 &&& Int32.toUInt32 31)).toInt32) hx hb dJ6_bitCount_0f7a4_3 rfl ?_
  refine lv_ldcw (v := (1431655765 : Int32)) hx hb hown (ht _ kw_959) dJ6_bitCount_0f7a4_4 ?_
  refine lv_iand hx hb dJ6_bitCount_0f7a4_7 ?_
  refine lv_isub hx hb dJ6_bitCount_0f7a4_8 ?_
  obtain ⟨v_1, ev_1, h⟩ := zk_lt h
  refine W.eq (g2 := F0 m 9 ls [.int v_1]) (by rw [ev_1]) ?_
  refine lv_istore_n (lv' := [(0, .int v_1)]) hx hb dJ6_bitCount_0f7a4_9 rfl hl (by decide) rfl (fun ls hl => ?_)
  refine lv_iload_n hx hb dJ6_bitCount_0f7a4_10 rfl (lv_at hl 0 rfl) ?_
  refine lv_ldcw (v := (858993459 : Int32)) hx hb hown (ht _ kw_960) dJ6_bitCount_0f7a4_11 ?_
  refine lv_iand hx hb dJ6_bitCount_0f7a4_14 ?_
  refine lv_iload_n hx hb dJ6_bitCount_0f7a4_15 rfl (lv_at hl 0 rfl) ?_
  refine lv_iconst (v := (2 : Int32)) hx hb dJ6_bitCount_0f7a4_16 (by decide) ?_
  refine lv_iushr (v := (v_1.toUInt32 >>> ((2 : Int32).toUInt32 &&& Int32.toUInt32 31)).toInt32) hx hb dJ6_bitCount_0f7a4_17 rfl ?_
  refine lv_ldcw (v := (858993459 : Int32)) hx hb hown (ht _ kw_960) dJ6_bitCount_0f7a4_18 ?_
  refine lv_iand hx hb dJ6_bitCount_0f7a4_21 ?_
  refine lv_iadd hx hb dJ6_bitCount_0f7a4_22 ?_
  obtain ⟨v_2, ev_2, h⟩ := zk_lt h
  refine W.eq (g2 := F0 m 23 ls [.int v_2]) (by rw [ev_2]) ?_
  refine lv_istore_n (lv' := [(0, .int v_2)]) hx hb dJ6_bitCount_0f7a4_23 rfl hl (by decide) rfl (fun ls hl => ?_)
  refine lv_iload_n hx hb dJ6_bitCount_0f7a4_24 rfl (lv_at hl 0 rfl) ?_
  refine lv_iload_n hx hb dJ6_bitCount_0f7a4_25 rfl (lv_at hl 0 rfl) ?_
  refine lv_iconst (v := (4 : Int32)) hx hb dJ6_bitCount_0f7a4_26 (by decide) ?_
  refine lv_iushr (v := (v_2.toUInt32 >>> ((4 : Int32).toUInt32 &&& Int32.toUInt32 31)).toInt32) hx hb dJ6_bitCount_0f7a4_27 rfl ?_
  refine lv_iadd hx hb dJ6_bitCount_0f7a4_28 ?_
  refine lv_ldcw (v := (252645135 : Int32)) hx hb hown (ht _ kw_961) dJ6_bitCount_0f7a4_29 ?_
  refine lv_iand hx hb dJ6_bitCount_0f7a4_32 ?_
  obtain ⟨v_3, ev_3, h⟩ := zk_lt h
  refine W.eq (g2 := F0 m 33 ls [.int v_3]) (by rw [ev_3]) ?_
  refine lv_istore_n (lv' := [(0, .int v_3)]) hx hb dJ6_bitCount_0f7a4_33 rfl hl (by decide) rfl (fun ls hl => ?_)
  refine lv_iload_n hx hb dJ6_bitCount_0f7a4_34 rfl (lv_at hl 0 rfl) ?_
  refine lv_iload_n hx hb dJ6_bitCount_0f7a4_35 rfl (lv_at hl 0 rfl) ?_
  refine lv_bipush (v := (8 : Int32)) hx hb dJ6_bitCount_0f7a4_36 (by decide) ?_
  refine lv_iushr (v := (v_3.toUInt32 >>> ((8 : Int32).toUInt32 &&& Int32.toUInt32 31)).toInt32) hx hb dJ6_bitCount_0f7a4_38 rfl ?_
  refine lv_iadd hx hb dJ6_bitCount_0f7a4_39 ?_
  obtain ⟨v_4, ev_4, h⟩ := zk_lt h
  refine W.eq (g2 := F0 m 40 ls [.int v_4]) (by rw [ev_4]) ?_
  refine lv_istore_n (lv' := [(0, .int v_4)]) hx hb dJ6_bitCount_0f7a4_40 rfl hl (by decide) rfl (fun ls hl => ?_)
  refine lv_iload_n hx hb dJ6_bitCount_0f7a4_41 rfl (lv_at hl 0 rfl) ?_
  refine lv_iload_n hx hb dJ6_bitCount_0f7a4_42 rfl (lv_at hl 0 rfl) ?_
  refine lv_bipush (v := (16 : Int32)) hx hb dJ6_bitCount_0f7a4_43 (by decide) ?_
  refine lv_iushr (v := (v_4.toUInt32 >>> ((16 : Int32).toUInt32 &&& Int32.toUInt32 31)).toInt32) hx hb dJ6_bitCount_0f7a4_45 rfl ?_
  refine lv_iadd hx hb dJ6_bitCount_0f7a4_46 ?_
  obtain ⟨v_5, ev_5, h⟩ := zk_lt h
  refine W.eq (g2 := F0 m 47 ls [.int v_5]) (by rw [ev_5]) ?_
  refine lv_istore_n (lv' := [(0, .int v_5)]) hx hb dJ6_bitCount_0f7a4_47 rfl hl (by decide) rfl (fun ls hl => ?_)
  refine lv_iload_n hx hb dJ6_bitCount_0f7a4_48 rfl (lv_at hl 0 rfl) ?_
  refine lv_bipush (v := (63 : Int32)) hx hb dJ6_bitCount_0f7a4_49 (by decide) ?_
  refine lv_iand hx hb dJ6_bitCount_0f7a4_51 ?_
  exact W.iret (v := v_5 &&& (63 : Int32)) hx hb hr (fun t ht2 hW => ⟨⟨v_5 &&& (63 : Int32), (), rfl, Option.some.inj h, by rw [ht2]; exact hP, hD⟩, hS.F ht2⟩) hS.2.2 dJ6_bitCount_0f7a4_52 hlocks
set_option maxHeartbeats 4000000 in
set_option maxRecDepth 100000 in
theorem c_J6_bitCount_0f7a4 (l : Launch) (D : va_G) (cs : Nat → ClassId) (ad : Nat → Nat) (sz : Nat) (x0 : Int32)  (R : Int32 × Unit) (h : f_J6_bitCount_0f7a4   x0  = some R) : Met l yJ6_bitCount_0f7a4 (z_J6_bitCount_0f7a4) rm_J6_bitCount_0f7a4 (va_Pc [.int x0] (zPre D cs (wl_J6_bitCount_0f7a4 ad cs ) sz)) (Q_J6_bitCount_0f7a4 D cs ad  (va_A (wl_J6_bitCount_0f7a4 ad cs ) sz) R) 0 0 (va_A (wl_J6_bitCount_0f7a4 ad cs ) sz) := by
  refine Met.ofW (cc := cJ6_bitCount_0f7a4) (maxL := 1) (ret := (some .int)) (by decide) rfl ?_
  intro p e s m args below meth c s₁ B hml hv
  obtain ⟨rfl, hsz, hP, hK, hD0⟩ := hv
  subst hsz
  have hD := hD0.self (sz := s.heap.size)
  have C0 : zC p s m _ meth c cJ6_bitCount_0f7a4 1 (some .int) RJ6 zW := ⟨B.exec, B.bytes, B.returns, hml, findClass_of_methodNamed B.named, fun w hw => atoms_spec (ws := z_J6_bitCount_0f7a4) B.pre w (List.mem_cons_of_mem _ hw), B.notSynchronized⟩
  have hA : ∀ q : Nat, s.heap.size ≤ q → va_A (wl_J6_bitCount_0f7a4 ad cs ) s.heap.size q := fun q h => Or.inr h
  have hl := lv_entry ([.int x0]) (n := 1) (Nat.le_of_ble_eq_true rfl)
  rw [lg_entry_eq]
  generalize (lg_sl ([.int x0]) ++ List.replicate (1 - (lg_sl ([.int x0])).length) Slot.unset).toArray = ls at hl ⊢
  exact L_J6_bitCount_0f7a4_0 C0 hK hA   x0  h s.heap [] ls hP hD va_S.rf hl
theorem kw_235 : Cond.fieldLink RX9 9 "AlreadyJudged$Tape" "bytes" "[I" ∈ zW := zwC (i := 161) zc_1 rfl rfl
theorem kw_237 : Cond.fieldLink RX9 15 "AlreadyJudged$Tape" "size" "I" ∈ zW := zwC (i := 163) zc_1 rfl rfl
theorem zh_cX9_add_0 : zck [42, 180, 0, 15, 16, 120, 162, 0, 23, 42, 180, 0, 9, 42, 180, 0, 15, 27, 79, 42, 89, 180] (zdu 0 cX9_add.data.toList) = true := by decide +kernel
theorem dX9_add_0 : decode cX9_add 0 = .ok (.aload_n 0, 1) := zo_42 zh_cX9_add_0 0 rfl
theorem dX9_add_1 : decode cX9_add 1 = .ok (.getfield 15, 3) := zo_180 zh_cX9_add_0 1 rfl
theorem dX9_add_4 : decode cX9_add 4 = .ok (.bipush 120, 2) := zo_p16 zh_cX9_add_0 4 120 rfl rfl
theorem dX9_add_6 : decode cX9_add 6 = .ok (.if_icmp .ge 23, 3) := zo_p162 zh_cX9_add_0 6 23 rfl rfl
theorem dX9_add_9 : decode cX9_add 9 = .ok (.aload_n 0, 1) := zo_42 zh_cX9_add_0 9 rfl
theorem dX9_add_10 : decode cX9_add 10 = .ok (.getfield 9, 3) := zo_180 zh_cX9_add_0 10 rfl
theorem dX9_add_13 : decode cX9_add 13 = .ok (.aload_n 0, 1) := zo_42 zh_cX9_add_0 13 rfl
theorem dX9_add_14 : decode cX9_add 14 = .ok (.getfield 15, 3) := zo_180 zh_cX9_add_0 14 rfl
theorem dX9_add_17 : decode cX9_add 17 = .ok (.iload_n 1, 1) := zo_27 zh_cX9_add_0 17 rfl
theorem dX9_add_18 : decode cX9_add 18 = .ok (.iastore, 1) := zo_79 zh_cX9_add_0 18 rfl
theorem dX9_add_19 : decode cX9_add 19 = .ok (.aload_n 0, 1) := zo_42 zh_cX9_add_0 19 rfl
theorem zh_cX9_add_1 : zck [89, 180, 0, 15, 4, 96, 181, 0, 15, 177] (zdu 20 cX9_add.data.toList) = true := by decide +kernel
theorem dX9_add_20 : decode cX9_add 20 = .ok (.dup, 1) := zo_89 zh_cX9_add_1 0 rfl
theorem dX9_add_21 : decode cX9_add 21 = .ok (.getfield 15, 3) := zo_180 zh_cX9_add_1 1 rfl
theorem dX9_add_24 : decode cX9_add 24 = .ok (.iconst 1, 1) := zo_4 zh_cX9_add_1 4 rfl
theorem dX9_add_25 : decode cX9_add 25 = .ok (.iadd, 1) := zo_96 zh_cX9_add_1 5 rfl
theorem dX9_add_26 : decode cX9_add 26 = .ok (.putfield 15, 3) := zo_181 zh_cX9_add_1 6 rfl
theorem dX9_add_29 : decode cX9_add 29 = .ok (.return_, 1) := zo_177 zh_cX9_add_1 9 rfl
abbrev z_X9_add : List Cond := .code yX9_add cX9_add 2 none :: zW
abbrev wl_X9_add (ad : Nat → Nat) (cs : Nat → ClassId)  (tape_size : Int32) (tape_bytes : Nat → Int32) : va_W := [((ad 23), .inr (9, [.ref (ad 24), .int tape_size])), ((ad 24), .inl (cs 0, 120, .inl tape_bytes))]
def Q_X9_add (D : va_G) (cs : Nat → ClassId) (ad : Nat → Nat)   (A : Nat → Prop) (R : Int32 × (Nat → Int32)) : Array Value → State → Outcome → State → Prop :=
  va_Qv (fun u : Int32 × (Nat → Int32) => u = R) (fun (u : Int32 × (Nat → Int32)) (t : State) => va_P D classes (wl_X9_add ad cs u.1 u.2) t.heap ∧ va_D A (wl_X9_add ad cs u.1 u.2)) A
abbrev rm_X9_add : Room := { frames := 0, cells := 0, slots := 0, locals := 0 }
def B_X9_add_0     (x1 : Int32) (tape_size : Int32) (tape_bytes : Nat → Int32) : Option (Int32 × (Nat → Int32)) :=
  (if (120 : Int32) ≤ tape_size then (some (tape_size, tape_bytes)) else (if (tape_size < 0 ∨ 120 ≤ tape_size.toNatClampNeg) then none else (zk_let (upd tape_bytes tape_size.toNatClampNeg x1) (fun f_3 => (zk_let (tape_size + (1 : Int32)) (fun v_4 => (some (v_4, f_3))))))))
def f_X9_add   (x1 : Int32) (tape_size : Int32) (tape_bytes : Nat → Int32) : Option (Int32 × (Nat → Int32)) := B_X9_add_0    x1 tape_size tape_bytes
set_option maxHeartbeats 4000000 in
set_option maxRecDepth 100000 in
theorem L_X9_add_0 {p : Program} {l : Launch} {e : Env} {s : State} {m : MethodId} {args : Array Value} {below : List Frame} {meth : Method} {c : Code} {A : Nat → Prop} {D : va_G} {cs : Nat → ClassId} {ad : Nat → Nat} {R : Int32 × (Nat → Int32)} (C0 : zC p s m args meth c cX9_add 2 none RX9 zW) (hK : va_K D classes (zT cs) s) (hA : ∀ q : Nat, s.heap.size ≤ q → A q) (x1 : Int32) (tape_size : Int32) (tape_bytes : Nat → Int32) (h : B_X9_add_0 x1 tape_size tape_bytes = some R) (H : Heap) (locs : List Loc) (ls : Array Slot) (hP : va_P D classes (wl_X9_add ad cs tape_size tape_bytes) H) (hD : va_D A (wl_X9_add ad cs tape_size tape_bytes)) (hS : va_S A s.heap H locs) (hl : lv_has ls 2 [(0, .ref (ad 23)), (1, .int x1)]) : W p l e rm_X9_add s m args below meth c H locs 0 0 (MQ below (Q_X9_add D cs ad  A R) args s 0 0 A) (F0 m 0 ls []) := by
  obtain ⟨hx, hb, hr, hml, hown, ht, hlocks⟩ := id C0
  refine lv_aload_n hx hb dX9_add_0 rfl (lv_at hl 0 rfl) ?_
  refine va_get (D := D) (ci := 9) (v := .int tape_size) (C := RX9) (T := TX9) (N := 2) hx hb ht iX9 hown hK hP 0 rfl rfl 1 (by decide) (ht _ kw_237) (fun _ h9 => h9) rfl dX9_add_1 ?_
  refine lv_bipush (v := (120 : Int32)) hx hb dX9_add_4 (by decide) ?_
  refine lv_icmp_ge (tgt := 29) hx hb dX9_add_6 (by decide) (fun c_1 => ?_) (fun c_1 => ?_)
  · have h := zk_t c_1 h
    exact W.vret hx hb hr (fun t ht2 hW => ⟨⟨(tape_size, tape_bytes), rfl, Option.some.inj h, by rw [ht2]; exact hP, hD⟩, hS.F ht2⟩) hS.2.2 dX9_add_29 hlocks
  · have h := zk_f c_1 h
    refine lv_aload_n hx hb dX9_add_9 rfl (lv_at hl 0 rfl) ?_
    refine va_get (D := D) (ci := 9) (v := .ref (ad 24)) (C := RX9) (T := TX9) (N := 2) hx hb ht iX9 hown hK hP 0 rfl rfl 0 (by decide) (ht _ kw_235) (fun _ h9 => h9) rfl dX9_add_10 ?_
    refine lv_aload_n hx hb dX9_add_13 rfl (lv_at hl 0 rfl) ?_
    refine va_get (D := D) (ci := 9) (v := .int tape_size) (C := RX9) (T := TX9) (N := 2) hx hb ht iX9 hown hK hP 0 rfl rfl 1 (by decide) (ht _ kw_237) (fun _ h9 => h9) rfl dX9_add_14 ?_
    refine lv_iload_n hx hb dX9_add_17 rfl (lv_at hl 1 rfl) ?_
    obtain ⟨g_2, h⟩ := zk_gd h
    obtain ⟨f_3, ef_3, h⟩ := zk_lt h
    refine va_iast hx hb hK hP hD hS 1 0 rfl rfl g_2 dX9_add_18 (fun H locs hP hD hS => ?_)
    have hP : va_P D classes (wl_X9_add ad cs tape_size f_3) H := by rw [ef_3]; exact hP
    have hD : va_D A (wl_X9_add ad cs tape_size f_3) := by rw [ef_3]; exact hD
    refine lv_aload_n hx hb dX9_add_19 rfl (lv_at hl 0 rfl) ?_
    refine lv_dup hx hb dX9_add_20 rfl ?_
    refine va_get (D := D) (ci := 9) (v := .int tape_size) (C := RX9) (T := TX9) (N := 2) hx hb ht iX9 hown hK hP 0 rfl rfl 1 (by decide) (ht _ kw_237) (fun _ h9 => h9) rfl dX9_add_21 ?_
    refine lv_iconst (v := (1 : Int32)) hx hb dX9_add_24 (by decide) ?_
    refine lv_iadd hx hb dX9_add_25 ?_
    obtain ⟨v_4, ev_4, h⟩ := zk_lt h
    refine W.eq (g2 := F0 m 26 ls [.int v_4, .ref (ad 23)]) (by rw [ev_4]) ?_
    refine va_put (D := D) (ci := 9) (v := .int v_4) (ty := .int) (C := RX9) (T := TX9) (N := 2) hx hb ht iX9 tyX9 tyX9_ok nmX9 hown hK hP hD hS 0 rfl rfl 1 (by decide) (ht _ kw_237) (fun _ h9 => h9) rfl (by decide +kernel) rfl rfl (Nat.le_of_ble_eq_true rfl) dX9_add_26 (fun H locs hP hD hS => ?_)
    have hP : va_P D classes (wl_X9_add ad cs v_4 f_3) H := hP
    have hD : va_D A (wl_X9_add ad cs v_4 f_3) := hD
    exact W.vret hx hb hr (fun t ht2 hW => ⟨⟨(v_4, f_3), rfl, Option.some.inj h, by rw [ht2]; exact hP, hD⟩, hS.F ht2⟩) hS.2.2 dX9_add_29 hlocks
set_option maxHeartbeats 4000000 in
set_option maxRecDepth 100000 in
theorem c_X9_add (l : Launch) (D : va_G) (cs : Nat → ClassId) (ad : Nat → Nat) (sz : Nat) (x1 : Int32) (tape_size : Int32) (tape_bytes : Nat → Int32) (R : Int32 × (Nat → Int32)) (h : f_X9_add   x1 tape_size tape_bytes = some R) : Met l yX9_add (z_X9_add) rm_X9_add (va_Pc [.ref (ad 23), .int x1] (zPre D cs (wl_X9_add ad cs tape_size tape_bytes) sz)) (Q_X9_add D cs ad  (va_A (wl_X9_add ad cs tape_size tape_bytes) sz) R) 0 0 (va_A (wl_X9_add ad cs tape_size tape_bytes) sz) := by
  refine Met.ofW (cc := cX9_add) (maxL := 2) (ret := none) (by decide) rfl ?_
  intro p e s m args below meth c s₁ B hml hv
  obtain ⟨rfl, hsz, hP, hK, hD0⟩ := hv
  subst hsz
  have hD := hD0.self (sz := s.heap.size)
  have C0 : zC p s m _ meth c cX9_add 2 none RX9 zW := ⟨B.exec, B.bytes, B.returns, hml, findClass_of_methodNamed B.named, fun w hw => atoms_spec (ws := z_X9_add) B.pre w (List.mem_cons_of_mem _ hw), B.notSynchronized⟩
  have hA : ∀ q : Nat, s.heap.size ≤ q → va_A (wl_X9_add ad cs tape_size tape_bytes) s.heap.size q := fun q h => Or.inr h
  have hl := lv_entry ([.ref (ad 23), .int x1]) (n := 2) (Nat.le_of_ble_eq_true rfl)
  rw [lg_entry_eq]
  generalize (lg_sl ([.ref (ad 23), .int x1]) ++ List.replicate (2 - (lg_sl ([.ref (ad 23), .int x1])).length) Slot.unset).toArray = ls at hl ⊢
  exact L_X9_add_0 C0 hK hA   x1 tape_size tape_bytes h s.heap [] ls hP hD va_S.rf hl
theorem zh_cX9_byteAt_0 : zck [27, 155, 0, 26, 27, 42, 180, 0, 15, 162, 0, 18, 27, 16, 120, 162, 0, 12, 42, 180, 0, 9] (zdu 0 cX9_byteAt.data.toList) = true := by decide +kernel
theorem dX9_byteAt_0 : decode cX9_byteAt 0 = .ok (.iload_n 1, 1) := zo_27 zh_cX9_byteAt_0 0 rfl
theorem dX9_byteAt_1 : decode cX9_byteAt 1 = .ok (.ifCond .lt 26, 3) := zo_p155 zh_cX9_byteAt_0 1 26 rfl rfl
theorem dX9_byteAt_4 : decode cX9_byteAt 4 = .ok (.iload_n 1, 1) := zo_27 zh_cX9_byteAt_0 4 rfl
theorem dX9_byteAt_5 : decode cX9_byteAt 5 = .ok (.aload_n 0, 1) := zo_42 zh_cX9_byteAt_0 5 rfl
theorem dX9_byteAt_6 : decode cX9_byteAt 6 = .ok (.getfield 15, 3) := zo_180 zh_cX9_byteAt_0 6 rfl
theorem dX9_byteAt_9 : decode cX9_byteAt 9 = .ok (.if_icmp .ge 18, 3) := zo_p162 zh_cX9_byteAt_0 9 18 rfl rfl
theorem dX9_byteAt_12 : decode cX9_byteAt 12 = .ok (.iload_n 1, 1) := zo_27 zh_cX9_byteAt_0 12 rfl
theorem dX9_byteAt_13 : decode cX9_byteAt 13 = .ok (.bipush 120, 2) := zo_p16 zh_cX9_byteAt_0 13 120 rfl rfl
theorem dX9_byteAt_15 : decode cX9_byteAt 15 = .ok (.if_icmp .ge 12, 3) := zo_p162 zh_cX9_byteAt_0 15 12 rfl rfl
theorem dX9_byteAt_18 : decode cX9_byteAt 18 = .ok (.aload_n 0, 1) := zo_42 zh_cX9_byteAt_0 18 rfl
theorem dX9_byteAt_19 : decode cX9_byteAt 19 = .ok (.getfield 9, 3) := zo_180 zh_cX9_byteAt_0 19 rfl
theorem zh_cX9_byteAt_1 : zck [0, 9, 27, 46, 167, 0, 4, 2, 172] (zdu 20 cX9_byteAt.data.toList) = true := by decide +kernel
theorem dX9_byteAt_22 : decode cX9_byteAt 22 = .ok (.iload_n 1, 1) := zo_27 zh_cX9_byteAt_1 2 rfl
theorem dX9_byteAt_23 : decode cX9_byteAt 23 = .ok (.iaload, 1) := zo_46 zh_cX9_byteAt_1 3 rfl
theorem dX9_byteAt_24 : decode cX9_byteAt 24 = .ok (.goto 4, 3) := zo_p167 zh_cX9_byteAt_1 4 4 rfl rfl
theorem dX9_byteAt_27 : decode cX9_byteAt 27 = .ok (.iconst (-1), 1) := zo_2 zh_cX9_byteAt_1 7 rfl
theorem dX9_byteAt_28 : decode cX9_byteAt 28 = .ok (.ireturn, 1) := zo_172 zh_cX9_byteAt_1 8 rfl
abbrev z_X9_byteAt : List Cond := .code yX9_byteAt cX9_byteAt 2 (some .int) :: zW
abbrev wl_X9_byteAt (ad : Nat → Nat) (cs : Nat → ClassId)  (tape_size : Int32) (tape_bytes : Nat → Int32) : va_W := [((ad 23), .inr (9, [.ref (ad 24), .int tape_size])), ((ad 24), .inl (cs 0, 120, .inl tape_bytes))]
def Q_X9_byteAt (D : va_G) (cs : Nat → ClassId) (ad : Nat → Nat)  (tape_size : Int32) (tape_bytes : Nat → Int32) (A : Nat → Prop) (R : Int32 × Unit) : Array Value → State → Outcome → State → Prop :=
  va_Qi (fun (r : Int32) (u : Unit) => (r, u) = R) (fun (u : Unit) (t : State) => va_P D classes (wl_X9_byteAt ad cs tape_size tape_bytes) t.heap ∧ va_D A (wl_X9_byteAt ad cs tape_size tape_bytes)) A
abbrev rm_X9_byteAt : Room := { frames := 0, cells := 0, slots := 0, locals := 0 }
def B_X9_byteAt_0    (tape_size : Int32) (tape_bytes : Nat → Int32) (x1 : Int32) : Option (Int32 × Unit) :=
  (if x1 < 0 then (some ((-1 : Int32), ())) else (if tape_size ≤ x1 then (some ((-1 : Int32), ())) else (if (120 : Int32) ≤ x1 then (some ((-1 : Int32), ())) else (if (x1 < 0 ∨ 120 ≤ x1.toNatClampNeg) then none else (some (tape_bytes x1.toNatClampNeg, ()))))))
def f_X9_byteAt   (x1 : Int32) (tape_size : Int32) (tape_bytes : Nat → Int32) : Option (Int32 × Unit) := B_X9_byteAt_0   tape_size tape_bytes x1 
set_option maxHeartbeats 4000000 in
set_option maxRecDepth 100000 in
theorem L_X9_byteAt_0 {p : Program} {l : Launch} {e : Env} {s : State} {m : MethodId} {args : Array Value} {below : List Frame} {meth : Method} {c : Code} {A : Nat → Prop} {D : va_G} {cs : Nat → ClassId} {ad : Nat → Nat} {tape_size : Int32} {tape_bytes : Nat → Int32} {R : Int32 × Unit} (C0 : zC p s m args meth c cX9_byteAt 2 (some .int) RX9 zW) (hK : va_K D classes (zT cs) s) (hA : ∀ q : Nat, s.heap.size ≤ q → A q) (x1 : Int32) (h : B_X9_byteAt_0 tape_size tape_bytes x1 = some R) (H : Heap) (locs : List Loc) (ls : Array Slot) (hP : va_P D classes (wl_X9_byteAt ad cs tape_size tape_bytes) H) (hD : va_D A (wl_X9_byteAt ad cs tape_size tape_bytes)) (hS : va_S A s.heap H locs) (hl : lv_has ls 2 [(0, .ref (ad 23)), (1, .int x1)]) : W p l e rm_X9_byteAt s m args below meth c H locs 0 0 (MQ below (Q_X9_byteAt D cs ad tape_size tape_bytes A R) args s 0 0 A) (F0 m 0 ls []) := by
  obtain ⟨hx, hb, hr, hml, hown, ht, hlocks⟩ := id C0
  refine lv_iload_n hx hb dX9_byteAt_0 rfl (lv_at hl 1 rfl) ?_
  refine lv_if_lt (tgt := 27) hx hb dX9_byteAt_1 (by decide) (fun c_1 => ?_) (fun c_1 => ?_)
  · have h := zk_t c_1 h
    refine lv_iconst (v := (-1 : Int32)) hx hb dX9_byteAt_27 (by decide) ?_
    exact W.iret (v := (-1 : Int32)) hx hb hr (fun t ht2 hW => ⟨⟨(-1 : Int32), (), rfl, Option.some.inj h, by rw [ht2]; exact hP, hD⟩, hS.F ht2⟩) hS.2.2 dX9_byteAt_28 hlocks
  · have h := zk_f c_1 h
    refine lv_iload_n hx hb dX9_byteAt_4 rfl (lv_at hl 1 rfl) ?_
    refine lv_aload_n hx hb dX9_byteAt_5 rfl (lv_at hl 0 rfl) ?_
    refine va_get (D := D) (ci := 9) (v := .int tape_size) (C := RX9) (T := TX9) (N := 2) hx hb ht iX9 hown hK hP 0 rfl rfl 1 (by decide) (ht _ kw_237) (fun _ h9 => h9) rfl dX9_byteAt_6 ?_
    refine lv_icmp_ge (tgt := 27) hx hb dX9_byteAt_9 (by decide) (fun c_2 => ?_) (fun c_2 => ?_)
    · have h := zk_t c_2 h
      refine lv_iconst (v := (-1 : Int32)) hx hb dX9_byteAt_27 (by decide) ?_
      exact W.iret (v := (-1 : Int32)) hx hb hr (fun t ht2 hW => ⟨⟨(-1 : Int32), (), rfl, Option.some.inj h, by rw [ht2]; exact hP, hD⟩, hS.F ht2⟩) hS.2.2 dX9_byteAt_28 hlocks
    · have h := zk_f c_2 h
      refine lv_iload_n hx hb dX9_byteAt_12 rfl (lv_at hl 1 rfl) ?_
      refine lv_bipush (v := (120 : Int32)) hx hb dX9_byteAt_13 (by decide) ?_
      refine lv_icmp_ge (tgt := 27) hx hb dX9_byteAt_15 (by decide) (fun c_3 => ?_) (fun c_3 => ?_)
      · have h := zk_t c_3 h
        refine lv_iconst (v := (-1 : Int32)) hx hb dX9_byteAt_27 (by decide) ?_
        exact W.iret (v := (-1 : Int32)) hx hb hr (fun t ht2 hW => ⟨⟨(-1 : Int32), (), rfl, Option.some.inj h, by rw [ht2]; exact hP, hD⟩, hS.F ht2⟩) hS.2.2 dX9_byteAt_28 hlocks
      · have h := zk_f c_3 h
        refine lv_aload_n hx hb dX9_byteAt_18 rfl (lv_at hl 0 rfl) ?_
        refine va_get (D := D) (ci := 9) (v := .ref (ad 24)) (C := RX9) (T := TX9) (N := 2) hx hb ht iX9 hown hK hP 0 rfl rfl 0 (by decide) (ht _ kw_235) (fun _ h9 => h9) rfl dX9_byteAt_19 ?_
        refine lv_iload_n hx hb dX9_byteAt_22 rfl (lv_at hl 1 rfl) ?_
        obtain ⟨g_4, h⟩ := zk_gd h
        refine va_iald hx hb hK hP 1 0 rfl rfl g_4 dX9_byteAt_23 ?_
        refine lv_goto (tgt := 28) hx hb dX9_byteAt_24 (by decide) ?_
        exact W.iret (v := tape_bytes x1.toNatClampNeg) hx hb hr (fun t ht2 hW => ⟨⟨tape_bytes x1.toNatClampNeg, (), rfl, Option.some.inj h, by rw [ht2]; exact hP, hD⟩, hS.F ht2⟩) hS.2.2 dX9_byteAt_28 hlocks
set_option maxHeartbeats 4000000 in
set_option maxRecDepth 100000 in
theorem c_X9_byteAt (l : Launch) (D : va_G) (cs : Nat → ClassId) (ad : Nat → Nat) (sz : Nat) (x1 : Int32) (tape_size : Int32) (tape_bytes : Nat → Int32) (R : Int32 × Unit) (h : f_X9_byteAt   x1 tape_size tape_bytes = some R) : Met l yX9_byteAt (z_X9_byteAt) rm_X9_byteAt (va_Pc [.ref (ad 23), .int x1] (zPre D cs (wl_X9_byteAt ad cs tape_size tape_bytes) sz)) (Q_X9_byteAt D cs ad tape_size tape_bytes (va_A (wl_X9_byteAt ad cs tape_size tape_bytes) sz) R) 0 0 (va_A (wl_X9_byteAt ad cs tape_size tape_bytes) sz) := by
  refine Met.ofW (cc := cX9_byteAt) (maxL := 2) (ret := (some .int)) (by decide) rfl ?_
  intro p e s m args below meth c s₁ B hml hv
  obtain ⟨rfl, hsz, hP, hK, hD0⟩ := hv
  subst hsz
  have hD := hD0.self (sz := s.heap.size)
  have C0 : zC p s m _ meth c cX9_byteAt 2 (some .int) RX9 zW := ⟨B.exec, B.bytes, B.returns, hml, findClass_of_methodNamed B.named, fun w hw => atoms_spec (ws := z_X9_byteAt) B.pre w (List.mem_cons_of_mem _ hw), B.notSynchronized⟩
  have hA : ∀ q : Nat, s.heap.size ≤ q → va_A (wl_X9_byteAt ad cs tape_size tape_bytes) s.heap.size q := fun q h => Or.inr h
  have hl := lv_entry ([.ref (ad 23), .int x1]) (n := 2) (Nat.le_of_ble_eq_true rfl)
  rw [lg_entry_eq]
  generalize (lg_sl ([.ref (ad 23), .int x1]) ++ List.replicate (2 - (lg_sl ([.ref (ad 23), .int x1])).length) Slot.unset).toArray = ls at hl ⊢
  exact L_X9_byteAt_0 C0 hK hA   x1  h s.heap [] ls hP hD va_S.rf hl
theorem kw_78 : Cond.initialized RX9 ∈ zW := zwC (i := 4) zc_1 rfl rfl
theorem kw_554 : Cond.instanceMethod yX9_byteAt ∈ zW := zwC (i := 0) zc_3 rfl rfl
theorem kw_555 : Cond.selects RX9 yX9_byteAt yX9_byteAt ∈ zW := zwC (i := 1) zc_3 rfl rfl
theorem kw_556 : Cond.code yX9_byteAt cX9_byteAt 2 (some .int) ∈ zW := zwC (i := 2) zc_3 rfl rfl
theorem kw_561 : Cond.methodLink RX9 33 yX9_byteAt ∈ zW := zwC (i := 7) zc_3 rfl rfl
theorem zh_cX9_isDigitAt_0 : zck [42, 27, 182, 0, 33, 61, 28, 16, 48, 161, 0, 13, 28, 16, 57, 163, 0, 7, 4, 167, 0, 4] (zdu 0 cX9_isDigitAt.data.toList) = true := by decide +kernel
theorem dX9_isDigitAt_0 : decode cX9_isDigitAt 0 = .ok (.aload_n 0, 1) := zo_42 zh_cX9_isDigitAt_0 0 rfl
theorem dX9_isDigitAt_1 : decode cX9_isDigitAt 1 = .ok (.iload_n 1, 1) := zo_27 zh_cX9_isDigitAt_0 1 rfl
theorem dX9_isDigitAt_2 : decode cX9_isDigitAt 2 = .ok (.invokevirtual 33, 3) := zo_182 zh_cX9_isDigitAt_0 2 rfl
theorem dX9_isDigitAt_5 : decode cX9_isDigitAt 5 = .ok (.istore_n 2, 1) := zo_61 zh_cX9_isDigitAt_0 5 rfl
theorem dX9_isDigitAt_6 : decode cX9_isDigitAt 6 = .ok (.iload_n 2, 1) := zo_28 zh_cX9_isDigitAt_0 6 rfl
theorem dX9_isDigitAt_7 : decode cX9_isDigitAt 7 = .ok (.bipush 48, 2) := zo_p16 zh_cX9_isDigitAt_0 7 48 rfl rfl
theorem dX9_isDigitAt_9 : decode cX9_isDigitAt 9 = .ok (.if_icmp .lt 13, 3) := zo_p161 zh_cX9_isDigitAt_0 9 13 rfl rfl
theorem dX9_isDigitAt_12 : decode cX9_isDigitAt 12 = .ok (.iload_n 2, 1) := zo_28 zh_cX9_isDigitAt_0 12 rfl
theorem dX9_isDigitAt_13 : decode cX9_isDigitAt 13 = .ok (.bipush 57, 2) := zo_p16 zh_cX9_isDigitAt_0 13 57 rfl rfl
theorem dX9_isDigitAt_15 : decode cX9_isDigitAt 15 = .ok (.if_icmp .gt 7, 3) := zo_p163 zh_cX9_isDigitAt_0 15 7 rfl rfl
theorem dX9_isDigitAt_18 : decode cX9_isDigitAt 18 = .ok (.iconst 1, 1) := zo_4 zh_cX9_isDigitAt_0 18 rfl
theorem dX9_isDigitAt_19 : decode cX9_isDigitAt 19 = .ok (.goto 4, 3) := zo_p167 zh_cX9_isDigitAt_0 19 4 rfl rfl
theorem zh_cX9_isDigitAt_1 : zck [0, 4, 3, 172] (zdu 20 cX9_isDigitAt.data.toList) = true := by decide +kernel
theorem dX9_isDigitAt_22 : decode cX9_isDigitAt 22 = .ok (.iconst 0, 1) := zo_3 zh_cX9_isDigitAt_1 2 rfl
theorem dX9_isDigitAt_23 : decode cX9_isDigitAt 23 = .ok (.ireturn, 1) := zo_172 zh_cX9_isDigitAt_1 3 rfl
abbrev z_X9_isDigitAt : List Cond := .code yX9_isDigitAt cX9_isDigitAt 3 (some .boolean) :: zW
abbrev wl_X9_isDigitAt (ad : Nat → Nat) (cs : Nat → ClassId)  (tape_size : Int32) (tape_bytes : Nat → Int32) : va_W := [((ad 23), .inr (9, [.ref (ad 24), .int tape_size])), ((ad 24), .inl (cs 0, 120, .inl tape_bytes))]
def Q_X9_isDigitAt (D : va_G) (cs : Nat → ClassId) (ad : Nat → Nat)  (tape_size : Int32) (tape_bytes : Nat → Int32) (A : Nat → Prop) (R : Int32 × Unit) : Array Value → State → Outcome → State → Prop :=
  va_Qi (fun (r : Int32) (u : Unit) => (r, u) = R) (fun (u : Unit) (t : State) => va_P D classes (wl_X9_isDigitAt ad cs tape_size tape_bytes) t.heap ∧ va_D A (wl_X9_isDigitAt ad cs tape_size tape_bytes)) A
abbrev rm_X9_isDigitAt : Room := { frames := 1, cells := 0, slots := 0, locals := 21 }
theorem g_X9_33 : GoodIn zW (wsV RX9 33 RX9 yX9_byteAt z_X9_byteAt) := zGV kw_561 kw_554 kw_555 kw_78 kw_556
theorem hd_X9_byteAt : yX9_byteAt.cls ≠ "java/lang/invoke/MethodHandle" ∧ yX9_byteAt.cls ≠ "java/lang/invoke/VarHandle" ∧ (parseMethodDescriptor yX9_byteAt.desc).map (fun d => d.parameters.length) = some 1 := by decide +kernel
def B_X9_isDigitAt_0    (tape_size : Int32) (tape_bytes : Nat → Int32) (x1 : Int32) : Option (Int32 × Unit) :=
  (zk_b2 (f_X9_byteAt x1 tape_size tape_bytes) (fun r_1 u_2 => (if r_1 < (48 : Int32) then (some ((0 : Int32), ())) else (if (57 : Int32) < r_1 then (some ((0 : Int32), ())) else (some ((1 : Int32), ()))))))
def f_X9_isDigitAt   (x1 : Int32) (tape_size : Int32) (tape_bytes : Nat → Int32) : Option (Int32 × Unit) := B_X9_isDigitAt_0   tape_size tape_bytes x1 
set_option maxHeartbeats 4000000 in
set_option maxRecDepth 100000 in
theorem L_X9_isDigitAt_0 {p : Program} {l : Launch} {e : Env} {s : State} {m : MethodId} {args : Array Value} {below : List Frame} {meth : Method} {c : Code} {A : Nat → Prop} {D : va_G} {cs : Nat → ClassId} {ad : Nat → Nat} {tape_size : Int32} {tape_bytes : Nat → Int32} {R : Int32 × Unit} (C0 : zC p s m args meth c cX9_isDigitAt 3 (some .boolean) RX9 zW) (hK : va_K D classes (zT cs) s) (hA : ∀ q : Nat, s.heap.size ≤ q → A q) (x1 : Int32) (h : B_X9_isDigitAt_0 tape_size tape_bytes x1 = some R) (H : Heap) (locs : List Loc) (ls : Array Slot) (hP : va_P D classes (wl_X9_isDigitAt ad cs tape_size tape_bytes) H) (hD : va_D A (wl_X9_isDigitAt ad cs tape_size tape_bytes)) (hS : va_S A s.heap H locs) (hl : lv_has ls 3 [(0, .ref (ad 23)), (1, .int x1)]) : W p l e rm_X9_isDigitAt s m args below meth c H locs 0 0 (MQ below (Q_X9_isDigitAt D cs ad tape_size tape_bytes A R) args s 0 0 A) (F0 m 0 ls []) := by
  obtain ⟨hx, hb, hr, hml, hown, ht, hlocks⟩ := id C0
  refine lv_aload_n hx hb dX9_isDigitAt_0 rfl (lv_at hl 0 rfl) ?_
  refine lv_iload_n hx hb dX9_isDigitAt_1 rfl (lv_at hl 1 rfl) ?_
  obtain ⟨r_1, u_2, hc_3, h⟩ := zk_o2 h
  refine zz_vi (post := (fun r u => (r, u) = (r_1, u_2))) (w1 := fun u => (wl_X9_byteAt ad cs tape_size tape_bytes)) (As := [.int x1]) (rest := []) (c_X9_byteAt l D cs ad  H.size x1 tape_size tape_bytes (r_1, u_2) hc_3) ⟨hx, hb, hml, hown, ht⟩ (cwV 1 ht g_X9_33 rfl rfl rfl ⟨rfl, hd_X9_byteAt⟩ ⟨Nat.le_of_ble_eq_true rfl, Nat.le_of_ble_eq_true rfl⟩) (va_recv hK hP (ci := 9) (q0 := 0) rfl rfl) hP hD hS hK hA [0, 1] rfl rfl [(ad 23), (ad 24)] rfl (fun _ => rfl) rfl hl.1 (Nat.le_of_ble_eq_true rfl) dX9_isDigitAt_2 ⟨Nat.zero_le _, Nat.zero_le _⟩ (fun r u H locs hq hP hS => ?_)
  cases hq
  have hP : va_P D classes (wl_X9_isDigitAt ad cs tape_size tape_bytes) H := hP
  have hD : va_D A (wl_X9_isDigitAt ad cs tape_size tape_bytes) := zDk hD [(ad 23), (ad 24)] rfl rfl
  refine lv_istore_n (lv' := [(2, .int r_1), (0, .ref (ad 23)), (1, .int x1)]) hx hb dX9_isDigitAt_5 rfl hl (by decide) rfl (fun ls hl => ?_)
  refine lv_iload_n hx hb dX9_isDigitAt_6 rfl (lv_at hl 0 rfl) ?_
  refine lv_bipush (v := (48 : Int32)) hx hb dX9_isDigitAt_7 (by decide) ?_
  refine lv_icmp_lt (tgt := 22) hx hb dX9_isDigitAt_9 (by decide) (fun c_4 => ?_) (fun c_4 => ?_)
  · have h := zk_t c_4 h
    refine lv_iconst (v := (0 : Int32)) hx hb dX9_isDigitAt_22 (by decide) ?_
    exact W.zret (ty := .boolean) (v := (0 : Int32)) hx hb hr rfl (fun t ht2 hW => ⟨⟨(0 : Int32), (), rfl, Option.some.inj h, by rw [ht2]; exact hP, hD⟩, hS.F ht2⟩) hS.2.2 dX9_isDigitAt_23 hlocks
  · have h := zk_f c_4 h
    refine lv_iload_n hx hb dX9_isDigitAt_12 rfl (lv_at hl 0 rfl) ?_
    refine lv_bipush (v := (57 : Int32)) hx hb dX9_isDigitAt_13 (by decide) ?_
    refine lv_icmp_gt (tgt := 22) hx hb dX9_isDigitAt_15 (by decide) (fun c_5 => ?_) (fun c_5 => ?_)
    · have h := zk_t c_5 h
      refine lv_iconst (v := (0 : Int32)) hx hb dX9_isDigitAt_22 (by decide) ?_
      exact W.zret (ty := .boolean) (v := (0 : Int32)) hx hb hr rfl (fun t ht2 hW => ⟨⟨(0 : Int32), (), rfl, Option.some.inj h, by rw [ht2]; exact hP, hD⟩, hS.F ht2⟩) hS.2.2 dX9_isDigitAt_23 hlocks
    · have h := zk_f c_5 h
      refine lv_iconst (v := (1 : Int32)) hx hb dX9_isDigitAt_18 (by decide) ?_
      refine lv_goto (tgt := 23) hx hb dX9_isDigitAt_19 (by decide) ?_
      exact W.zret (ty := .boolean) (v := (1 : Int32)) hx hb hr rfl (fun t ht2 hW => ⟨⟨(1 : Int32), (), rfl, Option.some.inj h, by rw [ht2]; exact hP, hD⟩, hS.F ht2⟩) hS.2.2 dX9_isDigitAt_23 hlocks
set_option maxHeartbeats 4000000 in
set_option maxRecDepth 100000 in
theorem c_X9_isDigitAt (l : Launch) (D : va_G) (cs : Nat → ClassId) (ad : Nat → Nat) (sz : Nat) (x1 : Int32) (tape_size : Int32) (tape_bytes : Nat → Int32) (R : Int32 × Unit) (h : f_X9_isDigitAt   x1 tape_size tape_bytes = some R) : Met l yX9_isDigitAt (z_X9_isDigitAt) rm_X9_isDigitAt (va_Pc [.ref (ad 23), .int x1] (zPre D cs (wl_X9_isDigitAt ad cs tape_size tape_bytes) sz)) (Q_X9_isDigitAt D cs ad tape_size tape_bytes (va_A (wl_X9_isDigitAt ad cs tape_size tape_bytes) sz) R) 0 0 (va_A (wl_X9_isDigitAt ad cs tape_size tape_bytes) sz) := by
  refine Met.ofW (cc := cX9_isDigitAt) (maxL := 3) (ret := (some .boolean)) (by decide) rfl ?_
  intro p e s m args below meth c s₁ B hml hv
  obtain ⟨rfl, hsz, hP, hK, hD0⟩ := hv
  subst hsz
  have hD := hD0.self (sz := s.heap.size)
  have C0 : zC p s m _ meth c cX9_isDigitAt 3 (some .boolean) RX9 zW := ⟨B.exec, B.bytes, B.returns, hml, findClass_of_methodNamed B.named, fun w hw => atoms_spec (ws := z_X9_isDigitAt) B.pre w (List.mem_cons_of_mem _ hw), B.notSynchronized⟩
  have hA : ∀ q : Nat, s.heap.size ≤ q → va_A (wl_X9_isDigitAt ad cs tape_size tape_bytes) s.heap.size q := fun q h => Or.inr h
  have hl := lv_entry ([.ref (ad 23), .int x1]) (n := 3) (Nat.le_of_ble_eq_true rfl)
  rw [lg_entry_eq]
  generalize (lg_sl ([.ref (ad 23), .int x1]) ++ List.replicate (3 - (lg_sl ([.ref (ad 23), .int x1])).length) Slot.unset).toArray = ls at hl ⊢
  exact L_X9_isDigitAt_0 C0 hK hA   x1  h s.heap [] ls hP hD va_S.rf hl
theorem kw_75 : Cond.initialized RX11 ∈ zW := zwC (i := 1) zc_1 rfl rfl
theorem kw_738 : Cond.static yX11_isDay ∈ zW := zwC (i := 184) zc_3 rfl rfl
theorem kw_739 : Cond.code yX11_isDay cX11_isDay 1 (some .boolean) ∈ zW := zwC (i := 185) zc_3 rfl rfl
theorem zh_cX2_isShoe_0 : zck [26, 155, 0, 45, 26, 16, 20, 162, 0, 39, 27, 155, 0, 35, 27, 16, 20, 162, 0, 29, 26, 27] (zdu 0 cX2_isShoe.data.toList) = true := by decide +kernel
theorem dX2_isShoe_0 : decode cX2_isShoe 0 = .ok (.iload_n 0, 1) := zo_26 zh_cX2_isShoe_0 0 rfl
theorem dX2_isShoe_1 : decode cX2_isShoe 1 = .ok (.ifCond .lt 45, 3) := zo_p155 zh_cX2_isShoe_0 1 45 rfl rfl
theorem dX2_isShoe_4 : decode cX2_isShoe 4 = .ok (.iload_n 0, 1) := zo_26 zh_cX2_isShoe_0 4 rfl
theorem dX2_isShoe_5 : decode cX2_isShoe 5 = .ok (.bipush 20, 2) := zo_p16 zh_cX2_isShoe_0 5 20 rfl rfl
theorem dX2_isShoe_7 : decode cX2_isShoe 7 = .ok (.if_icmp .ge 39, 3) := zo_p162 zh_cX2_isShoe_0 7 39 rfl rfl
theorem dX2_isShoe_10 : decode cX2_isShoe 10 = .ok (.iload_n 1, 1) := zo_27 zh_cX2_isShoe_0 10 rfl
theorem dX2_isShoe_11 : decode cX2_isShoe 11 = .ok (.ifCond .lt 35, 3) := zo_p155 zh_cX2_isShoe_0 11 35 rfl rfl
theorem dX2_isShoe_14 : decode cX2_isShoe 14 = .ok (.iload_n 1, 1) := zo_27 zh_cX2_isShoe_0 14 rfl
theorem dX2_isShoe_15 : decode cX2_isShoe 15 = .ok (.bipush 20, 2) := zo_p16 zh_cX2_isShoe_0 15 20 rfl rfl
theorem dX2_isShoe_17 : decode cX2_isShoe 17 = .ok (.if_icmp .ge 29, 3) := zo_p162 zh_cX2_isShoe_0 17 29 rfl rfl
theorem zh_cX2_isShoe_1 : zck [26, 27, 159, 0, 24, 28, 4, 161, 0, 19, 28, 8, 163, 0, 14, 29, 184, 0, 48, 153, 0, 7] (zdu 20 cX2_isShoe.data.toList) = true := by decide +kernel
theorem dX2_isShoe_20 : decode cX2_isShoe 20 = .ok (.iload_n 0, 1) := zo_26 zh_cX2_isShoe_1 0 rfl
theorem dX2_isShoe_21 : decode cX2_isShoe 21 = .ok (.iload_n 1, 1) := zo_27 zh_cX2_isShoe_1 1 rfl
theorem dX2_isShoe_22 : decode cX2_isShoe 22 = .ok (.if_icmp .eq 24, 3) := zo_p159 zh_cX2_isShoe_1 2 24 rfl rfl
theorem dX2_isShoe_25 : decode cX2_isShoe 25 = .ok (.iload_n 2, 1) := zo_28 zh_cX2_isShoe_1 5 rfl
theorem dX2_isShoe_26 : decode cX2_isShoe 26 = .ok (.iconst 1, 1) := zo_4 zh_cX2_isShoe_1 6 rfl
theorem dX2_isShoe_27 : decode cX2_isShoe 27 = .ok (.if_icmp .lt 19, 3) := zo_p161 zh_cX2_isShoe_1 7 19 rfl rfl
theorem dX2_isShoe_30 : decode cX2_isShoe 30 = .ok (.iload_n 2, 1) := zo_28 zh_cX2_isShoe_1 10 rfl
theorem dX2_isShoe_31 : decode cX2_isShoe 31 = .ok (.iconst 5, 1) := zo_8 zh_cX2_isShoe_1 11 rfl
theorem dX2_isShoe_32 : decode cX2_isShoe 32 = .ok (.if_icmp .gt 14, 3) := zo_p163 zh_cX2_isShoe_1 12 14 rfl rfl
theorem dX2_isShoe_35 : decode cX2_isShoe 35 = .ok (.iload_n 3, 1) := zo_29 zh_cX2_isShoe_1 15 rfl
theorem dX2_isShoe_36 : decode cX2_isShoe 36 = .ok (.invokestatic 48, 3) := zo_184 zh_cX2_isShoe_1 16 rfl
theorem dX2_isShoe_39 : decode cX2_isShoe 39 = .ok (.ifCond .eq 7, 3) := zo_p153 zh_cX2_isShoe_1 19 7 rfl rfl
theorem zh_cX2_isShoe_2 : zck [0, 7, 4, 167, 0, 4, 3, 172] (zdu 40 cX2_isShoe.data.toList) = true := by decide +kernel
theorem dX2_isShoe_42 : decode cX2_isShoe 42 = .ok (.iconst 1, 1) := zo_4 zh_cX2_isShoe_2 2 rfl
theorem dX2_isShoe_43 : decode cX2_isShoe 43 = .ok (.goto 4, 3) := zo_p167 zh_cX2_isShoe_2 3 4 rfl rfl
theorem dX2_isShoe_46 : decode cX2_isShoe 46 = .ok (.iconst 0, 1) := zo_3 zh_cX2_isShoe_2 6 rfl
theorem dX2_isShoe_47 : decode cX2_isShoe 47 = .ok (.ireturn, 1) := zo_172 zh_cX2_isShoe_2 7 rfl
abbrev z_X2_isShoe : List Cond := .code yX2_isShoe cX2_isShoe 4 (some .boolean) :: zW
abbrev wl_X2_isShoe (ad : Nat → Nat) (cs : Nat → ClassId)   : va_W := []
def Q_X2_isShoe (D : va_G) (cs : Nat → ClassId) (ad : Nat → Nat)   (A : Nat → Prop) (R : Int32 × Unit) : Array Value → State → Outcome → State → Prop :=
  va_Qi (fun (r : Int32) (u : Unit) => (r, u) = R) (fun (u : Unit) (t : State) => va_P D classes (wl_X2_isShoe ad cs ) t.heap ∧ va_D A (wl_X2_isShoe ad cs )) A
abbrev rm_X2_isShoe : Room := { frames := 1, cells := 0, slots := 0, locals := 20 }
theorem g_X2_48 : GoodIn zW (z_X11_isDay) := zGN kw_739
theorem hd_X11_isDay : yX11_isDay.cls ≠ "java/lang/invoke/MethodHandle" ∧ yX11_isDay.cls ≠ "java/lang/invoke/VarHandle" ∧ (parseMethodDescriptor yX11_isDay.desc).map (fun d => d.parameters.length) = some 1 := by decide +kernel
def B_X2_isShoe_0     (x0 : Int32) (x1 : Int32) (x2 : Int32) (x3 : Int32) : Option (Int32 × Unit) :=
  (if x0 < 0 then (some ((0 : Int32), ())) else (if (20 : Int32) ≤ x0 then (some ((0 : Int32), ())) else (if x1 < 0 then (some ((0 : Int32), ())) else (if (20 : Int32) ≤ x1 then (some ((0 : Int32), ())) else (if x0 = x1 then (some ((0 : Int32), ())) else (if x2 < (1 : Int32) then (some ((0 : Int32), ())) else (if (5 : Int32) < x2 then (some ((0 : Int32), ())) else (zk_b2 (f_X11_isDay x3) (fun r_8 u_9 => (if r_8 = 0 then (some ((0 : Int32), ())) else (some ((1 : Int32), ()))))))))))))
def f_X2_isShoe   (x0 : Int32) (x1 : Int32) (x2 : Int32) (x3 : Int32)  : Option (Int32 × Unit) := B_X2_isShoe_0    x0 x1 x2 x3 
set_option maxHeartbeats 4000000 in
set_option maxRecDepth 100000 in
theorem L_X2_isShoe_0 {p : Program} {l : Launch} {e : Env} {s : State} {m : MethodId} {args : Array Value} {below : List Frame} {meth : Method} {c : Code} {A : Nat → Prop} {D : va_G} {cs : Nat → ClassId} {ad : Nat → Nat} {R : Int32 × Unit} (C0 : zC p s m args meth c cX2_isShoe 4 (some .boolean) RX2 zW) (hK : va_K D classes (zT cs) s) (hO : zO s) (hA : ∀ q : Nat, s.heap.size ≤ q → A q) (x0 : Int32) (x1 : Int32) (x2 : Int32) (x3 : Int32) (h : B_X2_isShoe_0 x0 x1 x2 x3 = some R) (H : Heap) (locs : List Loc) (ls : Array Slot) (hP : va_P D classes (wl_X2_isShoe ad cs ) H) (hD : va_D A (wl_X2_isShoe ad cs )) (hS : va_S A s.heap H locs) (hl : lv_has ls 4 [(0, .int x0), (1, .int x1), (2, .int x2), (3, .int x3)]) : W p l e rm_X2_isShoe s m args below meth c H locs 0 0 (MQ below (Q_X2_isShoe D cs ad  A R) args s 0 0 A) (F0 m 0 ls []) := by
  obtain ⟨hx, hb, hr, hml, hown, ht, hlocks⟩ := id C0
  refine lv_iload_n hx hb dX2_isShoe_0 rfl (lv_at hl 0 rfl) ?_
  refine lv_if_lt (tgt := 46) hx hb dX2_isShoe_1 (by decide) (fun c_1 => ?_) (fun c_1 => ?_)
  · have h := zk_t c_1 h
    refine lv_iconst (v := (0 : Int32)) hx hb dX2_isShoe_46 (by decide) ?_
    exact W.zret (ty := .boolean) (v := (0 : Int32)) hx hb hr rfl (fun t ht2 hW => ⟨⟨(0 : Int32), (), rfl, Option.some.inj h, by rw [ht2]; exact hP, hD⟩, hS.F ht2⟩) hS.2.2 dX2_isShoe_47 hlocks
  · have h := zk_f c_1 h
    refine lv_iload_n hx hb dX2_isShoe_4 rfl (lv_at hl 0 rfl) ?_
    refine lv_bipush (v := (20 : Int32)) hx hb dX2_isShoe_5 (by decide) ?_
    refine lv_icmp_ge (tgt := 46) hx hb dX2_isShoe_7 (by decide) (fun c_2 => ?_) (fun c_2 => ?_)
    · have h := zk_t c_2 h
      refine lv_iconst (v := (0 : Int32)) hx hb dX2_isShoe_46 (by decide) ?_
      exact W.zret (ty := .boolean) (v := (0 : Int32)) hx hb hr rfl (fun t ht2 hW => ⟨⟨(0 : Int32), (), rfl, Option.some.inj h, by rw [ht2]; exact hP, hD⟩, hS.F ht2⟩) hS.2.2 dX2_isShoe_47 hlocks
    · have h := zk_f c_2 h
      refine lv_iload_n hx hb dX2_isShoe_10 rfl (lv_at hl 1 rfl) ?_
      refine lv_if_lt (tgt := 46) hx hb dX2_isShoe_11 (by decide) (fun c_3 => ?_) (fun c_3 => ?_)
      · have h := zk_t c_3 h
        refine lv_iconst (v := (0 : Int32)) hx hb dX2_isShoe_46 (by decide) ?_
        exact W.zret (ty := .boolean) (v := (0 : Int32)) hx hb hr rfl (fun t ht2 hW => ⟨⟨(0 : Int32), (), rfl, Option.some.inj h, by rw [ht2]; exact hP, hD⟩, hS.F ht2⟩) hS.2.2 dX2_isShoe_47 hlocks
      · have h := zk_f c_3 h
        refine lv_iload_n hx hb dX2_isShoe_14 rfl (lv_at hl 1 rfl) ?_
        refine lv_bipush (v := (20 : Int32)) hx hb dX2_isShoe_15 (by decide) ?_
        refine lv_icmp_ge (tgt := 46) hx hb dX2_isShoe_17 (by decide) (fun c_4 => ?_) (fun c_4 => ?_)
        · have h := zk_t c_4 h
          refine lv_iconst (v := (0 : Int32)) hx hb dX2_isShoe_46 (by decide) ?_
          exact W.zret (ty := .boolean) (v := (0 : Int32)) hx hb hr rfl (fun t ht2 hW => ⟨⟨(0 : Int32), (), rfl, Option.some.inj h, by rw [ht2]; exact hP, hD⟩, hS.F ht2⟩) hS.2.2 dX2_isShoe_47 hlocks
        · have h := zk_f c_4 h
          refine lv_iload_n hx hb dX2_isShoe_20 rfl (lv_at hl 0 rfl) ?_
          refine lv_iload_n hx hb dX2_isShoe_21 rfl (lv_at hl 1 rfl) ?_
          refine lv_icmp_eq (tgt := 46) hx hb dX2_isShoe_22 (by decide) (fun c_5 => ?_) (fun c_5 => ?_)
          · have h := zk_t c_5 h
            refine lv_iconst (v := (0 : Int32)) hx hb dX2_isShoe_46 (by decide) ?_
            exact W.zret (ty := .boolean) (v := (0 : Int32)) hx hb hr rfl (fun t ht2 hW => ⟨⟨(0 : Int32), (), rfl, Option.some.inj h, by rw [ht2]; exact hP, hD⟩, hS.F ht2⟩) hS.2.2 dX2_isShoe_47 hlocks
          · have h := zk_f c_5 h
            refine lv_iload_n hx hb dX2_isShoe_25 rfl (lv_at hl 2 rfl) ?_
            refine lv_iconst (v := (1 : Int32)) hx hb dX2_isShoe_26 (by decide) ?_
            refine lv_icmp_lt (tgt := 46) hx hb dX2_isShoe_27 (by decide) (fun c_6 => ?_) (fun c_6 => ?_)
            · have h := zk_t c_6 h
              refine lv_iconst (v := (0 : Int32)) hx hb dX2_isShoe_46 (by decide) ?_
              exact W.zret (ty := .boolean) (v := (0 : Int32)) hx hb hr rfl (fun t ht2 hW => ⟨⟨(0 : Int32), (), rfl, Option.some.inj h, by rw [ht2]; exact hP, hD⟩, hS.F ht2⟩) hS.2.2 dX2_isShoe_47 hlocks
            · have h := zk_f c_6 h
              refine lv_iload_n hx hb dX2_isShoe_30 rfl (lv_at hl 2 rfl) ?_
              refine lv_iconst (v := (5 : Int32)) hx hb dX2_isShoe_31 (by decide) ?_
              refine lv_icmp_gt (tgt := 46) hx hb dX2_isShoe_32 (by decide) (fun c_7 => ?_) (fun c_7 => ?_)
              · have h := zk_t c_7 h
                refine lv_iconst (v := (0 : Int32)) hx hb dX2_isShoe_46 (by decide) ?_
                exact W.zret (ty := .boolean) (v := (0 : Int32)) hx hb hr rfl (fun t ht2 hW => ⟨⟨(0 : Int32), (), rfl, Option.some.inj h, by rw [ht2]; exact hP, hD⟩, hS.F ht2⟩) hS.2.2 dX2_isShoe_47 hlocks
              · have h := zk_f c_7 h
                refine lv_iload_n hx hb dX2_isShoe_35 rfl (lv_at hl 3 rfl) ?_
                obtain ⟨r_8, u_9, hc_10, h⟩ := zk_o2 h
                refine zz_ti (post := (fun r u => (r, u) = (r_8, u_9))) (w1 := fun u => (wl_X11_isDay ad cs )) (As := [.int x3]) (rest := []) (c_X11_isDay l D cs ad  H.size x3 (r_8, u_9) hc_10) ⟨hx, hb, hml, hown, ht⟩ (⟨va_cnB 1 ht g_X2_48 rfl rfl rfl (zOn (q := (RX2, 48, yX11_isDay)) hO 6 rfl) (ht _ kw_75) hd_X11_isDay ⟨Nat.le_of_ble_eq_true rfl, Nat.le_of_ble_eq_true rfl⟩, ht _ kw_738, trivial⟩) hP hD hS hK hA [] rfl rfl [] rfl (fun _ => rfl) rfl hl.1 (Nat.le_of_ble_eq_true rfl) dX2_isShoe_36 ⟨Nat.zero_le _, Nat.zero_le _⟩ (fun r u H locs hq hP hS => ?_)
                cases hq
                have hP : va_P D classes (wl_X2_isShoe ad cs ) H := hP
                refine lv_if_eq (tgt := 46) hx hb dX2_isShoe_39 (by decide) (fun c_11 => ?_) (fun c_11 => ?_)
                · have h := zk_t c_11 h
                  refine lv_iconst (v := (0 : Int32)) hx hb dX2_isShoe_46 (by decide) ?_
                  exact W.zret (ty := .boolean) (v := (0 : Int32)) hx hb hr rfl (fun t ht2 hW => ⟨⟨(0 : Int32), (), rfl, Option.some.inj h, by rw [ht2]; exact hP, hD⟩, hS.F ht2⟩) hS.2.2 dX2_isShoe_47 hlocks
                · have h := zk_f c_11 h
                  refine lv_iconst (v := (1 : Int32)) hx hb dX2_isShoe_42 (by decide) ?_
                  refine lv_goto (tgt := 47) hx hb dX2_isShoe_43 (by decide) ?_
                  exact W.zret (ty := .boolean) (v := (1 : Int32)) hx hb hr rfl (fun t ht2 hW => ⟨⟨(1 : Int32), (), rfl, Option.some.inj h, by rw [ht2]; exact hP, hD⟩, hS.F ht2⟩) hS.2.2 dX2_isShoe_47 hlocks
set_option maxHeartbeats 4000000 in
set_option maxRecDepth 100000 in
theorem c_X2_isShoe (l : Launch) (D : va_G) (cs : Nat → ClassId) (ad : Nat → Nat) (sz : Nat) (x0 : Int32) (x1 : Int32) (x2 : Int32) (x3 : Int32)  (R : Int32 × Unit) (h : f_X2_isShoe   x0 x1 x2 x3  = some R) : Met l yX2_isShoe (z_X2_isShoe) rm_X2_isShoe (va_Pc [.int x0, .int x1, .int x2, .int x3] (zPreO D cs (wl_X2_isShoe ad cs ) sz)) (Q_X2_isShoe D cs ad  (va_A (wl_X2_isShoe ad cs ) sz) R) 0 0 (va_A (wl_X2_isShoe ad cs ) sz) := by
  refine Met.ofW (cc := cX2_isShoe) (maxL := 4) (ret := (some .boolean)) (by decide) rfl ?_
  intro p e s m args below meth c s₁ B hml hv
  obtain ⟨rfl, ⟨hsz, hP, hK, hD0⟩, hO⟩ := hv
  subst hsz
  have hD := hD0.self (sz := s.heap.size)
  have C0 : zC p s m _ meth c cX2_isShoe 4 (some .boolean) RX2 zW := ⟨B.exec, B.bytes, B.returns, hml, findClass_of_methodNamed B.named, fun w hw => atoms_spec (ws := z_X2_isShoe) B.pre w (List.mem_cons_of_mem _ hw), B.notSynchronized⟩
  have hA : ∀ q : Nat, s.heap.size ≤ q → va_A (wl_X2_isShoe ad cs ) s.heap.size q := fun q h => Or.inr h
  have hl := lv_entry ([.int x0, .int x1, .int x2, .int x3]) (n := 4) (Nat.le_of_ble_eq_true rfl)
  rw [lg_entry_eq]
  generalize (lg_sl ([.int x0, .int x1, .int x2, .int x3]) ++ List.replicate (4 - (lg_sl ([.int x0, .int x1, .int x2, .int x3])).length) Slot.unset).toArray = ls at hl ⊢
  exact L_X2_isShoe_0 C0 hK hO hA   x0 x1 x2 x3  h s.heap [] ls hP hD va_S.rf hl
theorem kw_116 : Cond.fieldLink RX2 9 "AlreadyJudged$Court" "shoePerson" "[I" ∈ zW := zwC (i := 42) zc_1 rfl rfl
theorem kw_119 : Cond.fieldLink RX2 15 "AlreadyJudged$Court" "shoeOther" "[I" ∈ zW := zwC (i := 45) zc_1 rfl rfl
theorem kw_122 : Cond.fieldLink RX2 18 "AlreadyJudged$Court" "shoeSort" "[I" ∈ zW := zwC (i := 48) zc_1 rfl rfl
theorem kw_125 : Cond.fieldLink RX2 21 "AlreadyJudged$Court" "shoeDay" "[I" ∈ zW := zwC (i := 51) zc_1 rfl rfl
theorem kw_148 : Cond.fieldLink RX2 52 "AlreadyJudged$Court" "shoeCount" "I" ∈ zW := zwC (i := 74) zc_1 rfl rfl
theorem zh_cX2_addShoe_0 : zck [42, 180, 0, 52, 16, 40, 161, 0, 6, 16, 253, 172, 42, 180, 0, 9, 42, 180, 0, 52, 27, 79] (zdu 0 cX2_addShoe.data.toList) = true := by decide +kernel
theorem dX2_addShoe_0 : decode cX2_addShoe 0 = .ok (.aload_n 0, 1) := zo_42 zh_cX2_addShoe_0 0 rfl
theorem dX2_addShoe_1 : decode cX2_addShoe 1 = .ok (.getfield 52, 3) := zo_180 zh_cX2_addShoe_0 1 rfl
theorem dX2_addShoe_4 : decode cX2_addShoe 4 = .ok (.bipush 40, 2) := zo_p16 zh_cX2_addShoe_0 4 40 rfl rfl
theorem dX2_addShoe_6 : decode cX2_addShoe 6 = .ok (.if_icmp .lt 6, 3) := zo_p161 zh_cX2_addShoe_0 6 6 rfl rfl
theorem dX2_addShoe_9 : decode cX2_addShoe 9 = .ok (.bipush (-3), 2) := zo_n16 zh_cX2_addShoe_0 9 2 rfl rfl
theorem dX2_addShoe_11 : decode cX2_addShoe 11 = .ok (.ireturn, 1) := zo_172 zh_cX2_addShoe_0 11 rfl
theorem dX2_addShoe_12 : decode cX2_addShoe 12 = .ok (.aload_n 0, 1) := zo_42 zh_cX2_addShoe_0 12 rfl
theorem dX2_addShoe_13 : decode cX2_addShoe 13 = .ok (.getfield 9, 3) := zo_180 zh_cX2_addShoe_0 13 rfl
theorem dX2_addShoe_16 : decode cX2_addShoe 16 = .ok (.aload_n 0, 1) := zo_42 zh_cX2_addShoe_0 16 rfl
theorem dX2_addShoe_17 : decode cX2_addShoe 17 = .ok (.getfield 52, 3) := zo_180 zh_cX2_addShoe_0 17 rfl
theorem zh_cX2_addShoe_1 : zck [27, 79, 42, 180, 0, 15, 42, 180, 0, 52, 28, 79, 42, 180, 0, 18, 42, 180, 0, 52, 29, 79] (zdu 20 cX2_addShoe.data.toList) = true := by decide +kernel
theorem dX2_addShoe_20 : decode cX2_addShoe 20 = .ok (.iload_n 1, 1) := zo_27 zh_cX2_addShoe_1 0 rfl
theorem dX2_addShoe_21 : decode cX2_addShoe 21 = .ok (.iastore, 1) := zo_79 zh_cX2_addShoe_1 1 rfl
theorem dX2_addShoe_22 : decode cX2_addShoe 22 = .ok (.aload_n 0, 1) := zo_42 zh_cX2_addShoe_1 2 rfl
theorem dX2_addShoe_23 : decode cX2_addShoe 23 = .ok (.getfield 15, 3) := zo_180 zh_cX2_addShoe_1 3 rfl
theorem dX2_addShoe_26 : decode cX2_addShoe 26 = .ok (.aload_n 0, 1) := zo_42 zh_cX2_addShoe_1 6 rfl
theorem dX2_addShoe_27 : decode cX2_addShoe 27 = .ok (.getfield 52, 3) := zo_180 zh_cX2_addShoe_1 7 rfl
theorem dX2_addShoe_30 : decode cX2_addShoe 30 = .ok (.iload_n 2, 1) := zo_28 zh_cX2_addShoe_1 10 rfl
theorem dX2_addShoe_31 : decode cX2_addShoe 31 = .ok (.iastore, 1) := zo_79 zh_cX2_addShoe_1 11 rfl
theorem dX2_addShoe_32 : decode cX2_addShoe 32 = .ok (.aload_n 0, 1) := zo_42 zh_cX2_addShoe_1 12 rfl
theorem dX2_addShoe_33 : decode cX2_addShoe 33 = .ok (.getfield 18, 3) := zo_180 zh_cX2_addShoe_1 13 rfl
theorem dX2_addShoe_36 : decode cX2_addShoe 36 = .ok (.aload_n 0, 1) := zo_42 zh_cX2_addShoe_1 16 rfl
theorem dX2_addShoe_37 : decode cX2_addShoe 37 = .ok (.getfield 52, 3) := zo_180 zh_cX2_addShoe_1 17 rfl
theorem zh_cX2_addShoe_2 : zck [29, 79, 42, 180, 0, 21, 42, 180, 0, 52, 21, 4, 79, 42, 89, 180, 0, 52, 4, 96, 181, 0] (zdu 40 cX2_addShoe.data.toList) = true := by decide +kernel
theorem dX2_addShoe_40 : decode cX2_addShoe 40 = .ok (.iload_n 3, 1) := zo_29 zh_cX2_addShoe_2 0 rfl
theorem dX2_addShoe_41 : decode cX2_addShoe 41 = .ok (.iastore, 1) := zo_79 zh_cX2_addShoe_2 1 rfl
theorem dX2_addShoe_42 : decode cX2_addShoe 42 = .ok (.aload_n 0, 1) := zo_42 zh_cX2_addShoe_2 2 rfl
theorem dX2_addShoe_43 : decode cX2_addShoe 43 = .ok (.getfield 21, 3) := zo_180 zh_cX2_addShoe_2 3 rfl
theorem dX2_addShoe_46 : decode cX2_addShoe 46 = .ok (.aload_n 0, 1) := zo_42 zh_cX2_addShoe_2 6 rfl
theorem dX2_addShoe_47 : decode cX2_addShoe 47 = .ok (.getfield 52, 3) := zo_180 zh_cX2_addShoe_2 7 rfl
theorem dX2_addShoe_50 : decode cX2_addShoe 50 = .ok (.iload 4, 2) := zo_21 zh_cX2_addShoe_2 10 rfl
theorem dX2_addShoe_52 : decode cX2_addShoe 52 = .ok (.iastore, 1) := zo_79 zh_cX2_addShoe_2 12 rfl
theorem dX2_addShoe_53 : decode cX2_addShoe 53 = .ok (.aload_n 0, 1) := zo_42 zh_cX2_addShoe_2 13 rfl
theorem dX2_addShoe_54 : decode cX2_addShoe 54 = .ok (.dup, 1) := zo_89 zh_cX2_addShoe_2 14 rfl
theorem dX2_addShoe_55 : decode cX2_addShoe 55 = .ok (.getfield 52, 3) := zo_180 zh_cX2_addShoe_2 15 rfl
theorem dX2_addShoe_58 : decode cX2_addShoe 58 = .ok (.iconst 1, 1) := zo_4 zh_cX2_addShoe_2 18 rfl
theorem dX2_addShoe_59 : decode cX2_addShoe 59 = .ok (.iadd, 1) := zo_96 zh_cX2_addShoe_2 19 rfl
theorem zh_cX2_addShoe_3 : zck [181, 0, 52, 42, 180, 0, 52, 4, 100, 172] (zdu 60 cX2_addShoe.data.toList) = true := by decide +kernel
theorem dX2_addShoe_60 : decode cX2_addShoe 60 = .ok (.putfield 52, 3) := zo_181 zh_cX2_addShoe_3 0 rfl
theorem dX2_addShoe_63 : decode cX2_addShoe 63 = .ok (.aload_n 0, 1) := zo_42 zh_cX2_addShoe_3 3 rfl
theorem dX2_addShoe_64 : decode cX2_addShoe 64 = .ok (.getfield 52, 3) := zo_180 zh_cX2_addShoe_3 4 rfl
theorem dX2_addShoe_67 : decode cX2_addShoe 67 = .ok (.iconst 1, 1) := zo_4 zh_cX2_addShoe_3 7 rfl
theorem dX2_addShoe_68 : decode cX2_addShoe 68 = .ok (.isub, 1) := zo_100 zh_cX2_addShoe_3 8 rfl
theorem dX2_addShoe_69 : decode cX2_addShoe 69 = .ok (.ireturn, 1) := zo_172 zh_cX2_addShoe_3 9 rfl
abbrev z_X2_addShoe : List Cond := .code yX2_addShoe cX2_addShoe 5 (some .int) :: zW
abbrev wl_X2_addShoe (ad : Nat → Nat) (cs : Nat → ClassId)  (court_shoeCount : Int32) (court_claimCount : Int32) (court_suitCount : Int32) (court_shoePerson : Nat → Int32) (court_shoeOther : Nat → Int32) (court_shoeSort : Nat → Int32) (court_shoeDay : Nat → Int32) : va_W := [((ad 4), .inr (2, [.ref (ad 5), .ref (ad 6), .ref (ad 7), .ref (ad 8), .ref (ad 9), .ref (ad 10), .ref (ad 11), .ref (ad 12), .ref (ad 13), .ref (ad 14), .int court_shoeCount, .int court_claimCount, .int court_suitCount])), ((ad 5), .inl (cs 0, 40, .inl court_shoePerson)), ((ad 6), .inl (cs 0, 40, .inl court_shoeOther)), ((ad 7), .inl (cs 0, 40, .inl court_shoeSort)), ((ad 8), .inl (cs 0, 40, .inl court_shoeDay))]
def Q_X2_addShoe (D : va_G) (cs : Nat → ClassId) (ad : Nat → Nat)  (court_claimCount : Int32) (court_suitCount : Int32) (A : Nat → Prop) (R : Int32 × Int32 × (Nat → Int32) × (Nat → Int32) × (Nat → Int32) × (Nat → Int32)) : Array Value → State → Outcome → State → Prop :=
  va_Qi (fun (r : Int32) (u : Int32 × (Nat → Int32) × (Nat → Int32) × (Nat → Int32) × (Nat → Int32)) => (r, u) = R) (fun (u : Int32 × (Nat → Int32) × (Nat → Int32) × (Nat → Int32) × (Nat → Int32)) (t : State) => va_P D classes (wl_X2_addShoe ad cs u.1 court_claimCount court_suitCount u.2.1 u.2.2.1 u.2.2.2.1 u.2.2.2.2) t.heap ∧ va_D A (wl_X2_addShoe ad cs u.1 court_claimCount court_suitCount u.2.1 u.2.2.1 u.2.2.2.1 u.2.2.2.2)) A
abbrev rm_X2_addShoe : Room := { frames := 0, cells := 0, slots := 0, locals := 0 }
def B_X2_addShoe_0    (court_claimCount : Int32) (court_suitCount : Int32) (x1 : Int32) (x2 : Int32) (x3 : Int32) (x4 : Int32) (court_shoeCount : Int32) (court_shoePerson : Nat → Int32) (court_shoeOther : Nat → Int32) (court_shoeSort : Nat → Int32) (court_shoeDay : Nat → Int32) : Option (Int32 × Int32 × (Nat → Int32) × (Nat → Int32) × (Nat → Int32) × (Nat → Int32)) :=
  (if court_shoeCount < (40 : Int32) then (if (court_shoeCount < 0 ∨ 40 ≤ court_shoeCount.toNatClampNeg) then none else (zk_let (upd court_shoePerson court_shoeCount.toNatClampNeg x1) (fun f_3 => (if (court_shoeCount < 0 ∨ 40 ≤ court_shoeCount.toNatClampNeg) then none else (zk_let (upd court_shoeOther court_shoeCount.toNatClampNeg x2) (fun f_5 => (if (court_shoeCount < 0 ∨ 40 ≤ court_shoeCount.toNatClampNeg) then none else (zk_let (upd court_shoeSort court_shoeCount.toNatClampNeg x3) (fun f_7 => (if (court_shoeCount < 0 ∨ 40 ≤ court_shoeCount.toNatClampNeg) then none else (zk_let (upd court_shoeDay court_shoeCount.toNatClampNeg x4) (fun f_9 => (zk_let (court_shoeCount + (1 : Int32)) (fun v_10 => (some (v_10 - (1 : Int32), v_10, f_3, f_5, f_7, f_9)))))))))))))))) else (some ((-3 : Int32), court_shoeCount, court_shoePerson, court_shoeOther, court_shoeSort, court_shoeDay)))
def f_X2_addShoe   (x1 : Int32) (x2 : Int32) (x3 : Int32) (x4 : Int32) (court_shoeCount : Int32) (court_claimCount : Int32) (court_suitCount : Int32) (court_shoePerson : Nat → Int32) (court_shoeOther : Nat → Int32) (court_shoeSort : Nat → Int32) (court_shoeDay : Nat → Int32) : Option (Int32 × Int32 × (Nat → Int32) × (Nat → Int32) × (Nat → Int32) × (Nat → Int32)) := B_X2_addShoe_0   court_claimCount court_suitCount x1 x2 x3 x4 court_shoeCount court_shoePerson court_shoeOther court_shoeSort court_shoeDay
set_option maxHeartbeats 4000000 in
set_option maxRecDepth 100000 in
theorem L_X2_addShoe_0 {p : Program} {l : Launch} {e : Env} {s : State} {m : MethodId} {args : Array Value} {below : List Frame} {meth : Method} {c : Code} {A : Nat → Prop} {D : va_G} {cs : Nat → ClassId} {ad : Nat → Nat} {court_claimCount : Int32} {court_suitCount : Int32} {R : Int32 × Int32 × (Nat → Int32) × (Nat → Int32) × (Nat → Int32) × (Nat → Int32)} (C0 : zC p s m args meth c cX2_addShoe 5 (some .int) RX2 zW) (hK : va_K D classes (zT cs) s) (hA : ∀ q : Nat, s.heap.size ≤ q → A q) (x1 : Int32) (x2 : Int32) (x3 : Int32) (x4 : Int32) (court_shoeCount : Int32) (court_shoePerson : Nat → Int32) (court_shoeOther : Nat → Int32) (court_shoeSort : Nat → Int32) (court_shoeDay : Nat → Int32) (h : B_X2_addShoe_0 court_claimCount court_suitCount x1 x2 x3 x4 court_shoeCount court_shoePerson court_shoeOther court_shoeSort court_shoeDay = some R) (H : Heap) (locs : List Loc) (ls : Array Slot) (hP : va_P D classes (wl_X2_addShoe ad cs court_shoeCount court_claimCount court_suitCount court_shoePerson court_shoeOther court_shoeSort court_shoeDay) H) (hD : va_D A (wl_X2_addShoe ad cs court_shoeCount court_claimCount court_suitCount court_shoePerson court_shoeOther court_shoeSort court_shoeDay)) (hS : va_S A s.heap H locs) (hl : lv_has ls 5 [(0, .ref (ad 4)), (1, .int x1), (2, .int x2), (3, .int x3), (4, .int x4)]) : W p l e rm_X2_addShoe s m args below meth c H locs 0 0 (MQ below (Q_X2_addShoe D cs ad court_claimCount court_suitCount A R) args s 0 0 A) (F0 m 0 ls []) := by
  obtain ⟨hx, hb, hr, hml, hown, ht, hlocks⟩ := id C0
  refine lv_aload_n hx hb dX2_addShoe_0 rfl (lv_at hl 0 rfl) ?_
  refine va_get (D := D) (ci := 2) (v := .int court_shoeCount) (C := RX2) (T := TX2) (N := 13) hx hb ht iX2 hown hK hP 0 rfl rfl 10 (by decide) (ht _ kw_148) (fun _ h9 => h9) rfl dX2_addShoe_1 ?_
  refine lv_bipush (v := (40 : Int32)) hx hb dX2_addShoe_4 (by decide) ?_
  refine lv_icmp_lt (tgt := 12) hx hb dX2_addShoe_6 (by decide) (fun c_1 => ?_) (fun c_1 => ?_)
  · have h := zk_t c_1 h
    refine lv_aload_n hx hb dX2_addShoe_12 rfl (lv_at hl 0 rfl) ?_
    refine va_get (D := D) (ci := 2) (v := .ref (ad 5)) (C := RX2) (T := TX2) (N := 13) hx hb ht iX2 hown hK hP 0 rfl rfl 0 (by decide) (ht _ kw_116) (fun _ h9 => h9) rfl dX2_addShoe_13 ?_
    refine lv_aload_n hx hb dX2_addShoe_16 rfl (lv_at hl 0 rfl) ?_
    refine va_get (D := D) (ci := 2) (v := .int court_shoeCount) (C := RX2) (T := TX2) (N := 13) hx hb ht iX2 hown hK hP 0 rfl rfl 10 (by decide) (ht _ kw_148) (fun _ h9 => h9) rfl dX2_addShoe_17 ?_
    refine lv_iload_n hx hb dX2_addShoe_20 rfl (lv_at hl 1 rfl) ?_
    obtain ⟨g_2, h⟩ := zk_gd h
    obtain ⟨f_3, ef_3, h⟩ := zk_lt h
    refine va_iast hx hb hK hP hD hS 1 0 rfl rfl g_2 dX2_addShoe_21 (fun H locs hP hD hS => ?_)
    have hP : va_P D classes (wl_X2_addShoe ad cs court_shoeCount court_claimCount court_suitCount f_3 court_shoeOther court_shoeSort court_shoeDay) H := by rw [ef_3]; exact hP
    have hD : va_D A (wl_X2_addShoe ad cs court_shoeCount court_claimCount court_suitCount f_3 court_shoeOther court_shoeSort court_shoeDay) := by rw [ef_3]; exact hD
    refine lv_aload_n hx hb dX2_addShoe_22 rfl (lv_at hl 0 rfl) ?_
    refine va_get (D := D) (ci := 2) (v := .ref (ad 6)) (C := RX2) (T := TX2) (N := 13) hx hb ht iX2 hown hK hP 0 rfl rfl 1 (by decide) (ht _ kw_119) (fun _ h9 => h9) rfl dX2_addShoe_23 ?_
    refine lv_aload_n hx hb dX2_addShoe_26 rfl (lv_at hl 0 rfl) ?_
    refine va_get (D := D) (ci := 2) (v := .int court_shoeCount) (C := RX2) (T := TX2) (N := 13) hx hb ht iX2 hown hK hP 0 rfl rfl 10 (by decide) (ht _ kw_148) (fun _ h9 => h9) rfl dX2_addShoe_27 ?_
    refine lv_iload_n hx hb dX2_addShoe_30 rfl (lv_at hl 2 rfl) ?_
    obtain ⟨g_4, h⟩ := zk_gd h
    obtain ⟨f_5, ef_5, h⟩ := zk_lt h
    refine va_iast hx hb hK hP hD hS 2 0 rfl rfl g_4 dX2_addShoe_31 (fun H locs hP hD hS => ?_)
    have hP : va_P D classes (wl_X2_addShoe ad cs court_shoeCount court_claimCount court_suitCount f_3 f_5 court_shoeSort court_shoeDay) H := by rw [ef_5]; exact hP
    have hD : va_D A (wl_X2_addShoe ad cs court_shoeCount court_claimCount court_suitCount f_3 f_5 court_shoeSort court_shoeDay) := by rw [ef_5]; exact hD
    refine lv_aload_n hx hb dX2_addShoe_32 rfl (lv_at hl 0 rfl) ?_
    refine va_get (D := D) (ci := 2) (v := .ref (ad 7)) (C := RX2) (T := TX2) (N := 13) hx hb ht iX2 hown hK hP 0 rfl rfl 2 (by decide) (ht _ kw_122) (fun _ h9 => h9) rfl dX2_addShoe_33 ?_
    refine lv_aload_n hx hb dX2_addShoe_36 rfl (lv_at hl 0 rfl) ?_
    refine va_get (D := D) (ci := 2) (v := .int court_shoeCount) (C := RX2) (T := TX2) (N := 13) hx hb ht iX2 hown hK hP 0 rfl rfl 10 (by decide) (ht _ kw_148) (fun _ h9 => h9) rfl dX2_addShoe_37 ?_
    refine lv_iload_n hx hb dX2_addShoe_40 rfl (lv_at hl 3 rfl) ?_
    obtain ⟨g_6, h⟩ := zk_gd h
    obtain ⟨f_7, ef_7, h⟩ := zk_lt h
    refine va_iast hx hb hK hP hD hS 3 0 rfl rfl g_6 dX2_addShoe_41 (fun H locs hP hD hS => ?_)
    have hP : va_P D classes (wl_X2_addShoe ad cs court_shoeCount court_claimCount court_suitCount f_3 f_5 f_7 court_shoeDay) H := by rw [ef_7]; exact hP
    have hD : va_D A (wl_X2_addShoe ad cs court_shoeCount court_claimCount court_suitCount f_3 f_5 f_7 court_shoeDay) := by rw [ef_7]; exact hD
    refine lv_aload_n hx hb dX2_addShoe_42 rfl (lv_at hl 0 rfl) ?_
    refine va_get (D := D) (ci := 2) (v := .ref (ad 8)) (C := RX2) (T := TX2) (N := 13) hx hb ht iX2 hown hK hP 0 rfl rfl 3 (by decide) (ht _ kw_125) (fun _ h9 => h9) rfl dX2_addShoe_43 ?_
    refine lv_aload_n hx hb dX2_addShoe_46 rfl (lv_at hl 0 rfl) ?_
    refine va_get (D := D) (ci := 2) (v := .int court_shoeCount) (C := RX2) (T := TX2) (N := 13) hx hb ht iX2 hown hK hP 0 rfl rfl 10 (by decide) (ht _ kw_148) (fun _ h9 => h9) rfl dX2_addShoe_47 ?_
    refine lv_iload hx hb dX2_addShoe_50 (lv_at hl 4 rfl) ?_
    obtain ⟨g_8, h⟩ := zk_gd h
    obtain ⟨f_9, ef_9, h⟩ := zk_lt h
    refine va_iast hx hb hK hP hD hS 4 0 rfl rfl g_8 dX2_addShoe_52 (fun H locs hP hD hS => ?_)
    have hP : va_P D classes (wl_X2_addShoe ad cs court_shoeCount court_claimCount court_suitCount f_3 f_5 f_7 f_9) H := by rw [ef_9]; exact hP
    have hD : va_D A (wl_X2_addShoe ad cs court_shoeCount court_claimCount court_suitCount f_3 f_5 f_7 f_9) := by rw [ef_9]; exact hD
    refine lv_aload_n hx hb dX2_addShoe_53 rfl (lv_at hl 0 rfl) ?_
    refine lv_dup hx hb dX2_addShoe_54 rfl ?_
    refine va_get (D := D) (ci := 2) (v := .int court_shoeCount) (C := RX2) (T := TX2) (N := 13) hx hb ht iX2 hown hK hP 0 rfl rfl 10 (by decide) (ht _ kw_148) (fun _ h9 => h9) rfl dX2_addShoe_55 ?_
    refine lv_iconst (v := (1 : Int32)) hx hb dX2_addShoe_58 (by decide) ?_
    refine lv_iadd hx hb dX2_addShoe_59 ?_
    obtain ⟨v_10, ev_10, h⟩ := zk_lt h
    refine W.eq (g2 := F0 m 60 ls [.int v_10, .ref (ad 4)]) (by rw [ev_10]) ?_
    refine va_put (D := D) (ci := 2) (v := .int v_10) (ty := .int) (C := RX2) (T := TX2) (N := 13) hx hb ht iX2 tyX2 tyX2_ok nmX2 hown hK hP hD hS 0 rfl rfl 10 (by decide) (ht _ kw_148) (fun _ h9 => h9) rfl (by decide +kernel) rfl rfl (Nat.le_of_ble_eq_true rfl) dX2_addShoe_60 (fun H locs hP hD hS => ?_)
    have hP : va_P D classes (wl_X2_addShoe ad cs v_10 court_claimCount court_suitCount f_3 f_5 f_7 f_9) H := hP
    have hD : va_D A (wl_X2_addShoe ad cs v_10 court_claimCount court_suitCount f_3 f_5 f_7 f_9) := hD
    refine lv_aload_n hx hb dX2_addShoe_63 rfl (lv_at hl 0 rfl) ?_
    refine va_get (D := D) (ci := 2) (v := .int v_10) (C := RX2) (T := TX2) (N := 13) hx hb ht iX2 hown hK hP 0 rfl rfl 10 (by decide) (ht _ kw_148) (fun _ h9 => h9) rfl dX2_addShoe_64 ?_
    refine lv_iconst (v := (1 : Int32)) hx hb dX2_addShoe_67 (by decide) ?_
    refine lv_isub hx hb dX2_addShoe_68 ?_
    exact W.iret (v := v_10 - (1 : Int32)) hx hb hr (fun t ht2 hW => ⟨⟨v_10 - (1 : Int32), (v_10, f_3, f_5, f_7, f_9), rfl, Option.some.inj h, by rw [ht2]; exact hP, hD⟩, hS.F ht2⟩) hS.2.2 dX2_addShoe_69 hlocks
  · have h := zk_f c_1 h
    refine lv_bipush (v := (-3 : Int32)) hx hb dX2_addShoe_9 (by decide) ?_
    exact W.iret (v := (-3 : Int32)) hx hb hr (fun t ht2 hW => ⟨⟨(-3 : Int32), (court_shoeCount, court_shoePerson, court_shoeOther, court_shoeSort, court_shoeDay), rfl, Option.some.inj h, by rw [ht2]; exact hP, hD⟩, hS.F ht2⟩) hS.2.2 dX2_addShoe_11 hlocks
set_option maxHeartbeats 4000000 in
set_option maxRecDepth 100000 in
theorem c_X2_addShoe (l : Launch) (D : va_G) (cs : Nat → ClassId) (ad : Nat → Nat) (sz : Nat) (x1 : Int32) (x2 : Int32) (x3 : Int32) (x4 : Int32) (court_shoeCount : Int32) (court_claimCount : Int32) (court_suitCount : Int32) (court_shoePerson : Nat → Int32) (court_shoeOther : Nat → Int32) (court_shoeSort : Nat → Int32) (court_shoeDay : Nat → Int32) (R : Int32 × Int32 × (Nat → Int32) × (Nat → Int32) × (Nat → Int32) × (Nat → Int32)) (h : f_X2_addShoe   x1 x2 x3 x4 court_shoeCount court_claimCount court_suitCount court_shoePerson court_shoeOther court_shoeSort court_shoeDay = some R) : Met l yX2_addShoe (z_X2_addShoe) rm_X2_addShoe (va_Pc [.ref (ad 4), .int x1, .int x2, .int x3, .int x4] (zPre D cs (wl_X2_addShoe ad cs court_shoeCount court_claimCount court_suitCount court_shoePerson court_shoeOther court_shoeSort court_shoeDay) sz)) (Q_X2_addShoe D cs ad court_claimCount court_suitCount (va_A (wl_X2_addShoe ad cs court_shoeCount court_claimCount court_suitCount court_shoePerson court_shoeOther court_shoeSort court_shoeDay) sz) R) 0 0 (va_A (wl_X2_addShoe ad cs court_shoeCount court_claimCount court_suitCount court_shoePerson court_shoeOther court_shoeSort court_shoeDay) sz) := by
  refine Met.ofW (cc := cX2_addShoe) (maxL := 5) (ret := (some .int)) (by decide) rfl ?_
  intro p e s m args below meth c s₁ B hml hv
  obtain ⟨rfl, hsz, hP, hK, hD0⟩ := hv
  subst hsz
  have hD := hD0.self (sz := s.heap.size)
  have C0 : zC p s m _ meth c cX2_addShoe 5 (some .int) RX2 zW := ⟨B.exec, B.bytes, B.returns, hml, findClass_of_methodNamed B.named, fun w hw => atoms_spec (ws := z_X2_addShoe) B.pre w (List.mem_cons_of_mem _ hw), B.notSynchronized⟩
  have hA : ∀ q : Nat, s.heap.size ≤ q → va_A (wl_X2_addShoe ad cs court_shoeCount court_claimCount court_suitCount court_shoePerson court_shoeOther court_shoeSort court_shoeDay) s.heap.size q := fun q h => Or.inr h
  have hl := lv_entry ([.ref (ad 4), .int x1, .int x2, .int x3, .int x4]) (n := 5) (Nat.le_of_ble_eq_true rfl)
  rw [lg_entry_eq]
  generalize (lg_sl ([.ref (ad 4), .int x1, .int x2, .int x3, .int x4]) ++ List.replicate (5 - (lg_sl ([.ref (ad 4), .int x1, .int x2, .int x3, .int x4])).length) Slot.unset).toArray = ls at hl ⊢
  exact L_X2_addShoe_0 C0 hK hA   x1 x2 x3 x4 court_shoeCount court_shoePerson court_shoeOther court_shoeSort court_shoeDay h s.heap [] ls hP hD va_S.rf hl
theorem kw_129 : Cond.fieldLink RX2 24 "AlreadyJudged$Court" "claimWho" "[I" ∈ zW := zwC (i := 55) zc_1 rfl rfl
theorem kw_133 : Cond.fieldLink RX2 27 "AlreadyJudged$Court" "claimAgainst" "[I" ∈ zW := zwC (i := 59) zc_1 rfl rfl
theorem kw_137 : Cond.fieldLink RX2 30 "AlreadyJudged$Court" "claimFact" "[I" ∈ zW := zwC (i := 63) zc_1 rfl rfl
theorem kw_140 : Cond.fieldLink RX2 33 "AlreadyJudged$Court" "claimPlea" "[I" ∈ zW := zwC (i := 66) zc_1 rfl rfl
theorem kw_152 : Cond.fieldLink RX2 56 "AlreadyJudged$Court" "claimCount" "I" ∈ zW := zwC (i := 78) zc_1 rfl rfl
theorem zh_cX2_addClaim_0 : zck [42, 180, 0, 56, 16, 32, 161, 0, 6, 16, 253, 172, 42, 180, 0, 24, 42, 180, 0, 56, 27, 16] (zdu 0 cX2_addClaim.data.toList) = true := by decide +kernel
theorem dX2_addClaim_0 : decode cX2_addClaim 0 = .ok (.aload_n 0, 1) := zo_42 zh_cX2_addClaim_0 0 rfl
theorem dX2_addClaim_1 : decode cX2_addClaim 1 = .ok (.getfield 56, 3) := zo_180 zh_cX2_addClaim_0 1 rfl
theorem dX2_addClaim_4 : decode cX2_addClaim 4 = .ok (.bipush 32, 2) := zo_p16 zh_cX2_addClaim_0 4 32 rfl rfl
theorem dX2_addClaim_6 : decode cX2_addClaim 6 = .ok (.if_icmp .lt 6, 3) := zo_p161 zh_cX2_addClaim_0 6 6 rfl rfl
theorem dX2_addClaim_9 : decode cX2_addClaim 9 = .ok (.bipush (-3), 2) := zo_n16 zh_cX2_addClaim_0 9 2 rfl rfl
theorem dX2_addClaim_11 : decode cX2_addClaim 11 = .ok (.ireturn, 1) := zo_172 zh_cX2_addClaim_0 11 rfl
theorem dX2_addClaim_12 : decode cX2_addClaim 12 = .ok (.aload_n 0, 1) := zo_42 zh_cX2_addClaim_0 12 rfl
theorem dX2_addClaim_13 : decode cX2_addClaim 13 = .ok (.getfield 24, 3) := zo_180 zh_cX2_addClaim_0 13 rfl
theorem dX2_addClaim_16 : decode cX2_addClaim 16 = .ok (.aload_n 0, 1) := zo_42 zh_cX2_addClaim_0 16 rfl
theorem dX2_addClaim_17 : decode cX2_addClaim 17 = .ok (.getfield 56, 3) := zo_180 zh_cX2_addClaim_0 17 rfl
theorem zh_cX2_addClaim_1 : zck [27, 16, 100, 108, 79, 42, 180, 0, 27, 42, 180, 0, 56, 27, 16, 100, 112, 79, 42, 180, 0, 30] (zdu 20 cX2_addClaim.data.toList) = true := by decide +kernel
theorem dX2_addClaim_20 : decode cX2_addClaim 20 = .ok (.iload_n 1, 1) := zo_27 zh_cX2_addClaim_1 0 rfl
theorem dX2_addClaim_21 : decode cX2_addClaim 21 = .ok (.bipush 100, 2) := zo_p16 zh_cX2_addClaim_1 1 100 rfl rfl
theorem dX2_addClaim_23 : decode cX2_addClaim 23 = .ok (.idiv, 1) := zo_108 zh_cX2_addClaim_1 3 rfl
theorem dX2_addClaim_24 : decode cX2_addClaim 24 = .ok (.iastore, 1) := zo_79 zh_cX2_addClaim_1 4 rfl
theorem dX2_addClaim_25 : decode cX2_addClaim 25 = .ok (.aload_n 0, 1) := zo_42 zh_cX2_addClaim_1 5 rfl
theorem dX2_addClaim_26 : decode cX2_addClaim 26 = .ok (.getfield 27, 3) := zo_180 zh_cX2_addClaim_1 6 rfl
theorem dX2_addClaim_29 : decode cX2_addClaim 29 = .ok (.aload_n 0, 1) := zo_42 zh_cX2_addClaim_1 9 rfl
theorem dX2_addClaim_30 : decode cX2_addClaim 30 = .ok (.getfield 56, 3) := zo_180 zh_cX2_addClaim_1 10 rfl
theorem dX2_addClaim_33 : decode cX2_addClaim 33 = .ok (.iload_n 1, 1) := zo_27 zh_cX2_addClaim_1 13 rfl
theorem dX2_addClaim_34 : decode cX2_addClaim 34 = .ok (.bipush 100, 2) := zo_p16 zh_cX2_addClaim_1 14 100 rfl rfl
theorem dX2_addClaim_36 : decode cX2_addClaim 36 = .ok (.irem, 1) := zo_112 zh_cX2_addClaim_1 16 rfl
theorem dX2_addClaim_37 : decode cX2_addClaim 37 = .ok (.iastore, 1) := zo_79 zh_cX2_addClaim_1 17 rfl
theorem dX2_addClaim_38 : decode cX2_addClaim 38 = .ok (.aload_n 0, 1) := zo_42 zh_cX2_addClaim_1 18 rfl
theorem dX2_addClaim_39 : decode cX2_addClaim 39 = .ok (.getfield 30, 3) := zo_180 zh_cX2_addClaim_1 19 rfl
theorem zh_cX2_addClaim_2 : zck [0, 30, 42, 180, 0, 56, 28, 79, 42, 180, 0, 33, 42, 180, 0, 56, 29, 79, 42, 89, 180, 0] (zdu 40 cX2_addClaim.data.toList) = true := by decide +kernel
theorem dX2_addClaim_42 : decode cX2_addClaim 42 = .ok (.aload_n 0, 1) := zo_42 zh_cX2_addClaim_2 2 rfl
theorem dX2_addClaim_43 : decode cX2_addClaim 43 = .ok (.getfield 56, 3) := zo_180 zh_cX2_addClaim_2 3 rfl
theorem dX2_addClaim_46 : decode cX2_addClaim 46 = .ok (.iload_n 2, 1) := zo_28 zh_cX2_addClaim_2 6 rfl
theorem dX2_addClaim_47 : decode cX2_addClaim 47 = .ok (.iastore, 1) := zo_79 zh_cX2_addClaim_2 7 rfl
theorem dX2_addClaim_48 : decode cX2_addClaim 48 = .ok (.aload_n 0, 1) := zo_42 zh_cX2_addClaim_2 8 rfl
theorem dX2_addClaim_49 : decode cX2_addClaim 49 = .ok (.getfield 33, 3) := zo_180 zh_cX2_addClaim_2 9 rfl
theorem dX2_addClaim_52 : decode cX2_addClaim 52 = .ok (.aload_n 0, 1) := zo_42 zh_cX2_addClaim_2 12 rfl
theorem dX2_addClaim_53 : decode cX2_addClaim 53 = .ok (.getfield 56, 3) := zo_180 zh_cX2_addClaim_2 13 rfl
theorem dX2_addClaim_56 : decode cX2_addClaim 56 = .ok (.iload_n 3, 1) := zo_29 zh_cX2_addClaim_2 16 rfl
theorem dX2_addClaim_57 : decode cX2_addClaim 57 = .ok (.iastore, 1) := zo_79 zh_cX2_addClaim_2 17 rfl
theorem dX2_addClaim_58 : decode cX2_addClaim 58 = .ok (.aload_n 0, 1) := zo_42 zh_cX2_addClaim_2 18 rfl
theorem dX2_addClaim_59 : decode cX2_addClaim 59 = .ok (.dup, 1) := zo_89 zh_cX2_addClaim_2 19 rfl
theorem zh_cX2_addClaim_3 : zck [180, 0, 56, 4, 96, 181, 0, 56, 42, 180, 0, 56, 4, 100, 172] (zdu 60 cX2_addClaim.data.toList) = true := by decide +kernel
theorem dX2_addClaim_60 : decode cX2_addClaim 60 = .ok (.getfield 56, 3) := zo_180 zh_cX2_addClaim_3 0 rfl
theorem dX2_addClaim_63 : decode cX2_addClaim 63 = .ok (.iconst 1, 1) := zo_4 zh_cX2_addClaim_3 3 rfl
theorem dX2_addClaim_64 : decode cX2_addClaim 64 = .ok (.iadd, 1) := zo_96 zh_cX2_addClaim_3 4 rfl
theorem dX2_addClaim_65 : decode cX2_addClaim 65 = .ok (.putfield 56, 3) := zo_181 zh_cX2_addClaim_3 5 rfl
theorem dX2_addClaim_68 : decode cX2_addClaim 68 = .ok (.aload_n 0, 1) := zo_42 zh_cX2_addClaim_3 8 rfl
theorem dX2_addClaim_69 : decode cX2_addClaim 69 = .ok (.getfield 56, 3) := zo_180 zh_cX2_addClaim_3 9 rfl
theorem dX2_addClaim_72 : decode cX2_addClaim 72 = .ok (.iconst 1, 1) := zo_4 zh_cX2_addClaim_3 12 rfl
theorem dX2_addClaim_73 : decode cX2_addClaim 73 = .ok (.isub, 1) := zo_100 zh_cX2_addClaim_3 13 rfl
theorem dX2_addClaim_74 : decode cX2_addClaim 74 = .ok (.ireturn, 1) := zo_172 zh_cX2_addClaim_3 14 rfl
abbrev z_X2_addClaim : List Cond := .code yX2_addClaim cX2_addClaim 4 (some .int) :: zW
abbrev wl_X2_addClaim (ad : Nat → Nat) (cs : Nat → ClassId)  (court_shoeCount : Int32) (court_claimCount : Int32) (court_suitCount : Int32) (court_claimWho : Nat → Int32) (court_claimAgainst : Nat → Int32) (court_claimFact : Nat → Int32) (court_claimPlea : Nat → Int32) : va_W := [((ad 4), .inr (2, [.ref (ad 5), .ref (ad 6), .ref (ad 7), .ref (ad 8), .ref (ad 9), .ref (ad 10), .ref (ad 11), .ref (ad 12), .ref (ad 13), .ref (ad 14), .int court_shoeCount, .int court_claimCount, .int court_suitCount])), ((ad 9), .inl (cs 0, 32, .inl court_claimWho)), ((ad 10), .inl (cs 0, 32, .inl court_claimAgainst)), ((ad 11), .inl (cs 0, 32, .inl court_claimFact)), ((ad 12), .inl (cs 0, 32, .inl court_claimPlea))]
def Q_X2_addClaim (D : va_G) (cs : Nat → ClassId) (ad : Nat → Nat)  (court_shoeCount : Int32) (court_suitCount : Int32) (A : Nat → Prop) (R : Int32 × Int32 × (Nat → Int32) × (Nat → Int32) × (Nat → Int32) × (Nat → Int32)) : Array Value → State → Outcome → State → Prop :=
  va_Qi (fun (r : Int32) (u : Int32 × (Nat → Int32) × (Nat → Int32) × (Nat → Int32) × (Nat → Int32)) => (r, u) = R) (fun (u : Int32 × (Nat → Int32) × (Nat → Int32) × (Nat → Int32) × (Nat → Int32)) (t : State) => va_P D classes (wl_X2_addClaim ad cs court_shoeCount u.1 court_suitCount u.2.1 u.2.2.1 u.2.2.2.1 u.2.2.2.2) t.heap ∧ va_D A (wl_X2_addClaim ad cs court_shoeCount u.1 court_suitCount u.2.1 u.2.2.1 u.2.2.2.1 u.2.2.2.2)) A
abbrev rm_X2_addClaim : Room := { frames := 0, cells := 0, slots := 0, locals := 0 }
def B_X2_addClaim_0    (court_shoeCount : Int32) (court_suitCount : Int32) (x1 : Int32) (x2 : Int32) (x3 : Int32) (court_claimCount : Int32) (court_claimWho : Nat → Int32) (court_claimAgainst : Nat → Int32) (court_claimFact : Nat → Int32) (court_claimPlea : Nat → Int32) : Option (Int32 × Int32 × (Nat → Int32) × (Nat → Int32) × (Nat → Int32) × (Nat → Int32)) :=
  (if court_claimCount < (32 : Int32) then (zk_let (x1 / (100 : Int32)) (fun v_2 => (if (court_claimCount < 0 ∨ 32 ≤ court_claimCount.toNatClampNeg) then none else (zk_let (upd court_claimWho court_claimCount.toNatClampNeg v_2) (fun f_4 => (zk_let (x1 - x1 / (100 : Int32) * (100 : Int32)) (fun v_5 => (if (court_claimCount < 0 ∨ 32 ≤ court_claimCount.toNatClampNeg) then none else (zk_let (upd court_claimAgainst court_claimCount.toNatClampNeg v_5) (fun f_7 => (if (court_claimCount < 0 ∨ 32 ≤ court_claimCount.toNatClampNeg) then none else (zk_let (upd court_claimFact court_claimCount.toNatClampNeg x2) (fun f_9 => (if (court_claimCount < 0 ∨ 32 ≤ court_claimCount.toNatClampNeg) then none else (zk_let (upd court_claimPlea court_claimCount.toNatClampNeg x3) (fun f_11 => (zk_let (court_claimCount + (1 : Int32)) (fun v_12 => (some (v_12 - (1 : Int32), v_12, f_4, f_7, f_9, f_11)))))))))))))))))))) else (some ((-3 : Int32), court_claimCount, court_claimWho, court_claimAgainst, court_claimFact, court_claimPlea)))
def f_X2_addClaim   (x1 : Int32) (x2 : Int32) (x3 : Int32) (court_shoeCount : Int32) (court_claimCount : Int32) (court_suitCount : Int32) (court_claimWho : Nat → Int32) (court_claimAgainst : Nat → Int32) (court_claimFact : Nat → Int32) (court_claimPlea : Nat → Int32) : Option (Int32 × Int32 × (Nat → Int32) × (Nat → Int32) × (Nat → Int32) × (Nat → Int32)) := B_X2_addClaim_0   court_shoeCount court_suitCount x1 x2 x3 court_claimCount court_claimWho court_claimAgainst court_claimFact court_claimPlea
set_option maxHeartbeats 4000000 in
set_option maxRecDepth 100000 in
theorem L_X2_addClaim_0 {p : Program} {l : Launch} {e : Env} {s : State} {m : MethodId} {args : Array Value} {below : List Frame} {meth : Method} {c : Code} {A : Nat → Prop} {D : va_G} {cs : Nat → ClassId} {ad : Nat → Nat} {court_shoeCount : Int32} {court_suitCount : Int32} {R : Int32 × Int32 × (Nat → Int32) × (Nat → Int32) × (Nat → Int32) × (Nat → Int32)} (C0 : zC p s m args meth c cX2_addClaim 4 (some .int) RX2 zW) (hK : va_K D classes (zT cs) s) (hA : ∀ q : Nat, s.heap.size ≤ q → A q) (x1 : Int32) (x2 : Int32) (x3 : Int32) (court_claimCount : Int32) (court_claimWho : Nat → Int32) (court_claimAgainst : Nat → Int32) (court_claimFact : Nat → Int32) (court_claimPlea : Nat → Int32) (h : B_X2_addClaim_0 court_shoeCount court_suitCount x1 x2 x3 court_claimCount court_claimWho court_claimAgainst court_claimFact court_claimPlea = some R) (H : Heap) (locs : List Loc) (ls : Array Slot) (hP : va_P D classes (wl_X2_addClaim ad cs court_shoeCount court_claimCount court_suitCount court_claimWho court_claimAgainst court_claimFact court_claimPlea) H) (hD : va_D A (wl_X2_addClaim ad cs court_shoeCount court_claimCount court_suitCount court_claimWho court_claimAgainst court_claimFact court_claimPlea)) (hS : va_S A s.heap H locs) (hl : lv_has ls 4 [(0, .ref (ad 4)), (1, .int x1), (2, .int x2), (3, .int x3)]) : W p l e rm_X2_addClaim s m args below meth c H locs 0 0 (MQ below (Q_X2_addClaim D cs ad court_shoeCount court_suitCount A R) args s 0 0 A) (F0 m 0 ls []) := by
  obtain ⟨hx, hb, hr, hml, hown, ht, hlocks⟩ := id C0
  refine lv_aload_n hx hb dX2_addClaim_0 rfl (lv_at hl 0 rfl) ?_
  refine va_get (D := D) (ci := 2) (v := .int court_claimCount) (C := RX2) (T := TX2) (N := 13) hx hb ht iX2 hown hK hP 0 rfl rfl 11 (by decide) (ht _ kw_152) (fun _ h9 => h9) rfl dX2_addClaim_1 ?_
  refine lv_bipush (v := (32 : Int32)) hx hb dX2_addClaim_4 (by decide) ?_
  refine lv_icmp_lt (tgt := 12) hx hb dX2_addClaim_6 (by decide) (fun c_1 => ?_) (fun c_1 => ?_)
  · have h := zk_t c_1 h
    refine lv_aload_n hx hb dX2_addClaim_12 rfl (lv_at hl 0 rfl) ?_
    refine va_get (D := D) (ci := 2) (v := .ref (ad 9)) (C := RX2) (T := TX2) (N := 13) hx hb ht iX2 hown hK hP 0 rfl rfl 4 (by decide) (ht _ kw_129) (fun _ h9 => h9) rfl dX2_addClaim_13 ?_
    refine lv_aload_n hx hb dX2_addClaim_16 rfl (lv_at hl 0 rfl) ?_
    refine va_get (D := D) (ci := 2) (v := .int court_claimCount) (C := RX2) (T := TX2) (N := 13) hx hb ht iX2 hown hK hP 0 rfl rfl 11 (by decide) (ht _ kw_152) (fun _ h9 => h9) rfl dX2_addClaim_17 ?_
    refine lv_iload_n hx hb dX2_addClaim_20 rfl (lv_at hl 1 rfl) ?_
    refine lv_bipush (v := (100 : Int32)) hx hb dX2_addClaim_21 (by decide) ?_
    refine lv_idiv hx hb dX2_addClaim_23 (by decide) ?_
    obtain ⟨v_2, ev_2, h⟩ := zk_lt h
    refine W.eq (g2 := F0 m 24 ls [.int v_2, .int court_claimCount, .ref (ad 9)]) (by rw [ev_2]) ?_
    obtain ⟨g_3, h⟩ := zk_gd h
    obtain ⟨f_4, ef_4, h⟩ := zk_lt h
    refine va_iast hx hb hK hP hD hS 1 0 rfl rfl g_3 dX2_addClaim_24 (fun H locs hP hD hS => ?_)
    have hP : va_P D classes (wl_X2_addClaim ad cs court_shoeCount court_claimCount court_suitCount f_4 court_claimAgainst court_claimFact court_claimPlea) H := by rw [ef_4]; exact hP
    have hD : va_D A (wl_X2_addClaim ad cs court_shoeCount court_claimCount court_suitCount f_4 court_claimAgainst court_claimFact court_claimPlea) := by rw [ef_4]; exact hD
    refine lv_aload_n hx hb dX2_addClaim_25 rfl (lv_at hl 0 rfl) ?_
    refine va_get (D := D) (ci := 2) (v := .ref (ad 10)) (C := RX2) (T := TX2) (N := 13) hx hb ht iX2 hown hK hP 0 rfl rfl 5 (by decide) (ht _ kw_133) (fun _ h9 => h9) rfl dX2_addClaim_26 ?_
    refine lv_aload_n hx hb dX2_addClaim_29 rfl (lv_at hl 0 rfl) ?_
    refine va_get (D := D) (ci := 2) (v := .int court_claimCount) (C := RX2) (T := TX2) (N := 13) hx hb ht iX2 hown hK hP 0 rfl rfl 11 (by decide) (ht _ kw_152) (fun _ h9 => h9) rfl dX2_addClaim_30 ?_
    refine lv_iload_n hx hb dX2_addClaim_33 rfl (lv_at hl 1 rfl) ?_
    refine lv_bipush (v := (100 : Int32)) hx hb dX2_addClaim_34 (by decide) ?_
    refine lv_irem hx hb dX2_addClaim_36 (by decide) ?_
    obtain ⟨v_5, ev_5, h⟩ := zk_lt h
    refine W.eq (g2 := F0 m 37 ls [.int v_5, .int court_claimCount, .ref (ad 10)]) (by rw [ev_5]) ?_
    obtain ⟨g_6, h⟩ := zk_gd h
    obtain ⟨f_7, ef_7, h⟩ := zk_lt h
    refine va_iast hx hb hK hP hD hS 2 0 rfl rfl g_6 dX2_addClaim_37 (fun H locs hP hD hS => ?_)
    have hP : va_P D classes (wl_X2_addClaim ad cs court_shoeCount court_claimCount court_suitCount f_4 f_7 court_claimFact court_claimPlea) H := by rw [ef_7]; exact hP
    have hD : va_D A (wl_X2_addClaim ad cs court_shoeCount court_claimCount court_suitCount f_4 f_7 court_claimFact court_claimPlea) := by rw [ef_7]; exact hD
    refine lv_aload_n hx hb dX2_addClaim_38 rfl (lv_at hl 0 rfl) ?_
    refine va_get (D := D) (ci := 2) (v := .ref (ad 11)) (C := RX2) (T := TX2) (N := 13) hx hb ht iX2 hown hK hP 0 rfl rfl 6 (by decide) (ht _ kw_137) (fun _ h9 => h9) rfl dX2_addClaim_39 ?_
    refine lv_aload_n hx hb dX2_addClaim_42 rfl (lv_at hl 0 rfl) ?_
    refine va_get (D := D) (ci := 2) (v := .int court_claimCount) (C := RX2) (T := TX2) (N := 13) hx hb ht iX2 hown hK hP 0 rfl rfl 11 (by decide) (ht _ kw_152) (fun _ h9 => h9) rfl dX2_addClaim_43 ?_
    refine lv_iload_n hx hb dX2_addClaim_46 rfl (lv_at hl 2 rfl) ?_
    obtain ⟨g_8, h⟩ := zk_gd h
    obtain ⟨f_9, ef_9, h⟩ := zk_lt h
    refine va_iast hx hb hK hP hD hS 3 0 rfl rfl g_8 dX2_addClaim_47 (fun H locs hP hD hS => ?_)
    have hP : va_P D classes (wl_X2_addClaim ad cs court_shoeCount court_claimCount court_suitCount f_4 f_7 f_9 court_claimPlea) H := by rw [ef_9]; exact hP
    have hD : va_D A (wl_X2_addClaim ad cs court_shoeCount court_claimCount court_suitCount f_4 f_7 f_9 court_claimPlea) := by rw [ef_9]; exact hD
    refine lv_aload_n hx hb dX2_addClaim_48 rfl (lv_at hl 0 rfl) ?_
    refine va_get (D := D) (ci := 2) (v := .ref (ad 12)) (C := RX2) (T := TX2) (N := 13) hx hb ht iX2 hown hK hP 0 rfl rfl 7 (by decide) (ht _ kw_140) (fun _ h9 => h9) rfl dX2_addClaim_49 ?_
    refine lv_aload_n hx hb dX2_addClaim_52 rfl (lv_at hl 0 rfl) ?_
    refine va_get (D := D) (ci := 2) (v := .int court_claimCount) (C := RX2) (T := TX2) (N := 13) hx hb ht iX2 hown hK hP 0 rfl rfl 11 (by decide) (ht _ kw_152) (fun _ h9 => h9) rfl dX2_addClaim_53 ?_
    refine lv_iload_n hx hb dX2_addClaim_56 rfl (lv_at hl 3 rfl) ?_
    obtain ⟨g_10, h⟩ := zk_gd h
    obtain ⟨f_11, ef_11, h⟩ := zk_lt h
    refine va_iast hx hb hK hP hD hS 4 0 rfl rfl g_10 dX2_addClaim_57 (fun H locs hP hD hS => ?_)
    have hP : va_P D classes (wl_X2_addClaim ad cs court_shoeCount court_claimCount court_suitCount f_4 f_7 f_9 f_11) H := by rw [ef_11]; exact hP
    have hD : va_D A (wl_X2_addClaim ad cs court_shoeCount court_claimCount court_suitCount f_4 f_7 f_9 f_11) := by rw [ef_11]; exact hD
    refine lv_aload_n hx hb dX2_addClaim_58 rfl (lv_at hl 0 rfl) ?_
    refine lv_dup hx hb dX2_addClaim_59 rfl ?_
    refine va_get (D := D) (ci := 2) (v := .int court_claimCount) (C := RX2) (T := TX2) (N := 13) hx hb ht iX2 hown hK hP 0 rfl rfl 11 (by decide) (ht _ kw_152) (fun _ h9 => h9) rfl dX2_addClaim_60 ?_
    refine lv_iconst (v := (1 : Int32)) hx hb dX2_addClaim_63 (by decide) ?_
    refine lv_iadd hx hb dX2_addClaim_64 ?_
    obtain ⟨v_12, ev_12, h⟩ := zk_lt h
    refine W.eq (g2 := F0 m 65 ls [.int v_12, .ref (ad 4)]) (by rw [ev_12]) ?_
    refine va_put (D := D) (ci := 2) (v := .int v_12) (ty := .int) (C := RX2) (T := TX2) (N := 13) hx hb ht iX2 tyX2 tyX2_ok nmX2 hown hK hP hD hS 0 rfl rfl 11 (by decide) (ht _ kw_152) (fun _ h9 => h9) rfl (by decide +kernel) rfl rfl (Nat.le_of_ble_eq_true rfl) dX2_addClaim_65 (fun H locs hP hD hS => ?_)
    have hP : va_P D classes (wl_X2_addClaim ad cs court_shoeCount v_12 court_suitCount f_4 f_7 f_9 f_11) H := hP
    have hD : va_D A (wl_X2_addClaim ad cs court_shoeCount v_12 court_suitCount f_4 f_7 f_9 f_11) := hD
    refine lv_aload_n hx hb dX2_addClaim_68 rfl (lv_at hl 0 rfl) ?_
    refine va_get (D := D) (ci := 2) (v := .int v_12) (C := RX2) (T := TX2) (N := 13) hx hb ht iX2 hown hK hP 0 rfl rfl 11 (by decide) (ht _ kw_152) (fun _ h9 => h9) rfl dX2_addClaim_69 ?_
    refine lv_iconst (v := (1 : Int32)) hx hb dX2_addClaim_72 (by decide) ?_
    refine lv_isub hx hb dX2_addClaim_73 ?_
    exact W.iret (v := v_12 - (1 : Int32)) hx hb hr (fun t ht2 hW => ⟨⟨v_12 - (1 : Int32), (v_12, f_4, f_7, f_9, f_11), rfl, Option.some.inj h, by rw [ht2]; exact hP, hD⟩, hS.F ht2⟩) hS.2.2 dX2_addClaim_74 hlocks
  · have h := zk_f c_1 h
    refine lv_bipush (v := (-3 : Int32)) hx hb dX2_addClaim_9 (by decide) ?_
    exact W.iret (v := (-3 : Int32)) hx hb hr (fun t ht2 hW => ⟨⟨(-3 : Int32), (court_claimCount, court_claimWho, court_claimAgainst, court_claimFact, court_claimPlea), rfl, Option.some.inj h, by rw [ht2]; exact hP, hD⟩, hS.F ht2⟩) hS.2.2 dX2_addClaim_11 hlocks
set_option maxHeartbeats 4000000 in
set_option maxRecDepth 100000 in
theorem c_X2_addClaim (l : Launch) (D : va_G) (cs : Nat → ClassId) (ad : Nat → Nat) (sz : Nat) (x1 : Int32) (x2 : Int32) (x3 : Int32) (court_shoeCount : Int32) (court_claimCount : Int32) (court_suitCount : Int32) (court_claimWho : Nat → Int32) (court_claimAgainst : Nat → Int32) (court_claimFact : Nat → Int32) (court_claimPlea : Nat → Int32) (R : Int32 × Int32 × (Nat → Int32) × (Nat → Int32) × (Nat → Int32) × (Nat → Int32)) (h : f_X2_addClaim   x1 x2 x3 court_shoeCount court_claimCount court_suitCount court_claimWho court_claimAgainst court_claimFact court_claimPlea = some R) : Met l yX2_addClaim (z_X2_addClaim) rm_X2_addClaim (va_Pc [.ref (ad 4), .int x1, .int x2, .int x3] (zPre D cs (wl_X2_addClaim ad cs court_shoeCount court_claimCount court_suitCount court_claimWho court_claimAgainst court_claimFact court_claimPlea) sz)) (Q_X2_addClaim D cs ad court_shoeCount court_suitCount (va_A (wl_X2_addClaim ad cs court_shoeCount court_claimCount court_suitCount court_claimWho court_claimAgainst court_claimFact court_claimPlea) sz) R) 0 0 (va_A (wl_X2_addClaim ad cs court_shoeCount court_claimCount court_suitCount court_claimWho court_claimAgainst court_claimFact court_claimPlea) sz) := by
  refine Met.ofW (cc := cX2_addClaim) (maxL := 4) (ret := (some .int)) (by decide) rfl ?_
  intro p e s m args below meth c s₁ B hml hv
  obtain ⟨rfl, hsz, hP, hK, hD0⟩ := hv
  subst hsz
  have hD := hD0.self (sz := s.heap.size)
  have C0 : zC p s m _ meth c cX2_addClaim 4 (some .int) RX2 zW := ⟨B.exec, B.bytes, B.returns, hml, findClass_of_methodNamed B.named, fun w hw => atoms_spec (ws := z_X2_addClaim) B.pre w (List.mem_cons_of_mem _ hw), B.notSynchronized⟩
  have hA : ∀ q : Nat, s.heap.size ≤ q → va_A (wl_X2_addClaim ad cs court_shoeCount court_claimCount court_suitCount court_claimWho court_claimAgainst court_claimFact court_claimPlea) s.heap.size q := fun q h => Or.inr h
  have hl := lv_entry ([.ref (ad 4), .int x1, .int x2, .int x3]) (n := 4) (Nat.le_of_ble_eq_true rfl)
  rw [lg_entry_eq]
  generalize (lg_sl ([.ref (ad 4), .int x1, .int x2, .int x3]) ++ List.replicate (4 - (lg_sl ([.ref (ad 4), .int x1, .int x2, .int x3])).length) Slot.unset).toArray = ls at hl ⊢
  exact L_X2_addClaim_0 C0 hK hA   x1 x2 x3 court_claimCount court_claimWho court_claimAgainst court_claimFact court_claimPlea h s.heap [] ls hP hD va_S.rf hl
theorem kw_143 : Cond.fieldLink RX2 38 "AlreadyJudged$Court" "suits" "[LAlreadyJudged$Suit;" ∈ zW := zwC (i := 69) zc_1 rfl rfl
theorem kw_154 : Cond.fieldLink RX2 59 "AlreadyJudged$Court" "suitCount" "I" ∈ zW := zwC (i := 80) zc_1 rfl rfl
theorem zh_cX2_suitAt_0 : zck [27, 155, 0, 20, 27, 42, 180, 0, 59, 162, 0, 12, 42, 180, 0, 38, 27, 50, 167, 0, 4, 1] (zdu 0 cX2_suitAt.data.toList) = true := by decide +kernel
theorem dX2_suitAt_0 : decode cX2_suitAt 0 = .ok (.iload_n 1, 1) := zo_27 zh_cX2_suitAt_0 0 rfl
theorem dX2_suitAt_1 : decode cX2_suitAt 1 = .ok (.ifCond .lt 20, 3) := zo_p155 zh_cX2_suitAt_0 1 20 rfl rfl
theorem dX2_suitAt_4 : decode cX2_suitAt 4 = .ok (.iload_n 1, 1) := zo_27 zh_cX2_suitAt_0 4 rfl
theorem dX2_suitAt_5 : decode cX2_suitAt 5 = .ok (.aload_n 0, 1) := zo_42 zh_cX2_suitAt_0 5 rfl
theorem dX2_suitAt_6 : decode cX2_suitAt 6 = .ok (.getfield 59, 3) := zo_180 zh_cX2_suitAt_0 6 rfl
theorem dX2_suitAt_9 : decode cX2_suitAt 9 = .ok (.if_icmp .ge 12, 3) := zo_p162 zh_cX2_suitAt_0 9 12 rfl rfl
theorem dX2_suitAt_12 : decode cX2_suitAt 12 = .ok (.aload_n 0, 1) := zo_42 zh_cX2_suitAt_0 12 rfl
theorem dX2_suitAt_13 : decode cX2_suitAt 13 = .ok (.getfield 38, 3) := zo_180 zh_cX2_suitAt_0 13 rfl
theorem dX2_suitAt_16 : decode cX2_suitAt 16 = .ok (.iload_n 1, 1) := zo_27 zh_cX2_suitAt_0 16 rfl
theorem zo_50 {c : ByteArray} {s : Nat} {K : List Nat} (h : zck K (zdu s c.data.toList) = true) (k : Nat) (hk : zt1 K k 50 = true) : decode c (s + k) = .ok (.aaload, 1) := zde ((zbd (zu1 (zh1 h hk))).trans rfl)
theorem dX2_suitAt_17 : decode cX2_suitAt 17 = .ok (.aaload, 1) := zo_50 zh_cX2_suitAt_0 17 rfl
theorem dX2_suitAt_18 : decode cX2_suitAt 18 = .ok (.goto 4, 3) := zo_p167 zh_cX2_suitAt_0 18 4 rfl rfl
theorem zo_1 {c : ByteArray} {s : Nat} {K : List Nat} (h : zck K (zdu s c.data.toList) = true) (k : Nat) (hk : zt1 K k 1 = true) : decode c (s + k) = .ok (.aconst_null, 1) := zde ((zbd (zu1 (zh1 h hk))).trans rfl)
theorem zh_cX2_suitAt_1 : zck [4, 1, 176] (zdu 20 cX2_suitAt.data.toList) = true := by decide +kernel
theorem dX2_suitAt_21 : decode cX2_suitAt 21 = .ok (.aconst_null, 1) := zo_1 zh_cX2_suitAt_1 1 rfl
theorem zo_176 {c : ByteArray} {s : Nat} {K : List Nat} (h : zck K (zdu s c.data.toList) = true) (k : Nat) (hk : zt1 K k 176 = true) : decode c (s + k) = .ok (.areturn, 1) := zde ((zbd (zu1 (zh1 h hk))).trans rfl)
theorem dX2_suitAt_22 : decode cX2_suitAt 22 = .ok (.areturn, 1) := zo_176 zh_cX2_suitAt_1 2 rfl
abbrev z_X2_suitAt : List Cond := .code yX2_suitAt cX2_suitAt 2 (some (.object "AlreadyJudged$Suit")) :: zW
abbrev wx_X2_suitAt (ad : Nat → Nat) (cs : Nat → ClassId) (PL : va_W) (S_a : Nat → Nat) (S_b : Nat → Nat) (court_shoeCount : Int32) (court_claimCount : Int32) (court_suitCount : Int32) (court_suits : Nat → Option Nat) (S_who : Nat → Int32) (S_against : Nat → Int32) (S_kind : Nat → Int32) (S_won : Nat → Int32) (S_day : Nat → Int32) (S_land : Nat → Int32) (S_undoneFrom : Nat → Int32) (S_asked : Nat → Nat → Int32) (S_askedCount : Nat → Int32) (S_askedBits : Nat → Int32) (S_first : Nat → Int32) (S_foundSo : Nat → Int32) (S_foundNot : Nat → Int32) (S_fought : Nat → Int32) (S_needed : Nat → Int32) : va_W := [((ad 4), .inr (2, [.ref (ad 5), .ref (ad 6), .ref (ad 7), .ref (ad 8), .ref (ad 9), .ref (ad 10), .ref (ad 11), .ref (ad 12), .ref (ad 13), .ref (ad 14), .int court_shoeCount, .int court_claimCount, .int court_suitCount])), ((ad 13), .inl (cs 5, 40, .inr (.inr (.inr (.inr court_suits)))))]
abbrev wl_X2_suitAt (ad : Nat → Nat) (cs : Nat → ClassId) (PL : va_W) (S_a : Nat → Nat) (S_b : Nat → Nat) (court_shoeCount : Int32) (court_claimCount : Int32) (court_suitCount : Int32) (court_suits : Nat → Option Nat) (S_who : Nat → Int32) (S_against : Nat → Int32) (S_kind : Nat → Int32) (S_won : Nat → Int32) (S_day : Nat → Int32) (S_land : Nat → Int32) (S_undoneFrom : Nat → Int32) (S_asked : Nat → Nat → Int32) (S_askedCount : Nat → Int32) (S_askedBits : Nat → Int32) (S_first : Nat → Int32) (S_foundSo : Nat → Int32) (S_foundNot : Nat → Int32) (S_fought : Nat → Int32) (S_needed : Nat → Int32) : va_W := wx_X2_suitAt ad cs PL S_a S_b court_shoeCount court_claimCount court_suitCount court_suits S_who S_against S_kind S_won S_day S_land S_undoneFrom S_asked S_askedCount S_askedBits S_first S_foundSo S_foundNot S_fought S_needed ++ PL
def Q_X2_suitAt (D : va_G) (cs : Nat → ClassId) (ad : Nat → Nat) (PL : va_W) (S_a : Nat → Nat) (S_b : Nat → Nat) (court_shoeCount : Int32) (court_claimCount : Int32) (court_suitCount : Int32) (court_suits : Nat → Option Nat) (S_who : Nat → Int32) (S_against : Nat → Int32) (S_kind : Nat → Int32) (S_won : Nat → Int32) (S_day : Nat → Int32) (S_land : Nat → Int32) (S_undoneFrom : Nat → Int32) (S_asked : Nat → Nat → Int32) (S_askedCount : Nat → Int32) (S_askedBits : Nat → Int32) (S_first : Nat → Int32) (S_foundSo : Nat → Int32) (S_foundNot : Nat → Int32) (S_fought : Nat → Int32) (S_needed : Nat → Int32) (A : Nat → Prop) (R : Int32 × Unit) : Array Value → State → Outcome → State → Prop :=
  va_Qq (fun (r : Option Nat) (u : Unit) => r = (if R.1 < 0 then none else some (S_a R.1.toNatClampNeg)) ∧ u = R.2) (fun (u : Unit) (t : State) => va_P D classes (wl_X2_suitAt ad cs PL S_a S_b court_shoeCount court_claimCount court_suitCount court_suits S_who S_against S_kind S_won S_day S_land S_undoneFrom S_asked S_askedCount S_askedBits S_first S_foundSo S_foundNot S_fought S_needed) t.heap ∧ va_D A (wl_X2_suitAt ad cs PL S_a S_b court_shoeCount court_claimCount court_suitCount court_suits S_who S_against S_kind S_won S_day S_land S_undoneFrom S_asked S_askedCount S_askedBits S_first S_foundSo S_foundNot S_fought S_needed)) A
abbrev rm_X2_suitAt : Room := { frames := 0, cells := 0, slots := 0, locals := 0 }
def B_X2_suitAt_0    (court_shoeCount : Int32) (court_claimCount : Int32) (court_suitCount : Int32) (court_suits : Nat → Option Nat) (S_who : Nat → Int32) (S_against : Nat → Int32) (S_kind : Nat → Int32) (S_won : Nat → Int32) (S_day : Nat → Int32) (S_land : Nat → Int32) (S_undoneFrom : Nat → Int32) (S_asked : Nat → Nat → Int32) (S_askedCount : Nat → Int32) (S_askedBits : Nat → Int32) (S_first : Nat → Int32) (S_foundSo : Nat → Int32) (S_foundNot : Nat → Int32) (S_fought : Nat → Int32) (S_needed : Nat → Int32) (x1 : Int32) : Option (Int32 × Unit) :=
  (if x1 < 0 then (some ((-1 : Int32), ())) else (if court_suitCount ≤ x1 then (some ((-1 : Int32), ())) else (if (x1 < 0 ∨ 40 ≤ x1.toNatClampNeg) then none else (if (x1 < 0 ∨ court_suitCount ≤ x1) then none else (if x1 < 0 then none else (some (x1, ())))))))
def f_X2_suitAt   (x1 : Int32) (court_shoeCount : Int32) (court_claimCount : Int32) (court_suitCount : Int32) (court_suits : Nat → Option Nat) (S_who : Nat → Int32) (S_against : Nat → Int32) (S_kind : Nat → Int32) (S_won : Nat → Int32) (S_day : Nat → Int32) (S_land : Nat → Int32) (S_undoneFrom : Nat → Int32) (S_asked : Nat → Nat → Int32) (S_askedCount : Nat → Int32) (S_askedBits : Nat → Int32) (S_first : Nat → Int32) (S_foundSo : Nat → Int32) (S_foundNot : Nat → Int32) (S_fought : Nat → Int32) (S_needed : Nat → Int32) : Option (Int32 × Unit) := B_X2_suitAt_0   court_shoeCount court_claimCount court_suitCount court_suits S_who S_against S_kind S_won S_day S_land S_undoneFrom S_asked S_askedCount S_askedBits S_first S_foundSo S_foundNot S_fought S_needed x1 
set_option maxHeartbeats 4000000 in
set_option maxRecDepth 100000 in
theorem L_X2_suitAt_0 {p : Program} {l : Launch} {e : Env} {s : State} {m : MethodId} {args : Array Value} {below : List Frame} {meth : Method} {c : Code} {A : Nat → Prop} {D : va_G} {cs : Nat → ClassId} {ad : Nat → Nat} {PL : va_W} {S_a : Nat → Nat} {S_b : Nat → Nat} {court_shoeCount : Int32} {court_claimCount : Int32} {court_suitCount : Int32} {court_suits : Nat → Option Nat} {S_who : Nat → Int32} {S_against : Nat → Int32} {S_kind : Nat → Int32} {S_won : Nat → Int32} {S_day : Nat → Int32} {S_land : Nat → Int32} {S_undoneFrom : Nat → Int32} {S_asked : Nat → Nat → Int32} {S_askedCount : Nat → Int32} {S_askedBits : Nat → Int32} {S_first : Nat → Int32} {S_foundSo : Nat → Int32} {S_foundNot : Nat → Int32} {S_fought : Nat → Int32} {S_needed : Nat → Int32} {R : Int32 × Unit} (C0 : zC p s m args meth c cX2_suitAt 2 (some (.object "AlreadyJudged$Suit")) RX2 zW) (hK : va_K D classes (zT cs) s) (hA : ∀ q : Nat, s.heap.size ≤ q → A q) (hSU : PSu cs PL court_suitCount court_suits S_a S_b S_who S_against S_kind S_won S_day S_land S_undoneFrom S_asked S_askedCount S_askedBits S_first S_foundSo S_foundNot S_fought S_needed) (x1 : Int32) (h : B_X2_suitAt_0 court_shoeCount court_claimCount court_suitCount court_suits S_who S_against S_kind S_won S_day S_land S_undoneFrom S_asked S_askedCount S_askedBits S_first S_foundSo S_foundNot S_fought S_needed x1 = some R) (H : Heap) (locs : List Loc) (ls : Array Slot) (hP : va_P D classes (wl_X2_suitAt ad cs PL S_a S_b court_shoeCount court_claimCount court_suitCount court_suits S_who S_against S_kind S_won S_day S_land S_undoneFrom S_asked S_askedCount S_askedBits S_first S_foundSo S_foundNot S_fought S_needed) H) (hD : va_D A (wl_X2_suitAt ad cs PL S_a S_b court_shoeCount court_claimCount court_suitCount court_suits S_who S_against S_kind S_won S_day S_land S_undoneFrom S_asked S_askedCount S_askedBits S_first S_foundSo S_foundNot S_fought S_needed)) (hS : va_S A s.heap H locs) (hl : lv_has ls 2 [(0, .ref (ad 4)), (1, .int x1)]) : W p l e rm_X2_suitAt s m args below meth c H locs 0 0 (MQ below (Q_X2_suitAt D cs ad PL S_a S_b court_shoeCount court_claimCount court_suitCount court_suits S_who S_against S_kind S_won S_day S_land S_undoneFrom S_asked S_askedCount S_askedBits S_first S_foundSo S_foundNot S_fought S_needed A R) args s 0 0 A) (F0 m 0 ls []) := by
  obtain ⟨hx, hb, hr, hml, hown, ht, hlocks⟩ := id C0
  refine lv_iload_n hx hb dX2_suitAt_0 rfl (lv_at hl 1 rfl) ?_
  refine lv_if_lt (tgt := 21) hx hb dX2_suitAt_1 (by decide) (fun c_1 => ?_) (fun c_1 => ?_)
  · have h := zk_t c_1 h
    refine lv_null hx hb dX2_suitAt_21 ?_
    exact W.aret (v := va_rf none) hx hb hr (Or.inl ⟨_, rfl⟩) (Or.inl rfl) (fun t ht2 hW => ⟨⟨none, (), rfl, ⟨by rw [← Option.some.inj h]; exact (if_pos (by decide)).symm, by rw [← Option.some.inj h]⟩, by rw [ht2]; exact hP, hD⟩, hS.F ht2⟩) hS.2.2 dX2_suitAt_22 hlocks
  · have h := zk_f c_1 h
    refine lv_iload_n hx hb dX2_suitAt_4 rfl (lv_at hl 1 rfl) ?_
    refine lv_aload_n hx hb dX2_suitAt_5 rfl (lv_at hl 0 rfl) ?_
    refine va_get (D := D) (ci := 2) (v := .int court_suitCount) (C := RX2) (T := TX2) (N := 13) hx hb ht iX2 hown hK hP 0 rfl rfl 12 (by decide) (ht _ kw_154) (fun _ h9 => h9) rfl dX2_suitAt_6 ?_
    refine lv_icmp_ge (tgt := 21) hx hb dX2_suitAt_9 (by decide) (fun c_2 => ?_) (fun c_2 => ?_)
    · have h := zk_t c_2 h
      refine lv_null hx hb dX2_suitAt_21 ?_
      exact W.aret (v := va_rf none) hx hb hr (Or.inl ⟨_, rfl⟩) (Or.inl rfl) (fun t ht2 hW => ⟨⟨none, (), rfl, ⟨by rw [← Option.some.inj h]; exact (if_pos (by decide)).symm, by rw [← Option.some.inj h]⟩, by rw [ht2]; exact hP, hD⟩, hS.F ht2⟩) hS.2.2 dX2_suitAt_22 hlocks
    · have h := zk_f c_2 h
      refine lv_aload_n hx hb dX2_suitAt_12 rfl (lv_at hl 0 rfl) ?_
      refine va_get (D := D) (ci := 2) (v := .ref (ad 13)) (C := RX2) (T := TX2) (N := 13) hx hb ht iX2 hown hK hP 0 rfl rfl 8 (by decide) (ht _ kw_143) (fun _ h9 => h9) rfl dX2_suitAt_13 ?_
      refine lv_iload_n hx hb dX2_suitAt_16 rfl (lv_at hl 1 rfl) ?_
      obtain ⟨g_3, h⟩ := zk_gd h
      obtain ⟨g_4, h⟩ := zk_gd h
      obtain ⟨hs_5, ⟨_, hj_6⟩, ⟨_, hj_7⟩⟩ := hSU _ (zs_lt2 g_4)
      refine va_aldq hx hb hK hP 1 5 rfl rfl g_3 dX2_suitAt_17 ?_
      refine W.eq (g2 := F0 m 18 ls [.ref (S_a x1.toNatClampNeg)]) (by rw [hs_5]; rfl) ?_
      refine lv_goto (tgt := 22) hx hb dX2_suitAt_18 (by decide) ?_
      obtain ⟨g_8, h⟩ := zk_gd h
      exact W.aret (v := va_rf (some (S_a x1.toNatClampNeg))) hx hb hr (Or.inl ⟨_, rfl⟩) (Or.inr ⟨_, rfl⟩) (fun t ht2 hW => ⟨⟨(some (S_a x1.toNatClampNeg)), (), rfl, ⟨by rw [← Option.some.inj h]; exact (if_neg g_8).symm, by rw [← Option.some.inj h]⟩, by rw [ht2]; exact hP, hD⟩, hS.F ht2⟩) hS.2.2 dX2_suitAt_22 hlocks
set_option maxHeartbeats 4000000 in
set_option maxRecDepth 100000 in
theorem c_X2_suitAt (l : Launch) (D : va_G) (cs : Nat → ClassId) (ad : Nat → Nat) (PL : va_W) (S_a : Nat → Nat) (S_b : Nat → Nat) (sz : Nat) (x1 : Int32) (court_shoeCount : Int32) (court_claimCount : Int32) (court_suitCount : Int32) (court_suits : Nat → Option Nat) (S_who : Nat → Int32) (S_against : Nat → Int32) (S_kind : Nat → Int32) (S_won : Nat → Int32) (S_day : Nat → Int32) (S_land : Nat → Int32) (S_undoneFrom : Nat → Int32) (S_asked : Nat → Nat → Int32) (S_askedCount : Nat → Int32) (S_askedBits : Nat → Int32) (S_first : Nat → Int32) (S_foundSo : Nat → Int32) (S_foundNot : Nat → Int32) (S_fought : Nat → Int32) (S_needed : Nat → Int32) (hSU : PSu cs PL court_suitCount court_suits S_a S_b S_who S_against S_kind S_won S_day S_land S_undoneFrom S_asked S_askedCount S_askedBits S_first S_foundSo S_foundNot S_fought S_needed) (R : Int32 × Unit) (h : f_X2_suitAt   x1 court_shoeCount court_claimCount court_suitCount court_suits S_who S_against S_kind S_won S_day S_land S_undoneFrom S_asked S_askedCount S_askedBits S_first S_foundSo S_foundNot S_fought S_needed = some R) : Met l yX2_suitAt (z_X2_suitAt) rm_X2_suitAt (va_Pc [.ref (ad 4), .int x1] (zPre D cs (wl_X2_suitAt ad cs PL S_a S_b court_shoeCount court_claimCount court_suitCount court_suits S_who S_against S_kind S_won S_day S_land S_undoneFrom S_asked S_askedCount S_askedBits S_first S_foundSo S_foundNot S_fought S_needed) sz)) (Q_X2_suitAt D cs ad PL S_a S_b court_shoeCount court_claimCount court_suitCount court_suits S_who S_against S_kind S_won S_day S_land S_undoneFrom S_asked S_askedCount S_askedBits S_first S_foundSo S_foundNot S_fought S_needed (va_A (wl_X2_suitAt ad cs PL S_a S_b court_shoeCount court_claimCount court_suitCount court_suits S_who S_against S_kind S_won S_day S_land S_undoneFrom S_asked S_askedCount S_askedBits S_first S_foundSo S_foundNot S_fought S_needed) sz) R) 0 0 (va_A (wl_X2_suitAt ad cs PL S_a S_b court_shoeCount court_claimCount court_suitCount court_suits S_who S_against S_kind S_won S_day S_land S_undoneFrom S_asked S_askedCount S_askedBits S_first S_foundSo S_foundNot S_fought S_needed) sz) := by
  refine Met.ofW (cc := cX2_suitAt) (maxL := 2) (ret := (some (.object "AlreadyJudged$Suit"))) (by decide) rfl ?_
  intro p e s m args below meth c s₁ B hml hv
  obtain ⟨rfl, hsz, hP, hK, hD0⟩ := hv
  subst hsz
  have hD := hD0.self (sz := s.heap.size)
  have C0 : zC p s m _ meth c cX2_suitAt 2 (some (.object "AlreadyJudged$Suit")) RX2 zW := ⟨B.exec, B.bytes, B.returns, hml, findClass_of_methodNamed B.named, fun w hw => atoms_spec (ws := z_X2_suitAt) B.pre w (List.mem_cons_of_mem _ hw), B.notSynchronized⟩
  have hA : ∀ q : Nat, s.heap.size ≤ q → va_A (wl_X2_suitAt ad cs PL S_a S_b court_shoeCount court_claimCount court_suitCount court_suits S_who S_against S_kind S_won S_day S_land S_undoneFrom S_asked S_askedCount S_askedBits S_first S_foundSo S_foundNot S_fought S_needed) s.heap.size q := fun q h => Or.inr h
  have hl := lv_entry ([.ref (ad 4), .int x1]) (n := 2) (Nat.le_of_ble_eq_true rfl)
  rw [lg_entry_eq]
  generalize (lg_sl ([.ref (ad 4), .int x1]) ++ List.replicate (2 - (lg_sl ([.ref (ad 4), .int x1])).length) Slot.unset).toArray = ls at hl ⊢
  exact L_X2_suitAt_0 C0 hK hA hSU   x1  h s.heap [] ls hP hD va_S.rf hl
theorem kw_353 : Cond.fieldLink RX7 37 "AlreadyJudged$Suit" "needed" "I" ∈ zW := zwC (i := 39) zc_2 rfl rfl
theorem zh_cX7_hasNeeded_0 : zck [42, 180, 0, 37, 27, 122, 4, 126, 153, 0, 7, 4, 167, 0, 4, 3, 172] (zdu 0 cX7_hasNeeded.data.toList) = true := by decide +kernel
theorem dX7_hasNeeded_0 : decode cX7_hasNeeded 0 = .ok (.aload_n 0, 1) := zo_42 zh_cX7_hasNeeded_0 0 rfl
theorem dX7_hasNeeded_1 : decode cX7_hasNeeded 1 = .ok (.getfield 37, 3) := zo_180 zh_cX7_hasNeeded_0 1 rfl
theorem dX7_hasNeeded_4 : decode cX7_hasNeeded 4 = .ok (.iload_n 1, 1) := zo_27 zh_cX7_hasNeeded_0 4 rfl
theorem dX7_hasNeeded_5 : decode cX7_hasNeeded 5 = .ok (.ishr, 1) := zo_122 zh_cX7_hasNeeded_0 5 rfl
theorem dX7_hasNeeded_6 : decode cX7_hasNeeded 6 = .ok (.iconst 1, 1) := zo_4 zh_cX7_hasNeeded_0 6 rfl
theorem dX7_hasNeeded_7 : decode cX7_hasNeeded 7 = .ok (.iand, 1) := zo_126 zh_cX7_hasNeeded_0 7 rfl
theorem dX7_hasNeeded_8 : decode cX7_hasNeeded 8 = .ok (.ifCond .eq 7, 3) := zo_p153 zh_cX7_hasNeeded_0 8 7 rfl rfl
theorem dX7_hasNeeded_11 : decode cX7_hasNeeded 11 = .ok (.iconst 1, 1) := zo_4 zh_cX7_hasNeeded_0 11 rfl
theorem dX7_hasNeeded_12 : decode cX7_hasNeeded 12 = .ok (.goto 4, 3) := zo_p167 zh_cX7_hasNeeded_0 12 4 rfl rfl
theorem dX7_hasNeeded_15 : decode cX7_hasNeeded 15 = .ok (.iconst 0, 1) := zo_3 zh_cX7_hasNeeded_0 15 rfl
theorem dX7_hasNeeded_16 : decode cX7_hasNeeded 16 = .ok (.ireturn, 1) := zo_172 zh_cX7_hasNeeded_0 16 rfl
abbrev z_X7_hasNeeded : List Cond := .code yX7_hasNeeded cX7_hasNeeded 2 (some .boolean) :: zW
abbrev wl_X7_hasNeeded (ad : Nat → Nat) (cs : Nat → ClassId) (h_su : Nat) (h_su_asked : Nat) (su_who : Int32) (su_against : Int32) (su_kind : Int32) (su_won : Int32) (su_day : Int32) (su_land : Int32) (su_undoneFrom : Int32) (su_askedCount : Int32) (su_askedBits : Int32) (su_first : Int32) (su_foundSo : Int32) (su_foundNot : Int32) (su_fought : Int32) (su_needed : Int32) : va_W := [(h_su, .inr (7, [.int su_who, .int su_against, .int su_kind, .int su_won, .int su_day, .int su_land, .int su_undoneFrom, .ref h_su_asked, .int su_askedCount, .int su_askedBits, .int su_first, .int su_foundSo, .int su_foundNot, .int su_fought, .int su_needed]))]
def Q_X7_hasNeeded (D : va_G) (cs : Nat → ClassId) (ad : Nat → Nat) (h_su : Nat) (h_su_asked : Nat) (su_who : Int32) (su_against : Int32) (su_kind : Int32) (su_won : Int32) (su_day : Int32) (su_land : Int32) (su_undoneFrom : Int32) (su_askedCount : Int32) (su_askedBits : Int32) (su_first : Int32) (su_foundSo : Int32) (su_foundNot : Int32) (su_fought : Int32) (su_needed : Int32) (A : Nat → Prop) (R : Int32 × Unit) : Array Value → State → Outcome → State → Prop :=
  va_Qi (fun (r : Int32) (u : Unit) => (r, u) = R) (fun (u : Unit) (t : State) => va_P D classes (wl_X7_hasNeeded ad cs h_su h_su_asked su_who su_against su_kind su_won su_day su_land su_undoneFrom su_askedCount su_askedBits su_first su_foundSo su_foundNot su_fought su_needed) t.heap ∧ va_D A (wl_X7_hasNeeded ad cs h_su h_su_asked su_who su_against su_kind su_won su_day su_land su_undoneFrom su_askedCount su_askedBits su_first su_foundSo su_foundNot su_fought su_needed)) A
abbrev rm_X7_hasNeeded : Room := { frames := 0, cells := 0, slots := 0, locals := 0 }
def B_X7_hasNeeded_0    (su_who : Int32) (su_against : Int32) (su_kind : Int32) (su_won : Int32) (su_day : Int32) (su_land : Int32) (su_undoneFrom : Int32) (su_askedCount : Int32) (su_askedBits : Int32) (su_first : Int32) (su_foundSo : Int32) (su_foundNot : Int32) (su_fought : Int32) (su_needed : Int32) (x1 : Int32) : Option (Int32 × Unit) :=
  (if ((su_needed >>> (x1 &&& 31)) &&& (1 : Int32)) = 0 then (some ((0 : Int32), ())) else (some ((1 : Int32), ())))
def f_X7_hasNeeded   (x1 : Int32) (su_who : Int32) (su_against : Int32) (su_kind : Int32) (su_won : Int32) (su_day : Int32) (su_land : Int32) (su_undoneFrom : Int32) (su_askedCount : Int32) (su_askedBits : Int32) (su_first : Int32) (su_foundSo : Int32) (su_foundNot : Int32) (su_fought : Int32) (su_needed : Int32) : Option (Int32 × Unit) := B_X7_hasNeeded_0   su_who su_against su_kind su_won su_day su_land su_undoneFrom su_askedCount su_askedBits su_first su_foundSo su_foundNot su_fought su_needed x1 
set_option maxHeartbeats 4000000 in
set_option maxRecDepth 100000 in
theorem L_X7_hasNeeded_0 {p : Program} {l : Launch} {e : Env} {s : State} {m : MethodId} {args : Array Value} {below : List Frame} {meth : Method} {c : Code} {A : Nat → Prop} {D : va_G} {cs : Nat → ClassId} {ad : Nat → Nat} {h_su : Nat} {h_su_asked : Nat} {su_who : Int32} {su_against : Int32} {su_kind : Int32} {su_won : Int32} {su_day : Int32} {su_land : Int32} {su_undoneFrom : Int32} {su_askedCount : Int32} {su_askedBits : Int32} {su_first : Int32} {su_foundSo : Int32} {su_foundNot : Int32} {su_fought : Int32} {su_needed : Int32} {R : Int32 × Unit} (C0 : zC p s m args meth c cX7_hasNeeded 2 (some .boolean) RX7 zW) (hK : va_K D classes (zT cs) s) (hA : ∀ q : Nat, s.heap.size ≤ q → A q) (x1 : Int32) (h : B_X7_hasNeeded_0 su_who su_against su_kind su_won su_day su_land su_undoneFrom su_askedCount su_askedBits su_first su_foundSo su_foundNot su_fought su_needed x1 = some R) (H : Heap) (locs : List Loc) (ls : Array Slot) (hP : va_P D classes (wl_X7_hasNeeded ad cs h_su h_su_asked su_who su_against su_kind su_won su_day su_land su_undoneFrom su_askedCount su_askedBits su_first su_foundSo su_foundNot su_fought su_needed) H) (hD : va_D A (wl_X7_hasNeeded ad cs h_su h_su_asked su_who su_against su_kind su_won su_day su_land su_undoneFrom su_askedCount su_askedBits su_first su_foundSo su_foundNot su_fought su_needed)) (hS : va_S A s.heap H locs) (hl : lv_has ls 2 [(0, .ref h_su), (1, .int x1)]) : W p l e rm_X7_hasNeeded s m args below meth c H locs 0 0 (MQ below (Q_X7_hasNeeded D cs ad h_su h_su_asked su_who su_against su_kind su_won su_day su_land su_undoneFrom su_askedCount su_askedBits su_first su_foundSo su_foundNot su_fought su_needed A R) args s 0 0 A) (F0 m 0 ls []) := by
  obtain ⟨hx, hb, hr, hml, hown, ht, hlocks⟩ := id C0
  refine lv_aload_n hx hb dX7_hasNeeded_0 rfl (lv_at hl 0 rfl) ?_
  refine va_get (D := D) (ci := 7) (v := .int su_needed) (C := RX7) (T := TX7) (N := 15) hx hb ht iX7 hown hK hP 0 rfl rfl 14 (by decide) (ht _ kw_353) (fun _ h9 => h9) rfl dX7_hasNeeded_1 ?_
  refine lv_iload_n hx hb dX7_hasNeeded_4 rfl (lv_at hl 1 rfl) ?_
  refine lv_ishr hx hb dX7_hasNeeded_5 ?_
  refine lv_iconst (v := (1 : Int32)) hx hb dX7_hasNeeded_6 (by decide) ?_
  refine lv_iand hx hb dX7_hasNeeded_7 ?_
  refine lv_if_eq (tgt := 15) hx hb dX7_hasNeeded_8 (by decide) (fun c_1 => ?_) (fun c_1 => ?_)
  · have h := zk_t c_1 h
    refine lv_iconst (v := (0 : Int32)) hx hb dX7_hasNeeded_15 (by decide) ?_
    exact W.zret (ty := .boolean) (v := (0 : Int32)) hx hb hr rfl (fun t ht2 hW => ⟨⟨(0 : Int32), (), rfl, Option.some.inj h, by rw [ht2]; exact hP, hD⟩, hS.F ht2⟩) hS.2.2 dX7_hasNeeded_16 hlocks
  · have h := zk_f c_1 h
    refine lv_iconst (v := (1 : Int32)) hx hb dX7_hasNeeded_11 (by decide) ?_
    refine lv_goto (tgt := 16) hx hb dX7_hasNeeded_12 (by decide) ?_
    exact W.zret (ty := .boolean) (v := (1 : Int32)) hx hb hr rfl (fun t ht2 hW => ⟨⟨(1 : Int32), (), rfl, Option.some.inj h, by rw [ht2]; exact hP, hD⟩, hS.F ht2⟩) hS.2.2 dX7_hasNeeded_16 hlocks
set_option maxHeartbeats 4000000 in
set_option maxRecDepth 100000 in
theorem c_X7_hasNeeded (l : Launch) (D : va_G) (cs : Nat → ClassId) (ad : Nat → Nat) (h_su : Nat) (h_su_asked : Nat) (sz : Nat) (x1 : Int32) (su_who : Int32) (su_against : Int32) (su_kind : Int32) (su_won : Int32) (su_day : Int32) (su_land : Int32) (su_undoneFrom : Int32) (su_askedCount : Int32) (su_askedBits : Int32) (su_first : Int32) (su_foundSo : Int32) (su_foundNot : Int32) (su_fought : Int32) (su_needed : Int32) (R : Int32 × Unit) (h : f_X7_hasNeeded   x1 su_who su_against su_kind su_won su_day su_land su_undoneFrom su_askedCount su_askedBits su_first su_foundSo su_foundNot su_fought su_needed = some R) : Met l yX7_hasNeeded (z_X7_hasNeeded) rm_X7_hasNeeded (va_Pc [.ref h_su, .int x1] (zPre D cs (wl_X7_hasNeeded ad cs h_su h_su_asked su_who su_against su_kind su_won su_day su_land su_undoneFrom su_askedCount su_askedBits su_first su_foundSo su_foundNot su_fought su_needed) sz)) (Q_X7_hasNeeded D cs ad h_su h_su_asked su_who su_against su_kind su_won su_day su_land su_undoneFrom su_askedCount su_askedBits su_first su_foundSo su_foundNot su_fought su_needed (va_A (wl_X7_hasNeeded ad cs h_su h_su_asked su_who su_against su_kind su_won su_day su_land su_undoneFrom su_askedCount su_askedBits su_first su_foundSo su_foundNot su_fought su_needed) sz) R) 0 0 (va_A (wl_X7_hasNeeded ad cs h_su h_su_asked su_who su_against su_kind su_won su_day su_land su_undoneFrom su_askedCount su_askedBits su_first su_foundSo su_foundNot su_fought su_needed) sz) := by
  refine Met.ofW (cc := cX7_hasNeeded) (maxL := 2) (ret := (some .boolean)) (by decide) rfl ?_
  intro p e s m args below meth c s₁ B hml hv
  obtain ⟨rfl, hsz, hP, hK, hD0⟩ := hv
  subst hsz
  have hD := hD0.self (sz := s.heap.size)
  have C0 : zC p s m _ meth c cX7_hasNeeded 2 (some .boolean) RX7 zW := ⟨B.exec, B.bytes, B.returns, hml, findClass_of_methodNamed B.named, fun w hw => atoms_spec (ws := z_X7_hasNeeded) B.pre w (List.mem_cons_of_mem _ hw), B.notSynchronized⟩
  have hA : ∀ q : Nat, s.heap.size ≤ q → va_A (wl_X7_hasNeeded ad cs h_su h_su_asked su_who su_against su_kind su_won su_day su_land su_undoneFrom su_askedCount su_askedBits su_first su_foundSo su_foundNot su_fought su_needed) s.heap.size q := fun q h => Or.inr h
  have hl := lv_entry ([.ref h_su, .int x1]) (n := 2) (Nat.le_of_ble_eq_true rfl)
  rw [lg_entry_eq]
  generalize (lg_sl ([.ref h_su, .int x1]) ++ List.replicate (2 - (lg_sl ([.ref h_su, .int x1])).length) Slot.unset).toArray = ls at hl ⊢
  exact L_X7_hasNeeded_0 C0 hK hA   x1  h s.heap [] ls hP hD va_S.rf hl
theorem kw_346 : Cond.fieldLink RX7 28 "AlreadyJudged$Suit" "foundSo" "I" ∈ zW := zwC (i := 32) zc_2 rfl rfl
theorem kw_348 : Cond.fieldLink RX7 31 "AlreadyJudged$Suit" "foundNot" "I" ∈ zW := zwC (i := 34) zc_2 rfl rfl
theorem zh_cX7_wayOf_0 : zck [42, 180, 0, 28, 27, 122, 4, 126, 5, 42, 180, 0, 31, 27, 122, 4, 126, 104, 96, 172] (zdu 0 cX7_wayOf.data.toList) = true := by decide +kernel
theorem dX7_wayOf_0 : decode cX7_wayOf 0 = .ok (.aload_n 0, 1) := zo_42 zh_cX7_wayOf_0 0 rfl
theorem dX7_wayOf_1 : decode cX7_wayOf 1 = .ok (.getfield 28, 3) := zo_180 zh_cX7_wayOf_0 1 rfl
theorem dX7_wayOf_4 : decode cX7_wayOf 4 = .ok (.iload_n 1, 1) := zo_27 zh_cX7_wayOf_0 4 rfl
theorem dX7_wayOf_5 : decode cX7_wayOf 5 = .ok (.ishr, 1) := zo_122 zh_cX7_wayOf_0 5 rfl
theorem dX7_wayOf_6 : decode cX7_wayOf 6 = .ok (.iconst 1, 1) := zo_4 zh_cX7_wayOf_0 6 rfl
theorem dX7_wayOf_7 : decode cX7_wayOf 7 = .ok (.iand, 1) := zo_126 zh_cX7_wayOf_0 7 rfl
theorem dX7_wayOf_8 : decode cX7_wayOf 8 = .ok (.iconst 2, 1) := zo_5 zh_cX7_wayOf_0 8 rfl
theorem dX7_wayOf_9 : decode cX7_wayOf 9 = .ok (.aload_n 0, 1) := zo_42 zh_cX7_wayOf_0 9 rfl
theorem dX7_wayOf_10 : decode cX7_wayOf 10 = .ok (.getfield 31, 3) := zo_180 zh_cX7_wayOf_0 10 rfl
theorem dX7_wayOf_13 : decode cX7_wayOf 13 = .ok (.iload_n 1, 1) := zo_27 zh_cX7_wayOf_0 13 rfl
theorem dX7_wayOf_14 : decode cX7_wayOf 14 = .ok (.ishr, 1) := zo_122 zh_cX7_wayOf_0 14 rfl
theorem dX7_wayOf_15 : decode cX7_wayOf 15 = .ok (.iconst 1, 1) := zo_4 zh_cX7_wayOf_0 15 rfl
theorem dX7_wayOf_16 : decode cX7_wayOf 16 = .ok (.iand, 1) := zo_126 zh_cX7_wayOf_0 16 rfl
theorem dX7_wayOf_17 : decode cX7_wayOf 17 = .ok (.imul, 1) := zo_104 zh_cX7_wayOf_0 17 rfl
theorem dX7_wayOf_18 : decode cX7_wayOf 18 = .ok (.iadd, 1) := zo_96 zh_cX7_wayOf_0 18 rfl
theorem dX7_wayOf_19 : decode cX7_wayOf 19 = .ok (.ireturn, 1) := zo_172 zh_cX7_wayOf_0 19 rfl
abbrev z_X7_wayOf : List Cond := .code yX7_wayOf cX7_wayOf 2 (some .int) :: zW
abbrev wl_X7_wayOf (ad : Nat → Nat) (cs : Nat → ClassId) (h_su : Nat) (h_su_asked : Nat) (su_who : Int32) (su_against : Int32) (su_kind : Int32) (su_won : Int32) (su_day : Int32) (su_land : Int32) (su_undoneFrom : Int32) (su_askedCount : Int32) (su_askedBits : Int32) (su_first : Int32) (su_foundSo : Int32) (su_foundNot : Int32) (su_fought : Int32) (su_needed : Int32) : va_W := [(h_su, .inr (7, [.int su_who, .int su_against, .int su_kind, .int su_won, .int su_day, .int su_land, .int su_undoneFrom, .ref h_su_asked, .int su_askedCount, .int su_askedBits, .int su_first, .int su_foundSo, .int su_foundNot, .int su_fought, .int su_needed]))]
def Q_X7_wayOf (D : va_G) (cs : Nat → ClassId) (ad : Nat → Nat) (h_su : Nat) (h_su_asked : Nat) (su_who : Int32) (su_against : Int32) (su_kind : Int32) (su_won : Int32) (su_day : Int32) (su_land : Int32) (su_undoneFrom : Int32) (su_askedCount : Int32) (su_askedBits : Int32) (su_first : Int32) (su_foundSo : Int32) (su_foundNot : Int32) (su_fought : Int32) (su_needed : Int32) (A : Nat → Prop) (R : Int32 × Unit) : Array Value → State → Outcome → State → Prop :=
  va_Qi (fun (r : Int32) (u : Unit) => (r, u) = R) (fun (u : Unit) (t : State) => va_P D classes (wl_X7_wayOf ad cs h_su h_su_asked su_who su_against su_kind su_won su_day su_land su_undoneFrom su_askedCount su_askedBits su_first su_foundSo su_foundNot su_fought su_needed) t.heap ∧ va_D A (wl_X7_wayOf ad cs h_su h_su_asked su_who su_against su_kind su_won su_day su_land su_undoneFrom su_askedCount su_askedBits su_first su_foundSo su_foundNot su_fought su_needed)) A
abbrev rm_X7_wayOf : Room := { frames := 0, cells := 0, slots := 0, locals := 0 }
def B_X7_wayOf_0    (su_who : Int32) (su_against : Int32) (su_kind : Int32) (su_won : Int32) (su_day : Int32) (su_land : Int32) (su_undoneFrom : Int32) (su_askedCount : Int32) (su_askedBits : Int32) (su_first : Int32) (su_foundSo : Int32) (su_foundNot : Int32) (su_fought : Int32) (su_needed : Int32) (x1 : Int32) : Option (Int32 × Unit) :=
  (some (((su_foundSo >>> (x1 &&& 31)) &&& (1 : Int32)) + ((2 : Int32) * ((su_foundNot >>> (x1 &&& 31)) &&& (1 : Int32))), ()))
def f_X7_wayOf   (x1 : Int32) (su_who : Int32) (su_against : Int32) (su_kind : Int32) (su_won : Int32) (su_day : Int32) (su_land : Int32) (su_undoneFrom : Int32) (su_askedCount : Int32) (su_askedBits : Int32) (su_first : Int32) (su_foundSo : Int32) (su_foundNot : Int32) (su_fought : Int32) (su_needed : Int32) : Option (Int32 × Unit) := B_X7_wayOf_0   su_who su_against su_kind su_won su_day su_land su_undoneFrom su_askedCount su_askedBits su_first su_foundSo su_foundNot su_fought su_needed x1 
set_option maxHeartbeats 4000000 in
set_option maxRecDepth 100000 in
theorem L_X7_wayOf_0 {p : Program} {l : Launch} {e : Env} {s : State} {m : MethodId} {args : Array Value} {below : List Frame} {meth : Method} {c : Code} {A : Nat → Prop} {D : va_G} {cs : Nat → ClassId} {ad : Nat → Nat} {h_su : Nat} {h_su_asked : Nat} {su_who : Int32} {su_against : Int32} {su_kind : Int32} {su_won : Int32} {su_day : Int32} {su_land : Int32} {su_undoneFrom : Int32} {su_askedCount : Int32} {su_askedBits : Int32} {su_first : Int32} {su_foundSo : Int32} {su_foundNot : Int32} {su_fought : Int32} {su_needed : Int32} {R : Int32 × Unit} (C0 : zC p s m args meth c cX7_wayOf 2 (some .int) RX7 zW) (hK : va_K D classes (zT cs) s) (hA : ∀ q : Nat, s.heap.size ≤ q → A q) (x1 : Int32) (h : B_X7_wayOf_0 su_who su_against su_kind su_won su_day su_land su_undoneFrom su_askedCount su_askedBits su_first su_foundSo su_foundNot su_fought su_needed x1 = some R) (H : Heap) (locs : List Loc) (ls : Array Slot) (hP : va_P D classes (wl_X7_wayOf ad cs h_su h_su_asked su_who su_against su_kind su_won su_day su_land su_undoneFrom su_askedCount su_askedBits su_first su_foundSo su_foundNot su_fought su_needed) H) (hD : va_D A (wl_X7_wayOf ad cs h_su h_su_asked su_who su_against su_kind su_won su_day su_land su_undoneFrom su_askedCount su_askedBits su_first su_foundSo su_foundNot su_fought su_needed)) (hS : va_S A s.heap H locs) (hl : lv_has ls 2 [(0, .ref h_su), (1, .int x1)]) : W p l e rm_X7_wayOf s m args below meth c H locs 0 0 (MQ below (Q_X7_wayOf D cs ad h_su h_su_asked su_who su_against su_kind su_won su_day su_land su_undoneFrom su_askedCount su_askedBits su_first su_foundSo su_foundNot su_fought su_needed A R) args s 0 0 A) (F0 m 0 ls []) := by
  obtain ⟨hx, hb, hr, hml, hown, ht, hlocks⟩ := id C0
  refine lv_aload_n hx hb dX7_wayOf_0 rfl (lv_at hl 0 rfl) ?_
  refine va_get (D := D) (ci := 7) (v := .int su_foundSo) (C := RX7) (T := TX7) (N := 15) hx hb ht iX7 hown hK hP 0 rfl rfl 11 (by decide) (ht _ kw_346) (fun _ h9 => h9) rfl dX7_wayOf_1 ?_
  refine lv_iload_n hx hb dX7_wayOf_4 rfl (lv_at hl 1 rfl) ?_
  refine lv_ishr hx hb dX7_wayOf_5 ?_
  refine lv_iconst (v := (1 : Int32)) hx hb dX7_wayOf_6 (by decide) ?_
  refine lv_iand hx hb dX7_wayOf_7 ?_
  refine lv_iconst (v := (2 : Int32)) hx hb dX7_wayOf_8 (by decide) ?_
  refine lv_aload_n hx hb dX7_wayOf_9 rfl (lv_at hl 0 rfl) ?_
  refine va_get (D := D) (ci := 7) (v := .int su_foundNot) (C := RX7) (T := TX7) (N := 15) hx hb ht iX7 hown hK hP 0 rfl rfl 12 (by decide) (ht _ kw_348) (fun _ h9 => h9) rfl dX7_wayOf_10 ?_
  refine lv_iload_n hx hb dX7_wayOf_13 rfl (lv_at hl 1 rfl) ?_
  refine lv_ishr hx hb dX7_wayOf_14 ?_
  refine lv_iconst (v := (1 : Int32)) hx hb dX7_wayOf_15 (by decide) ?_
  refine lv_iand hx hb dX7_wayOf_16 ?_
  refine lv_imul hx hb dX7_wayOf_17 ?_
  refine lv_iadd hx hb dX7_wayOf_18 ?_
  exact W.iret (v := ((su_foundSo >>> (x1 &&& 31)) &&& (1 : Int32)) + ((2 : Int32) * ((su_foundNot >>> (x1 &&& 31)) &&& (1 : Int32)))) hx hb hr (fun t ht2 hW => ⟨⟨((su_foundSo >>> (x1 &&& 31)) &&& (1 : Int32)) + ((2 : Int32) * ((su_foundNot >>> (x1 &&& 31)) &&& (1 : Int32))), (), rfl, Option.some.inj h, by rw [ht2]; exact hP, hD⟩, hS.F ht2⟩) hS.2.2 dX7_wayOf_19 hlocks
set_option maxHeartbeats 4000000 in
set_option maxRecDepth 100000 in
theorem c_X7_wayOf (l : Launch) (D : va_G) (cs : Nat → ClassId) (ad : Nat → Nat) (h_su : Nat) (h_su_asked : Nat) (sz : Nat) (x1 : Int32) (su_who : Int32) (su_against : Int32) (su_kind : Int32) (su_won : Int32) (su_day : Int32) (su_land : Int32) (su_undoneFrom : Int32) (su_askedCount : Int32) (su_askedBits : Int32) (su_first : Int32) (su_foundSo : Int32) (su_foundNot : Int32) (su_fought : Int32) (su_needed : Int32) (R : Int32 × Unit) (h : f_X7_wayOf   x1 su_who su_against su_kind su_won su_day su_land su_undoneFrom su_askedCount su_askedBits su_first su_foundSo su_foundNot su_fought su_needed = some R) : Met l yX7_wayOf (z_X7_wayOf) rm_X7_wayOf (va_Pc [.ref h_su, .int x1] (zPre D cs (wl_X7_wayOf ad cs h_su h_su_asked su_who su_against su_kind su_won su_day su_land su_undoneFrom su_askedCount su_askedBits su_first su_foundSo su_foundNot su_fought su_needed) sz)) (Q_X7_wayOf D cs ad h_su h_su_asked su_who su_against su_kind su_won su_day su_land su_undoneFrom su_askedCount su_askedBits su_first su_foundSo su_foundNot su_fought su_needed (va_A (wl_X7_wayOf ad cs h_su h_su_asked su_who su_against su_kind su_won su_day su_land su_undoneFrom su_askedCount su_askedBits su_first su_foundSo su_foundNot su_fought su_needed) sz) R) 0 0 (va_A (wl_X7_wayOf ad cs h_su h_su_asked su_who su_against su_kind su_won su_day su_land su_undoneFrom su_askedCount su_askedBits su_first su_foundSo su_foundNot su_fought su_needed) sz) := by
  refine Met.ofW (cc := cX7_wayOf) (maxL := 2) (ret := (some .int)) (by decide) rfl ?_
  intro p e s m args below meth c s₁ B hml hv
  obtain ⟨rfl, hsz, hP, hK, hD0⟩ := hv
  subst hsz
  have hD := hD0.self (sz := s.heap.size)
  have C0 : zC p s m _ meth c cX7_wayOf 2 (some .int) RX7 zW := ⟨B.exec, B.bytes, B.returns, hml, findClass_of_methodNamed B.named, fun w hw => atoms_spec (ws := z_X7_wayOf) B.pre w (List.mem_cons_of_mem _ hw), B.notSynchronized⟩
  have hA : ∀ q : Nat, s.heap.size ≤ q → va_A (wl_X7_wayOf ad cs h_su h_su_asked su_who su_against su_kind su_won su_day su_land su_undoneFrom su_askedCount su_askedBits su_first su_foundSo su_foundNot su_fought su_needed) s.heap.size q := fun q h => Or.inr h
  have hl := lv_entry ([.ref h_su, .int x1]) (n := 2) (Nat.le_of_ble_eq_true rfl)
  rw [lg_entry_eq]
  generalize (lg_sl ([.ref h_su, .int x1]) ++ List.replicate (2 - (lg_sl ([.ref h_su, .int x1])).length) Slot.unset).toArray = ls at hl ⊢
  exact L_X7_wayOf_0 C0 hK hA   x1  h s.heap [] ls hP hD va_S.rf hl
theorem kw_76 : Cond.initialized RX2 ∈ zW := zwC (i := 2) zc_1 rfl rfl
theorem kw_82 : Cond.initialized RX7 ∈ zW := zwC (i := 8) zc_1 rfl rfl
theorem kw_787 : Cond.instanceMethod yX2_suitAt ∈ zW := zwC (i := 233) zc_3 rfl rfl
theorem kw_788 : Cond.selects RX2 yX2_suitAt yX2_suitAt ∈ zW := zwC (i := 234) zc_3 rfl rfl
theorem kw_789 : Cond.code yX2_suitAt cX2_suitAt 2 (some (.object "AlreadyJudged$Suit")) ∈ zW := zwC (i := 235) zc_3 rfl rfl
theorem kw_945 : Cond.instanceMethod yX7_wayOf ∈ zW := zwC (i := 151) zc_4 rfl rfl
theorem kw_946 : Cond.selects RX7 yX7_wayOf yX7_wayOf ∈ zW := zwC (i := 152) zc_4 rfl rfl
theorem kw_947 : Cond.code yX7_wayOf cX7_wayOf 2 (some .int) ∈ zW := zwC (i := 153) zc_4 rfl rfl
theorem kw_1081 : Cond.methodLink RX2 62 yX2_suitAt ∈ zW := zwC (i := 47) zc_5 rfl rfl
theorem kw_1082 : Cond.methodLink RX2 66 yX7_hasNeeded ∈ zW := zwC (i := 48) zc_5 rfl rfl
theorem kw_1083 : Cond.instanceMethod yX7_hasNeeded ∈ zW := zwC (i := 49) zc_5 rfl rfl
theorem kw_1084 : Cond.selects RX7 yX7_hasNeeded yX7_hasNeeded ∈ zW := zwC (i := 50) zc_5 rfl rfl
theorem kw_1085 : Cond.code yX7_hasNeeded cX7_hasNeeded 2 (some .boolean) ∈ zW := zwC (i := 51) zc_5 rfl rfl
theorem kw_1086 : Cond.methodLink RX2 69 yX7_wayOf ∈ zW := zwC (i := 52) zc_5 rfl rfl
theorem zh_cX2_clashingWith_0 : zck [42, 28, 182, 0, 62, 78, 45, 198, 0, 11, 45, 27, 182, 0, 66, 154, 0, 5, 9, 173, 9, 55] (zdu 0 cX2_clashingWith.data.toList) = true := by decide +kernel
theorem dX2_clashingWith_0 : decode cX2_clashingWith 0 = .ok (.aload_n 0, 1) := zo_42 zh_cX2_clashingWith_0 0 rfl
theorem dX2_clashingWith_1 : decode cX2_clashingWith 1 = .ok (.iload_n 2, 1) := zo_28 zh_cX2_clashingWith_0 1 rfl
theorem dX2_clashingWith_2 : decode cX2_clashingWith 2 = .ok (.invokevirtual 62, 3) := zo_182 zh_cX2_clashingWith_0 2 rfl
theorem zo_78 {c : ByteArray} {s : Nat} {K : List Nat} (h : zck K (zdu s c.data.toList) = true) (k : Nat) (hk : zt1 K k 78 = true) : decode c (s + k) = .ok (.astore_n 3, 1) := zde ((zbd (zu1 (zh1 h hk))).trans rfl)
theorem dX2_clashingWith_5 : decode cX2_clashingWith 5 = .ok (.astore_n 3, 1) := zo_78 zh_cX2_clashingWith_0 5 rfl
theorem zo_45 {c : ByteArray} {s : Nat} {K : List Nat} (h : zck K (zdu s c.data.toList) = true) (k : Nat) (hk : zt1 K k 45 = true) : decode c (s + k) = .ok (.aload_n 3, 1) := zde ((zbd (zu1 (zh1 h hk))).trans rfl)
theorem dX2_clashingWith_6 : decode cX2_clashingWith 6 = .ok (.aload_n 3, 1) := zo_45 zh_cX2_clashingWith_0 6 rfl
theorem zo_p198 {c : ByteArray} {s : Nat} {K : List Nat} (h : zck K (zdu s c.data.toList) = true) (k : Nat) (v : Nat) (hk : zt3 K k 198 v = true) (hv : Nat.ble v 32767 = true) : decode c (s + k) = .ok (.ifnull (Int.ofNat v), 3) := by
  rw [← zsg16 hv]
  exact zde ((zbd (zu1 (zh3 h hk).1)).trans ((zbd (f := fun x => pure (Instr.ifnull x)) (zdmp (zh3 h hk).2)).trans rfl))
theorem dX2_clashingWith_7 : decode cX2_clashingWith 7 = .ok (.ifnull 11, 3) := zo_p198 zh_cX2_clashingWith_0 7 11 rfl rfl
theorem dX2_clashingWith_10 : decode cX2_clashingWith 10 = .ok (.aload_n 3, 1) := zo_45 zh_cX2_clashingWith_0 10 rfl
theorem dX2_clashingWith_11 : decode cX2_clashingWith 11 = .ok (.iload_n 1, 1) := zo_27 zh_cX2_clashingWith_0 11 rfl
theorem dX2_clashingWith_12 : decode cX2_clashingWith 12 = .ok (.invokevirtual 66, 3) := zo_182 zh_cX2_clashingWith_0 12 rfl
theorem dX2_clashingWith_15 : decode cX2_clashingWith 15 = .ok (.ifCond .ne 5, 3) := zo_p154 zh_cX2_clashingWith_0 15 5 rfl rfl
theorem dX2_clashingWith_18 : decode cX2_clashingWith 18 = .ok (.lconst 0, 1) := zo_9 zh_cX2_clashingWith_0 18 rfl
theorem dX2_clashingWith_19 : decode cX2_clashingWith 19 = .ok (.lreturn, 1) := zo_173 zh_cX2_clashingWith_0 19 rfl
theorem zh_cX2_clashingWith_1 : zck [9, 55, 4, 28, 4, 96, 54, 6, 21, 6, 42, 180, 0, 59, 162, 0, 55, 42, 180, 0, 38, 21] (zdu 20 cX2_clashingWith.data.toList) = true := by decide +kernel
theorem dX2_clashingWith_20 : decode cX2_clashingWith 20 = .ok (.lconst 0, 1) := zo_9 zh_cX2_clashingWith_1 0 rfl
theorem dX2_clashingWith_21 : decode cX2_clashingWith 21 = .ok (.lstore 4, 2) := zo_55 zh_cX2_clashingWith_1 1 rfl
theorem dX2_clashingWith_23 : decode cX2_clashingWith 23 = .ok (.iload_n 2, 1) := zo_28 zh_cX2_clashingWith_1 3 rfl
theorem dX2_clashingWith_24 : decode cX2_clashingWith 24 = .ok (.iconst 1, 1) := zo_4 zh_cX2_clashingWith_1 4 rfl
theorem dX2_clashingWith_25 : decode cX2_clashingWith 25 = .ok (.iadd, 1) := zo_96 zh_cX2_clashingWith_1 5 rfl
theorem dX2_clashingWith_26 : decode cX2_clashingWith 26 = .ok (.istore 6, 2) := zo_54 zh_cX2_clashingWith_1 6 rfl
theorem dX2_clashingWith_28 : decode cX2_clashingWith 28 = .ok (.iload 6, 2) := zo_21 zh_cX2_clashingWith_1 8 rfl
theorem dX2_clashingWith_30 : decode cX2_clashingWith 30 = .ok (.aload_n 0, 1) := zo_42 zh_cX2_clashingWith_1 10 rfl
theorem dX2_clashingWith_31 : decode cX2_clashingWith 31 = .ok (.getfield 59, 3) := zo_180 zh_cX2_clashingWith_1 11 rfl
theorem dX2_clashingWith_34 : decode cX2_clashingWith 34 = .ok (.if_icmp .ge 55, 3) := zo_p162 zh_cX2_clashingWith_1 14 55 rfl rfl
theorem dX2_clashingWith_37 : decode cX2_clashingWith 37 = .ok (.aload_n 0, 1) := zo_42 zh_cX2_clashingWith_1 17 rfl
theorem dX2_clashingWith_38 : decode cX2_clashingWith 38 = .ok (.getfield 38, 3) := zo_180 zh_cX2_clashingWith_1 18 rfl
theorem zh_cX2_clashingWith_2 : zck [38, 21, 6, 50, 58, 7, 25, 7, 198, 0, 35, 25, 7, 27, 182, 0, 66, 153, 0, 26, 25, 7] (zdu 40 cX2_clashingWith.data.toList) = true := by decide +kernel
theorem dX2_clashingWith_41 : decode cX2_clashingWith 41 = .ok (.iload 6, 2) := zo_21 zh_cX2_clashingWith_2 1 rfl
theorem dX2_clashingWith_43 : decode cX2_clashingWith 43 = .ok (.aaload, 1) := zo_50 zh_cX2_clashingWith_2 3 rfl
theorem zo_58 {c : ByteArray} {s : Nat} {K : List Nat} (h : zck K (zdu s c.data.toList) = true) (k : Nat) {v : Nat} (hk : zt2 K k 58 v = true) : decode c (s + k) = .ok (.astore v, 2) := zde ((zbd (zu1 (zh2 h hk).1)).trans ((zbd (f := fun x => pure (Instr.astore x)) (zh2 h hk).2).trans rfl))
theorem dX2_clashingWith_44 : decode cX2_clashingWith 44 = .ok (.astore 7, 2) := zo_58 zh_cX2_clashingWith_2 4 rfl
theorem zo_25 {c : ByteArray} {s : Nat} {K : List Nat} (h : zck K (zdu s c.data.toList) = true) (k : Nat) {v : Nat} (hk : zt2 K k 25 v = true) : decode c (s + k) = .ok (.aload v, 2) := zde ((zbd (zu1 (zh2 h hk).1)).trans ((zbd (f := fun x => pure (Instr.aload x)) (zh2 h hk).2).trans rfl))
theorem dX2_clashingWith_46 : decode cX2_clashingWith 46 = .ok (.aload 7, 2) := zo_25 zh_cX2_clashingWith_2 6 rfl
theorem dX2_clashingWith_48 : decode cX2_clashingWith 48 = .ok (.ifnull 35, 3) := zo_p198 zh_cX2_clashingWith_2 8 35 rfl rfl
theorem dX2_clashingWith_51 : decode cX2_clashingWith 51 = .ok (.aload 7, 2) := zo_25 zh_cX2_clashingWith_2 11 rfl
theorem dX2_clashingWith_53 : decode cX2_clashingWith 53 = .ok (.iload_n 1, 1) := zo_27 zh_cX2_clashingWith_2 13 rfl
theorem dX2_clashingWith_54 : decode cX2_clashingWith 54 = .ok (.invokevirtual 66, 3) := zo_182 zh_cX2_clashingWith_2 14 rfl
theorem dX2_clashingWith_57 : decode cX2_clashingWith 57 = .ok (.ifCond .eq 26, 3) := zo_p153 zh_cX2_clashingWith_2 17 26 rfl rfl
theorem zh_cX2_clashingWith_3 : zck [25, 7, 27, 182, 0, 69, 45, 27, 182, 0, 69, 159, 0, 12, 22, 4, 10, 21, 6, 121, 129, 55] (zdu 60 cX2_clashingWith.data.toList) = true := by decide +kernel
theorem dX2_clashingWith_60 : decode cX2_clashingWith 60 = .ok (.aload 7, 2) := zo_25 zh_cX2_clashingWith_3 0 rfl
theorem dX2_clashingWith_62 : decode cX2_clashingWith 62 = .ok (.iload_n 1, 1) := zo_27 zh_cX2_clashingWith_3 2 rfl
theorem dX2_clashingWith_63 : decode cX2_clashingWith 63 = .ok (.invokevirtual 69, 3) := zo_182 zh_cX2_clashingWith_3 3 rfl
theorem dX2_clashingWith_66 : decode cX2_clashingWith 66 = .ok (.aload_n 3, 1) := zo_45 zh_cX2_clashingWith_3 6 rfl
theorem dX2_clashingWith_67 : decode cX2_clashingWith 67 = .ok (.iload_n 1, 1) := zo_27 zh_cX2_clashingWith_3 7 rfl
theorem dX2_clashingWith_68 : decode cX2_clashingWith 68 = .ok (.invokevirtual 69, 3) := zo_182 zh_cX2_clashingWith_3 8 rfl
theorem dX2_clashingWith_71 : decode cX2_clashingWith 71 = .ok (.if_icmp .eq 12, 3) := zo_p159 zh_cX2_clashingWith_3 11 12 rfl rfl
theorem dX2_clashingWith_74 : decode cX2_clashingWith 74 = .ok (.lload 4, 2) := zo_22 zh_cX2_clashingWith_3 14 rfl
theorem dX2_clashingWith_76 : decode cX2_clashingWith 76 = .ok (.lconst 1, 1) := zo_10 zh_cX2_clashingWith_3 16 rfl
theorem dX2_clashingWith_77 : decode cX2_clashingWith 77 = .ok (.iload 6, 2) := zo_21 zh_cX2_clashingWith_3 17 rfl
theorem dX2_clashingWith_79 : decode cX2_clashingWith 79 = .ok (.lshl, 1) := zo_121 zh_cX2_clashingWith_3 19 rfl
theorem zh_cX2_clashingWith_4 : zck [129, 55, 4, 132, 6, 1, 167, 255, 198, 22, 4, 173] (zdu 80 cX2_clashingWith.data.toList) = true := by decide +kernel
theorem dX2_clashingWith_80 : decode cX2_clashingWith 80 = .ok (.lor, 1) := zo_129 zh_cX2_clashingWith_4 0 rfl
theorem dX2_clashingWith_81 : decode cX2_clashingWith 81 = .ok (.lstore 4, 2) := zo_55 zh_cX2_clashingWith_4 1 rfl
theorem dX2_clashingWith_83 : decode cX2_clashingWith 83 = .ok (.iinc 6 1, 3) := zo_p132 zh_cX2_clashingWith_4 3 1 rfl rfl
theorem dX2_clashingWith_86 : decode cX2_clashingWith 86 = .ok (.goto (-58), 3) := zo_n167 zh_cX2_clashingWith_4 6 57 rfl rfl
theorem dX2_clashingWith_89 : decode cX2_clashingWith 89 = .ok (.lload 4, 2) := zo_22 zh_cX2_clashingWith_4 9 rfl
theorem dX2_clashingWith_91 : decode cX2_clashingWith 91 = .ok (.lreturn, 1) := zo_173 zh_cX2_clashingWith_4 11 rfl
abbrev z_X2_clashingWith : List Cond := .code yX2_clashingWith cX2_clashingWith 8 (some .long) :: zW
abbrev wx_X2_clashingWith (ad : Nat → Nat) (cs : Nat → ClassId) (PL : va_W) (S_a : Nat → Nat) (S_b : Nat → Nat) (court_shoeCount : Int32) (court_claimCount : Int32) (court_suitCount : Int32) (court_suits : Nat → Option Nat) (S_who : Nat → Int32) (S_against : Nat → Int32) (S_kind : Nat → Int32) (S_won : Nat → Int32) (S_day : Nat → Int32) (S_land : Nat → Int32) (S_undoneFrom : Nat → Int32) (S_asked : Nat → Nat → Int32) (S_askedCount : Nat → Int32) (S_askedBits : Nat → Int32) (S_first : Nat → Int32) (S_foundSo : Nat → Int32) (S_foundNot : Nat → Int32) (S_fought : Nat → Int32) (S_needed : Nat → Int32) : va_W := [((ad 4), .inr (2, [.ref (ad 5), .ref (ad 6), .ref (ad 7), .ref (ad 8), .ref (ad 9), .ref (ad 10), .ref (ad 11), .ref (ad 12), .ref (ad 13), .ref (ad 14), .int court_shoeCount, .int court_claimCount, .int court_suitCount])), ((ad 13), .inl (cs 5, 40, .inr (.inr (.inr (.inr court_suits)))))]
abbrev wl_X2_clashingWith (ad : Nat → Nat) (cs : Nat → ClassId) (PL : va_W) (S_a : Nat → Nat) (S_b : Nat → Nat) (court_shoeCount : Int32) (court_claimCount : Int32) (court_suitCount : Int32) (court_suits : Nat → Option Nat) (S_who : Nat → Int32) (S_against : Nat → Int32) (S_kind : Nat → Int32) (S_won : Nat → Int32) (S_day : Nat → Int32) (S_land : Nat → Int32) (S_undoneFrom : Nat → Int32) (S_asked : Nat → Nat → Int32) (S_askedCount : Nat → Int32) (S_askedBits : Nat → Int32) (S_first : Nat → Int32) (S_foundSo : Nat → Int32) (S_foundNot : Nat → Int32) (S_fought : Nat → Int32) (S_needed : Nat → Int32) : va_W := wx_X2_clashingWith ad cs PL S_a S_b court_shoeCount court_claimCount court_suitCount court_suits S_who S_against S_kind S_won S_day S_land S_undoneFrom S_asked S_askedCount S_askedBits S_first S_foundSo S_foundNot S_fought S_needed ++ PL
def Q_X2_clashingWith (D : va_G) (cs : Nat → ClassId) (ad : Nat → Nat) (PL : va_W) (S_a : Nat → Nat) (S_b : Nat → Nat) (court_shoeCount : Int32) (court_claimCount : Int32) (court_suitCount : Int32) (court_suits : Nat → Option Nat) (S_who : Nat → Int32) (S_against : Nat → Int32) (S_kind : Nat → Int32) (S_won : Nat → Int32) (S_day : Nat → Int32) (S_land : Nat → Int32) (S_undoneFrom : Nat → Int32) (S_asked : Nat → Nat → Int32) (S_askedCount : Nat → Int32) (S_askedBits : Nat → Int32) (S_first : Nat → Int32) (S_foundSo : Nat → Int32) (S_foundNot : Nat → Int32) (S_fought : Nat → Int32) (S_needed : Nat → Int32) (A : Nat → Prop) (R : Int64 × Unit) : Array Value → State → Outcome → State → Prop :=
  va_Ql (fun (r : Int64) (u : Unit) => (r, u) = R) (fun (u : Unit) (t : State) => va_P D classes (wl_X2_clashingWith ad cs PL S_a S_b court_shoeCount court_claimCount court_suitCount court_suits S_who S_against S_kind S_won S_day S_land S_undoneFrom S_asked S_askedCount S_askedBits S_first S_foundSo S_foundNot S_fought S_needed) t.heap ∧ va_D A (wl_X2_clashingWith ad cs PL S_a S_b court_shoeCount court_claimCount court_suitCount court_suits S_who S_against S_kind S_won S_day S_land S_undoneFrom S_asked S_askedCount S_askedBits S_first S_foundSo S_foundNot S_fought S_needed)) A
abbrev rm_X2_clashingWith : Room := { frames := 1, cells := 0, slots := 0, locals := 21 }
theorem g_X2_62 : GoodIn zW (wsV RX2 62 RX2 yX2_suitAt z_X2_suitAt) := zGV kw_1081 kw_787 kw_788 kw_76 kw_789
theorem g_X2_66 : GoodIn zW (wsV RX2 66 RX7 yX7_hasNeeded z_X7_hasNeeded) := zGV kw_1082 kw_1083 kw_1084 kw_82 kw_1085
theorem g_X2_69 : GoodIn zW (wsV RX2 69 RX7 yX7_wayOf z_X7_wayOf) := zGV kw_1086 kw_945 kw_946 kw_82 kw_947
theorem hd_X2_suitAt : yX2_suitAt.cls ≠ "java/lang/invoke/MethodHandle" ∧ yX2_suitAt.cls ≠ "java/lang/invoke/VarHandle" ∧ (parseMethodDescriptor yX2_suitAt.desc).map (fun d => d.parameters.length) = some 1 := by decide +kernel
theorem hd_X7_hasNeeded : yX7_hasNeeded.cls ≠ "java/lang/invoke/MethodHandle" ∧ yX7_hasNeeded.cls ≠ "java/lang/invoke/VarHandle" ∧ (parseMethodDescriptor yX7_hasNeeded.desc).map (fun d => d.parameters.length) = some 1 := by decide +kernel
theorem hd_X7_wayOf : yX7_wayOf.cls ≠ "java/lang/invoke/MethodHandle" ∧ yX7_wayOf.cls ≠ "java/lang/invoke/VarHandle" ∧ (parseMethodDescriptor yX7_wayOf.desc).map (fun d => d.parameters.length) = some 1 := by decide +kernel
def B_X2_clashingWith_83   (g28 : Int32 → Int32 → Int64 → Int32 → (Option (Int64 × Unit))) (court_shoeCount : Int32) (court_claimCount : Int32) (court_suitCount : Int32) (court_suits : Nat → Option Nat) (S_who : Nat → Int32) (S_against : Nat → Int32) (S_kind : Nat → Int32) (S_won : Nat → Int32) (S_day : Nat → Int32) (S_land : Nat → Int32) (S_undoneFrom : Nat → Int32) (S_asked : Nat → Nat → Int32) (S_askedCount : Nat → Int32) (S_askedBits : Nat → Int32) (S_first : Nat → Int32) (S_foundSo : Nat → Int32) (S_foundNot : Nat → Int32) (S_fought : Nat → Int32) (S_needed : Nat → Int32) (x1 : Int32) (x3 : Int32) (x4 : Int64) (x6 : Int32) : Option (Int64 × Unit) :=
  (zk_let (x6 + (1 : Int32)) (fun v_44 => (g28 x1 x3 x4 v_44)))
def B_X2_clashingWith_28   (g28 : Int32 → Int32 → Int64 → Int32 → (Option (Int64 × Unit))) (court_shoeCount : Int32) (court_claimCount : Int32) (court_suitCount : Int32) (court_suits : Nat → Option Nat) (S_who : Nat → Int32) (S_against : Nat → Int32) (S_kind : Nat → Int32) (S_won : Nat → Int32) (S_day : Nat → Int32) (S_land : Nat → Int32) (S_undoneFrom : Nat → Int32) (S_asked : Nat → Nat → Int32) (S_askedCount : Nat → Int32) (S_askedBits : Nat → Int32) (S_first : Nat → Int32) (S_foundSo : Nat → Int32) (S_foundNot : Nat → Int32) (S_fought : Nat → Int32) (S_needed : Nat → Int32) (x1 : Int32) (x3 : Int32) (x4 : Int64) (x6 : Int32) : Option (Int64 × Unit) :=
  (if court_suitCount ≤ x6 then (some (x4, ())) else (if (x6 < 0 ∨ 40 ≤ x6.toNatClampNeg) then none else (if (x6 < 0 ∨ court_suitCount ≤ x6) then none else (if (x6 < 0 ∨ court_suitCount ≤ x6) then none else (zk_b2 (f_X7_hasNeeded x1 (S_who x6.toNatClampNeg) (S_against x6.toNatClampNeg) (S_kind x6.toNatClampNeg) (S_won x6.toNatClampNeg) (S_day x6.toNatClampNeg) (S_land x6.toNatClampNeg) (S_undoneFrom x6.toNatClampNeg) (S_askedCount x6.toNatClampNeg) (S_askedBits x6.toNatClampNeg) (S_first x6.toNatClampNeg) (S_foundSo x6.toNatClampNeg) (S_foundNot x6.toNatClampNeg) (S_fought x6.toNatClampNeg) (S_needed x6.toNatClampNeg)) (fun r_24 u_25 => (if r_24 = 0 then (B_X2_clashingWith_83 g28 court_shoeCount court_claimCount court_suitCount court_suits S_who S_against S_kind S_won S_day S_land S_undoneFrom S_asked S_askedCount S_askedBits S_first S_foundSo S_foundNot S_fought S_needed x1 x3 x4 x6) else (if (x6 < 0 ∨ court_suitCount ≤ x6) then none else (zk_b2 (f_X7_wayOf x1 (S_who x6.toNatClampNeg) (S_against x6.toNatClampNeg) (S_kind x6.toNatClampNeg) (S_won x6.toNatClampNeg) (S_day x6.toNatClampNeg) (S_land x6.toNatClampNeg) (S_undoneFrom x6.toNatClampNeg) (S_askedCount x6.toNatClampNeg) (S_askedBits x6.toNatClampNeg) (S_first x6.toNatClampNeg) (S_foundSo x6.toNatClampNeg) (S_foundNot x6.toNatClampNeg) (S_fought x6.toNatClampNeg) (S_needed x6.toNatClampNeg)) (fun r_32 u_33 => (if (x3 < 0 ∨ court_suitCount ≤ x3) then none else (zk_b2 (f_X7_wayOf x1 (S_who x3.toNatClampNeg) (S_against x3.toNatClampNeg) (S_kind x3.toNatClampNeg) (S_won x3.toNatClampNeg) (S_day x3.toNatClampNeg) (S_land x3.toNatClampNeg) (S_undoneFrom x3.toNatClampNeg) (S_askedCount x3.toNatClampNeg) (S_askedBits x3.toNatClampNeg) (S_first x3.toNatClampNeg) (S_foundSo x3.toNatClampNeg) (S_foundNot x3.toNatClampNeg) (S_fought x3.toNatClampNeg) (S_needed x3.toNatClampNeg)) (fun r_39 u_40 => (if r_32 = r_39 then (B_X2_clashingWith_83 g28 court_shoeCount court_claimCount court_suitCount court_suits S_who S_against S_kind S_won S_day S_land S_undoneFrom S_asked S_askedCount S_askedBits S_first S_foundSo S_foundNot S_fought S_needed x1 x3 x4 x6) else (zk_let (x4 ||| ((1 : Int64) <<< (x6.toInt64 &&& 63))) (fun v_43 => (B_X2_clashingWith_83 g28 court_shoeCount court_claimCount court_suitCount court_suits S_who S_against S_kind S_won S_day S_land S_undoneFrom S_asked S_askedCount S_askedBits S_first S_foundSo S_foundNot S_fought S_needed x1 x3 v_43 x6)))))))))))))))))
def B_X2_clashingWith_0   (g28 : Int32 → Int32 → Int64 → Int32 → (Option (Int64 × Unit))) (court_shoeCount : Int32) (court_claimCount : Int32) (court_suitCount : Int32) (court_suits : Nat → Option Nat) (S_who : Nat → Int32) (S_against : Nat → Int32) (S_kind : Nat → Int32) (S_won : Nat → Int32) (S_day : Nat → Int32) (S_land : Nat → Int32) (S_undoneFrom : Nat → Int32) (S_asked : Nat → Nat → Int32) (S_askedCount : Nat → Int32) (S_askedBits : Nat → Int32) (S_first : Nat → Int32) (S_foundSo : Nat → Int32) (S_foundNot : Nat → Int32) (S_fought : Nat → Int32) (S_needed : Nat → Int32) (x1 : Int32) (x2 : Int32) : Option (Int64 × Unit) :=
  (zk_b2 (f_X2_suitAt x2 court_shoeCount court_claimCount court_suitCount court_suits S_who S_against S_kind S_won S_day S_land S_undoneFrom S_asked S_askedCount S_askedBits S_first S_foundSo S_foundNot S_fought S_needed) (fun r_1 u_2 => (if r_1 < 0 then (some ((0 : Int64), ())) else (if (r_1 < 0 ∨ court_suitCount ≤ r_1) then none else (zk_b2 (f_X7_hasNeeded x1 (S_who r_1.toNatClampNeg) (S_against r_1.toNatClampNeg) (S_kind r_1.toNatClampNeg) (S_won r_1.toNatClampNeg) (S_day r_1.toNatClampNeg) (S_land r_1.toNatClampNeg) (S_undoneFrom r_1.toNatClampNeg) (S_askedCount r_1.toNatClampNeg) (S_askedBits r_1.toNatClampNeg) (S_first r_1.toNatClampNeg) (S_foundSo r_1.toNatClampNeg) (S_foundNot r_1.toNatClampNeg) (S_fought r_1.toNatClampNeg) (S_needed r_1.toNatClampNeg)) (fun r_9 u_10 => (if r_9 = 0 then (some ((0 : Int64), ())) else (zk_let (x2 + (1 : Int32)) (fun v_13 => (g28 x1 r_1 (0 : Int64) v_13))))))))))
def G_X2_clashingWith   (court_shoeCount : Int32) (court_claimCount : Int32) (court_suitCount : Int32) (court_suits : Nat → Option Nat) (S_who : Nat → Int32) (S_against : Nat → Int32) (S_kind : Nat → Int32) (S_won : Nat → Int32) (S_day : Nat → Int32) (S_land : Nat → Int32) (S_undoneFrom : Nat → Int32) (S_asked : Nat → Nat → Int32) (S_askedCount : Nat → Int32) (S_askedBits : Nat → Int32) (S_first : Nat → Int32) (S_foundSo : Nat → Int32) (S_foundNot : Nat → Int32) (S_fought : Nat → Int32) (S_needed : Nat → Int32) (n : Nat) : (Int32 → Int32 → Int64 → Int32 → (Option (Int64 × Unit))) :=
  Nat.rec (motive := fun _ => (Int32 → Int32 → Int64 → Int32 → (Option (Int64 × Unit)))) ((fun _ _ _ _ => none)) (fun _ ih => (B_X2_clashingWith_28   ih court_shoeCount court_claimCount court_suitCount court_suits S_who S_against S_kind S_won S_day S_land S_undoneFrom S_asked S_askedCount S_askedBits S_first S_foundSo S_foundNot S_fought S_needed)) n
def f_X2_clashingWith   (n : Nat) (x1 : Int32) (x2 : Int32) (court_shoeCount : Int32) (court_claimCount : Int32) (court_suitCount : Int32) (court_suits : Nat → Option Nat) (S_who : Nat → Int32) (S_against : Nat → Int32) (S_kind : Nat → Int32) (S_won : Nat → Int32) (S_day : Nat → Int32) (S_land : Nat → Int32) (S_undoneFrom : Nat → Int32) (S_asked : Nat → Nat → Int32) (S_askedCount : Nat → Int32) (S_askedBits : Nat → Int32) (S_first : Nat → Int32) (S_foundSo : Nat → Int32) (S_foundNot : Nat → Int32) (S_fought : Nat → Int32) (S_needed : Nat → Int32) : Option (Int64 × Unit) := B_X2_clashingWith_0   ((G_X2_clashingWith   court_shoeCount court_claimCount court_suitCount court_suits S_who S_against S_kind S_won S_day S_land S_undoneFrom S_asked S_askedCount S_askedBits S_first S_foundSo S_foundNot S_fought S_needed n)) court_shoeCount court_claimCount court_suitCount court_suits S_who S_against S_kind S_won S_day S_land S_undoneFrom S_asked S_askedCount S_askedBits S_first S_foundSo S_foundNot S_fought S_needed x1 x2 
set_option maxHeartbeats 4000000 in
set_option maxRecDepth 100000 in
theorem L_X2_clashingWith_83 {p : Program} {l : Launch} {e : Env} {s : State} {m : MethodId} {args : Array Value} {below : List Frame} {meth : Method} {c : Code} {A : Nat → Prop} {D : va_G} {cs : Nat → ClassId} {ad : Nat → Nat} {PL : va_W} {S_a : Nat → Nat} {S_b : Nat → Nat} {court_shoeCount : Int32} {court_claimCount : Int32} {court_suitCount : Int32} {court_suits : Nat → Option Nat} {S_who : Nat → Int32} {S_against : Nat → Int32} {S_kind : Nat → Int32} {S_won : Nat → Int32} {S_day : Nat → Int32} {S_land : Nat → Int32} {S_undoneFrom : Nat → Int32} {S_asked : Nat → Nat → Int32} {S_askedCount : Nat → Int32} {S_askedBits : Nat → Int32} {S_first : Nat → Int32} {S_foundSo : Nat → Int32} {S_foundNot : Nat → Int32} {S_fought : Nat → Int32} {S_needed : Nat → Int32} {R : Int64 × Unit} {g28 : Int32 → Int32 → Int64 → Int32 → (Option (Int64 × Unit))} (C0 : zC p s m args meth c cX2_clashingWith 8 (some .long) RX2 zW) (hK : va_K D classes (zT cs) s) (hA : ∀ q : Nat, s.heap.size ≤ q → A q) (hSU : PSu cs PL court_suitCount court_suits S_a S_b S_who S_against S_kind S_won S_day S_land S_undoneFrom S_asked S_askedCount S_askedBits S_first S_foundSo S_foundNot S_fought S_needed) (ih28 : ∀ (x1 : Int32) (x3 : Int32) (x4 : Int64) (x6 : Int32) (h : g28 x1 x3 x4 x6 = some R) (H : Heap) (locs : List Loc) (ls : Array Slot) (hP : va_P D classes (wl_X2_clashingWith ad cs PL S_a S_b court_shoeCount court_claimCount court_suitCount court_suits S_who S_against S_kind S_won S_day S_land S_undoneFrom S_asked S_askedCount S_askedBits S_first S_foundSo S_foundNot S_fought S_needed) H) (hD : va_D A (wl_X2_clashingWith ad cs PL S_a S_b court_shoeCount court_claimCount court_suitCount court_suits S_who S_against S_kind S_won S_day S_land S_undoneFrom S_asked S_askedCount S_askedBits S_first S_foundSo S_foundNot S_fought S_needed)) (hS : va_S A s.heap H locs) (hl : lv_has ls 8 [(0, .ref (ad 4)), (1, .int x1), (3, .ref (S_a x3.toNatClampNeg)), (4, .long x4), (6, .int x6)]), W p l e rm_X2_clashingWith s m args below meth c H locs 0 0 (MQ below (Q_X2_clashingWith D cs ad PL S_a S_b court_shoeCount court_claimCount court_suitCount court_suits S_who S_against S_kind S_won S_day S_land S_undoneFrom S_asked S_askedCount S_askedBits S_first S_foundSo S_foundNot S_fought S_needed A R) args s 0 0 A) (F0 m 28 ls [])) (x1 : Int32) (x3 : Int32) (x4 : Int64) (x6 : Int32) (h : B_X2_clashingWith_83 g28 court_shoeCount court_claimCount court_suitCount court_suits S_who S_against S_kind S_won S_day S_land S_undoneFrom S_asked S_askedCount S_askedBits S_first S_foundSo S_foundNot S_fought S_needed x1 x3 x4 x6 = some R) (H : Heap) (locs : List Loc) (ls : Array Slot) (hP : va_P D classes (wl_X2_clashingWith ad cs PL S_a S_b court_shoeCount court_claimCount court_suitCount court_suits S_who S_against S_kind S_won S_day S_land S_undoneFrom S_asked S_askedCount S_askedBits S_first S_foundSo S_foundNot S_fought S_needed) H) (hD : va_D A (wl_X2_clashingWith ad cs PL S_a S_b court_shoeCount court_claimCount court_suitCount court_suits S_who S_against S_kind S_won S_day S_land S_undoneFrom S_asked S_askedCount S_askedBits S_first S_foundSo S_foundNot S_fought S_needed)) (hS : va_S A s.heap H locs) (hl : lv_has ls 8 [(0, .ref (ad 4)), (1, .int x1), (3, .ref (S_a x3.toNatClampNeg)), (4, .long x4), (6, .int x6)]) : W p l e rm_X2_clashingWith s m args below meth c H locs 0 0 (MQ below (Q_X2_clashingWith D cs ad PL S_a S_b court_shoeCount court_claimCount court_suitCount court_suits S_who S_against S_kind S_won S_day S_land S_undoneFrom S_asked S_askedCount S_askedBits S_first S_foundSo S_foundNot S_fought S_needed A R) args s 0 0 A) (F0 m 83 ls []) := by
  obtain ⟨hx, hb, hr, hml, hown, ht, hlocks⟩ := id C0
  obtain ⟨v_44, ev_44, h⟩ := zk_lt h
  refine lv_iinc (v := v_44) (lv' := [(6, .int v_44), (0, .ref (ad 4)), (1, .int x1), (3, .ref (S_a x3.toNatClampNeg)), (4, .long x4)]) hx hb dX2_clashingWith_83 hl (k := 4) rfl (by rw [ev_44]; rfl) (by decide) rfl (fun ls hl => ?_)
  refine lv_goto (tgt := 28) hx hb dX2_clashingWith_86 (by decide) ?_
  exact ih28 x1 x3 x4 v_44 h H locs ls hP hD hS (lv_sub hl [1, 2, 3, 4, 0] rfl)
set_option maxHeartbeats 4000000 in
set_option maxRecDepth 100000 in
theorem L_X2_clashingWith_28 {p : Program} {l : Launch} {e : Env} {s : State} {m : MethodId} {args : Array Value} {below : List Frame} {meth : Method} {c : Code} {A : Nat → Prop} {D : va_G} {cs : Nat → ClassId} {ad : Nat → Nat} {PL : va_W} {S_a : Nat → Nat} {S_b : Nat → Nat} {court_shoeCount : Int32} {court_claimCount : Int32} {court_suitCount : Int32} {court_suits : Nat → Option Nat} {S_who : Nat → Int32} {S_against : Nat → Int32} {S_kind : Nat → Int32} {S_won : Nat → Int32} {S_day : Nat → Int32} {S_land : Nat → Int32} {S_undoneFrom : Nat → Int32} {S_asked : Nat → Nat → Int32} {S_askedCount : Nat → Int32} {S_askedBits : Nat → Int32} {S_first : Nat → Int32} {S_foundSo : Nat → Int32} {S_foundNot : Nat → Int32} {S_fought : Nat → Int32} {S_needed : Nat → Int32} {R : Int64 × Unit} {g28 : Int32 → Int32 → Int64 → Int32 → (Option (Int64 × Unit))} (C0 : zC p s m args meth c cX2_clashingWith 8 (some .long) RX2 zW) (hK : va_K D classes (zT cs) s) (hA : ∀ q : Nat, s.heap.size ≤ q → A q) (hSU : PSu cs PL court_suitCount court_suits S_a S_b S_who S_against S_kind S_won S_day S_land S_undoneFrom S_asked S_askedCount S_askedBits S_first S_foundSo S_foundNot S_fought S_needed) (ih28 : ∀ (x1 : Int32) (x3 : Int32) (x4 : Int64) (x6 : Int32) (h : g28 x1 x3 x4 x6 = some R) (H : Heap) (locs : List Loc) (ls : Array Slot) (hP : va_P D classes (wl_X2_clashingWith ad cs PL S_a S_b court_shoeCount court_claimCount court_suitCount court_suits S_who S_against S_kind S_won S_day S_land S_undoneFrom S_asked S_askedCount S_askedBits S_first S_foundSo S_foundNot S_fought S_needed) H) (hD : va_D A (wl_X2_clashingWith ad cs PL S_a S_b court_shoeCount court_claimCount court_suitCount court_suits S_who S_against S_kind S_won S_day S_land S_undoneFrom S_asked S_askedCount S_askedBits S_first S_foundSo S_foundNot S_fought S_needed)) (hS : va_S A s.heap H locs) (hl : lv_has ls 8 [(0, .ref (ad 4)), (1, .int x1), (3, .ref (S_a x3.toNatClampNeg)), (4, .long x4), (6, .int x6)]), W p l e rm_X2_clashingWith s m args below meth c H locs 0 0 (MQ below (Q_X2_clashingWith D cs ad PL S_a S_b court_shoeCount court_claimCount court_suitCount court_suits S_who S_against S_kind S_won S_day S_land S_undoneFrom S_asked S_askedCount S_askedBits S_first S_foundSo S_foundNot S_fought S_needed A R) args s 0 0 A) (F0 m 28 ls [])) (x1 : Int32) (x3 : Int32) (x4 : Int64) (x6 : Int32) (h : B_X2_clashingWith_28 g28 court_shoeCount court_claimCount court_suitCount court_suits S_who S_against S_kind S_won S_day S_land S_undoneFrom S_asked S_askedCount S_askedBits S_first S_foundSo S_foundNot S_fought S_needed x1 x3 x4 x6 = some R) (H : Heap) (locs : List Loc) (ls : Array Slot) (hP : va_P D classes (wl_X2_clashingWith ad cs PL S_a S_b court_shoeCount court_claimCount court_suitCount court_suits S_who S_against S_kind S_won S_day S_land S_undoneFrom S_asked S_askedCount S_askedBits S_first S_foundSo S_foundNot S_fought S_needed) H) (hD : va_D A (wl_X2_clashingWith ad cs PL S_a S_b court_shoeCount court_claimCount court_suitCount court_suits S_who S_against S_kind S_won S_day S_land S_undoneFrom S_asked S_askedCount S_askedBits S_first S_foundSo S_foundNot S_fought S_needed)) (hS : va_S A s.heap H locs) (hl : lv_has ls 8 [(0, .ref (ad 4)), (1, .int x1), (3, .ref (S_a x3.toNatClampNeg)), (4, .long x4), (6, .int x6)]) : W p l e rm_X2_clashingWith s m args below meth c H locs 0 0 (MQ below (Q_X2_clashingWith D cs ad PL S_a S_b court_shoeCount court_claimCount court_suitCount court_suits S_who S_against S_kind S_won S_day S_land S_undoneFrom S_asked S_askedCount S_askedBits S_first S_foundSo S_foundNot S_fought S_needed A R) args s 0 0 A) (F0 m 28 ls []) := by
  obtain ⟨hx, hb, hr, hml, hown, ht, hlocks⟩ := id C0
  refine lv_iload hx hb dX2_clashingWith_28 (lv_at hl 4 rfl) ?_
  refine lv_aload_n hx hb dX2_clashingWith_30 rfl (lv_at hl 0 rfl) ?_
  refine va_get (D := D) (ci := 2) (v := .int court_suitCount) (C := RX2) (T := TX2) (N := 13) hx hb ht iX2 hown hK hP 0 rfl rfl 12 (by decide) (ht _ kw_154) (fun _ h9 => h9) rfl dX2_clashingWith_31 ?_
  refine lv_icmp_ge (tgt := 89) hx hb dX2_clashingWith_34 (by decide) (fun c_14 => ?_) (fun c_14 => ?_)
  · have h := zk_t c_14 h
    refine lv_lload hx hb dX2_clashingWith_89 (lv_at hl 3 rfl) ?_
    exact W.lret (v := x4) hx hb hr (fun t ht2 hW => ⟨⟨x4, (), rfl, Option.some.inj h, by rw [ht2]; exact hP, hD⟩, hS.F ht2⟩) hS.2.2 dX2_clashingWith_91 hlocks
  · have h := zk_f c_14 h
    refine lv_aload_n hx hb dX2_clashingWith_37 rfl (lv_at hl 0 rfl) ?_
    refine va_get (D := D) (ci := 2) (v := .ref (ad 13)) (C := RX2) (T := TX2) (N := 13) hx hb ht iX2 hown hK hP 0 rfl rfl 8 (by decide) (ht _ kw_143) (fun _ h9 => h9) rfl dX2_clashingWith_38 ?_
    refine lv_iload hx hb dX2_clashingWith_41 (lv_at hl 4 rfl) ?_
    obtain ⟨g_15, h⟩ := zk_gd h
    obtain ⟨g_16, h⟩ := zk_gd h
    obtain ⟨hs_17, ⟨_, hj_18⟩, ⟨_, hj_19⟩⟩ := hSU _ (zs_lt2 g_16)
    refine va_aldq hx hb hK hP 1 5 rfl rfl g_15 dX2_clashingWith_43 ?_
    refine W.eq (g2 := F0 m 44 ls [.ref (S_a x6.toNatClampNeg)]) (by rw [hs_17]; rfl) ?_
    refine lv_astore (lv' := [(7, .ref (S_a x6.toNatClampNeg)), (0, .ref (ad 4)), (1, .int x1), (3, .ref (S_a x3.toNatClampNeg)), (4, .long x4), (6, .int x6)]) hx hb dX2_clashingWith_44 hl (by decide) rfl (fun ls hl => ?_)
    refine lv_aload hx hb dX2_clashingWith_46 (lv_at hl 0 rfl) ?_
    refine lv_ifnull hx hb dX2_clashingWith_48 ?_
    refine lv_aload hx hb dX2_clashingWith_51 (lv_at hl 0 rfl) ?_
    refine lv_iload_n hx hb dX2_clashingWith_53 rfl (lv_at hl 2 rfl) ?_
    obtain ⟨g_20, h⟩ := zk_gd h
    obtain ⟨hs_21, ⟨_, hj_22⟩, ⟨_, hj_23⟩⟩ := hSU _ (zs_lt2 g_20)
    obtain ⟨r_24, u_25, hc_26, h⟩ := zk_o2 h
    refine zk_viM (post := (fun r u => (r, u) = (r_24, u_25))) (As := [.int x1]) (rest := []) (c_X7_hasNeeded l D cs ad (S_a x6.toNatClampNeg) (S_b x6.toNatClampNeg) H.size x1 (S_who x6.toNatClampNeg) (S_against x6.toNatClampNeg) (S_kind x6.toNatClampNeg) (S_won x6.toNatClampNeg) (S_day x6.toNatClampNeg) (S_land x6.toNatClampNeg) (S_undoneFrom x6.toNatClampNeg) (S_askedCount x6.toNatClampNeg) (S_askedBits x6.toNatClampNeg) (S_first x6.toNatClampNeg) (S_foundSo x6.toNatClampNeg) (S_foundNot x6.toNatClampNeg) (S_fought x6.toNatClampNeg) (S_needed x6.toNatClampNeg) (r_24, u_25) hc_26) ⟨hx, hb, hml, hown, ht⟩ (cwV 1 ht g_X2_66 rfl rfl rfl ⟨rfl, hd_X7_hasNeeded⟩ ⟨Nat.le_of_ble_eq_true rfl, Nat.le_of_ble_eq_true rfl⟩) (va_recv hK hP (ci := 7) (q0 := _) rfl (zPm hj_22 rfl)) hP hD hS hK hA _ (zPm hj_22 rfl) rfl hl.1 (Nat.le_of_ble_eq_true rfl) dX2_clashingWith_54 ⟨Nat.zero_le _, Nat.zero_le _⟩ (fun r u H locs hq hP hD hS => ?_)
    cases hq
    have hP : va_P D classes (wl_X2_clashingWith ad cs PL S_a S_b court_shoeCount court_claimCount court_suitCount court_suits S_who S_against S_kind S_won S_day S_land S_undoneFrom S_asked S_askedCount S_askedBits S_first S_foundSo S_foundNot S_fought S_needed) H := hP
    have hD : va_D A (wl_X2_clashingWith ad cs PL S_a S_b court_shoeCount court_claimCount court_suitCount court_suits S_who S_against S_kind S_won S_day S_land S_undoneFrom S_asked S_askedCount S_askedBits S_first S_foundSo S_foundNot S_fought S_needed) := hD
    refine lv_if_eq (tgt := 83) hx hb dX2_clashingWith_57 (by decide) (fun c_27 => ?_) (fun c_27 => ?_)
    · have h := zk_t c_27 h
      exact L_X2_clashingWith_83 C0 hK hA hSU  ih28 x1 x3 x4 x6 h H locs ls hP hD hS (lv_sub hl [1, 2, 3, 4, 5] rfl)
    · have h := zk_f c_27 h
      refine lv_aload hx hb dX2_clashingWith_60 (lv_at hl 0 rfl) ?_
      refine lv_iload_n hx hb dX2_clashingWith_62 rfl (lv_at hl 2 rfl) ?_
      obtain ⟨g_28, h⟩ := zk_gd h
      obtain ⟨hs_29, ⟨_, hj_30⟩, ⟨_, hj_31⟩⟩ := hSU _ (zs_lt2 g_28)
      obtain ⟨r_32, u_33, hc_34, h⟩ := zk_o2 h
      refine zk_viM (post := (fun r u => (r, u) = (r_32, u_33))) (As := [.int x1]) (rest := []) (c_X7_wayOf l D cs ad (S_a x6.toNatClampNeg) (S_b x6.toNatClampNeg) H.size x1 (S_who x6.toNatClampNeg) (S_against x6.toNatClampNeg) (S_kind x6.toNatClampNeg) (S_won x6.toNatClampNeg) (S_day x6.toNatClampNeg) (S_land x6.toNatClampNeg) (S_undoneFrom x6.toNatClampNeg) (S_askedCount x6.toNatClampNeg) (S_askedBits x6.toNatClampNeg) (S_first x6.toNatClampNeg) (S_foundSo x6.toNatClampNeg) (S_foundNot x6.toNatClampNeg) (S_fought x6.toNatClampNeg) (S_needed x6.toNatClampNeg) (r_32, u_33) hc_34) ⟨hx, hb, hml, hown, ht⟩ (cwV 1 ht g_X2_69 rfl rfl rfl ⟨rfl, hd_X7_wayOf⟩ ⟨Nat.le_of_ble_eq_true rfl, Nat.le_of_ble_eq_true rfl⟩) (va_recv hK hP (ci := 7) (q0 := _) rfl (zPm hj_30 rfl)) hP hD hS hK hA _ (zPm hj_30 rfl) rfl hl.1 (Nat.le_of_ble_eq_true rfl) dX2_clashingWith_63 ⟨Nat.zero_le _, Nat.zero_le _⟩ (fun r u H locs hq hP hD hS => ?_)
      cases hq
      have hP : va_P D classes (wl_X2_clashingWith ad cs PL S_a S_b court_shoeCount court_claimCount court_suitCount court_suits S_who S_against S_kind S_won S_day S_land S_undoneFrom S_asked S_askedCount S_askedBits S_first S_foundSo S_foundNot S_fought S_needed) H := hP
      have hD : va_D A (wl_X2_clashingWith ad cs PL S_a S_b court_shoeCount court_claimCount court_suitCount court_suits S_who S_against S_kind S_won S_day S_land S_undoneFrom S_asked S_askedCount S_askedBits S_first S_foundSo S_foundNot S_fought S_needed) := hD
      refine lv_aload_n hx hb dX2_clashingWith_66 rfl (lv_at hl 3 rfl) ?_
      refine lv_iload_n hx hb dX2_clashingWith_67 rfl (lv_at hl 2 rfl) ?_
      obtain ⟨g_35, h⟩ := zk_gd h
      obtain ⟨hs_36, ⟨_, hj_37⟩, ⟨_, hj_38⟩⟩ := hSU _ (zs_lt2 g_35)
      obtain ⟨r_39, u_40, hc_41, h⟩ := zk_o2 h
      refine zk_viM (post := (fun r u => (r, u) = (r_39, u_40))) (As := [.int x1]) (rest := [.int r_32]) (c_X7_wayOf l D cs ad (S_a x3.toNatClampNeg) (S_b x3.toNatClampNeg) H.size x1 (S_who x3.toNatClampNeg) (S_against x3.toNatClampNeg) (S_kind x3.toNatClampNeg) (S_won x3.toNatClampNeg) (S_day x3.toNatClampNeg) (S_land x3.toNatClampNeg) (S_undoneFrom x3.toNatClampNeg) (S_askedCount x3.toNatClampNeg) (S_askedBits x3.toNatClampNeg) (S_first x3.toNatClampNeg) (S_foundSo x3.toNatClampNeg) (S_foundNot x3.toNatClampNeg) (S_fought x3.toNatClampNeg) (S_needed x3.toNatClampNeg) (r_39, u_40) hc_41) ⟨hx, hb, hml, hown, ht⟩ (cwV 1 ht g_X2_69 rfl rfl rfl ⟨rfl, hd_X7_wayOf⟩ ⟨Nat.le_of_ble_eq_true rfl, Nat.le_of_ble_eq_true rfl⟩) (va_recv hK hP (ci := 7) (q0 := _) rfl (zPm hj_37 rfl)) hP hD hS hK hA _ (zPm hj_37 rfl) rfl hl.1 (Nat.le_of_ble_eq_true rfl) dX2_clashingWith_68 ⟨Nat.zero_le _, Nat.zero_le _⟩ (fun r u H locs hq hP hD hS => ?_)
      cases hq
      have hP : va_P D classes (wl_X2_clashingWith ad cs PL S_a S_b court_shoeCount court_claimCount court_suitCount court_suits S_who S_against S_kind S_won S_day S_land S_undoneFrom S_asked S_askedCount S_askedBits S_first S_foundSo S_foundNot S_fought S_needed) H := hP
      have hD : va_D A (wl_X2_clashingWith ad cs PL S_a S_b court_shoeCount court_claimCount court_suitCount court_suits S_who S_against S_kind S_won S_day S_land S_undoneFrom S_asked S_askedCount S_askedBits S_first S_foundSo S_foundNot S_fought S_needed) := hD
      refine lv_icmp_eq (tgt := 83) hx hb dX2_clashingWith_71 (by decide) (fun c_42 => ?_) (fun c_42 => ?_)
      · have h := zk_t c_42 h
        exact L_X2_clashingWith_83 C0 hK hA hSU  ih28 x1 x3 x4 x6 h H locs ls hP hD hS (lv_sub hl [1, 2, 3, 4, 5] rfl)
      · have h := zk_f c_42 h
        refine lv_lload hx hb dX2_clashingWith_74 (lv_at hl 4 rfl) ?_
        refine lv_lconst (v := (1 : Int64)) hx hb dX2_clashingWith_76 (by decide) ?_
        refine lv_iload hx hb dX2_clashingWith_77 (lv_at hl 5 rfl) ?_
        refine lv_lshl (v := (1 : Int64) <<< (x6.toInt64 &&& 63)) hx hb dX2_clashingWith_79 rfl ?_
        refine lv_lor hx hb dX2_clashingWith_80 ?_
        obtain ⟨v_43, ev_43, h⟩ := zk_lt h
        refine W.eq (g2 := F0 m 81 ls [.long v_43]) (by rw [ev_43]) ?_
        refine lv_lstore (lv' := [(4, .long v_43), (7, .ref (S_a x6.toNatClampNeg)), (0, .ref (ad 4)), (1, .int x1), (3, .ref (S_a x3.toNatClampNeg)), (6, .int x6)]) hx hb dX2_clashingWith_81 hl (by decide) rfl (fun ls hl => ?_)
        exact L_X2_clashingWith_83 C0 hK hA hSU  ih28 x1 x3 v_43 x6 h H locs ls hP hD hS (lv_sub hl [2, 3, 4, 0, 5] rfl)
set_option maxHeartbeats 4000000 in
set_option maxRecDepth 100000 in
theorem L_X2_clashingWith_0 {p : Program} {l : Launch} {e : Env} {s : State} {m : MethodId} {args : Array Value} {below : List Frame} {meth : Method} {c : Code} {A : Nat → Prop} {D : va_G} {cs : Nat → ClassId} {ad : Nat → Nat} {PL : va_W} {S_a : Nat → Nat} {S_b : Nat → Nat} {court_shoeCount : Int32} {court_claimCount : Int32} {court_suitCount : Int32} {court_suits : Nat → Option Nat} {S_who : Nat → Int32} {S_against : Nat → Int32} {S_kind : Nat → Int32} {S_won : Nat → Int32} {S_day : Nat → Int32} {S_land : Nat → Int32} {S_undoneFrom : Nat → Int32} {S_asked : Nat → Nat → Int32} {S_askedCount : Nat → Int32} {S_askedBits : Nat → Int32} {S_first : Nat → Int32} {S_foundSo : Nat → Int32} {S_foundNot : Nat → Int32} {S_fought : Nat → Int32} {S_needed : Nat → Int32} {R : Int64 × Unit} {g28 : Int32 → Int32 → Int64 → Int32 → (Option (Int64 × Unit))} (C0 : zC p s m args meth c cX2_clashingWith 8 (some .long) RX2 zW) (hK : va_K D classes (zT cs) s) (hA : ∀ q : Nat, s.heap.size ≤ q → A q) (hSU : PSu cs PL court_suitCount court_suits S_a S_b S_who S_against S_kind S_won S_day S_land S_undoneFrom S_asked S_askedCount S_askedBits S_first S_foundSo S_foundNot S_fought S_needed) (ih28 : ∀ (x1 : Int32) (x3 : Int32) (x4 : Int64) (x6 : Int32) (h : g28 x1 x3 x4 x6 = some R) (H : Heap) (locs : List Loc) (ls : Array Slot) (hP : va_P D classes (wl_X2_clashingWith ad cs PL S_a S_b court_shoeCount court_claimCount court_suitCount court_suits S_who S_against S_kind S_won S_day S_land S_undoneFrom S_asked S_askedCount S_askedBits S_first S_foundSo S_foundNot S_fought S_needed) H) (hD : va_D A (wl_X2_clashingWith ad cs PL S_a S_b court_shoeCount court_claimCount court_suitCount court_suits S_who S_against S_kind S_won S_day S_land S_undoneFrom S_asked S_askedCount S_askedBits S_first S_foundSo S_foundNot S_fought S_needed)) (hS : va_S A s.heap H locs) (hl : lv_has ls 8 [(0, .ref (ad 4)), (1, .int x1), (3, .ref (S_a x3.toNatClampNeg)), (4, .long x4), (6, .int x6)]), W p l e rm_X2_clashingWith s m args below meth c H locs 0 0 (MQ below (Q_X2_clashingWith D cs ad PL S_a S_b court_shoeCount court_claimCount court_suitCount court_suits S_who S_against S_kind S_won S_day S_land S_undoneFrom S_asked S_askedCount S_askedBits S_first S_foundSo S_foundNot S_fought S_needed A R) args s 0 0 A) (F0 m 28 ls [])) (x1 : Int32) (x2 : Int32) (h : B_X2_clashingWith_0 g28 court_shoeCount court_claimCount court_suitCount court_suits S_who S_against S_kind S_won S_day S_land S_undoneFrom S_asked S_askedCount S_askedBits S_first S_foundSo S_foundNot S_fought S_needed x1 x2 = some R) (H : Heap) (locs : List Loc) (ls : Array Slot) (hP : va_P D classes (wl_X2_clashingWith ad cs PL S_a S_b court_shoeCount court_claimCount court_suitCount court_suits S_who S_against S_kind S_won S_day S_land S_undoneFrom S_asked S_askedCount S_askedBits S_first S_foundSo S_foundNot S_fought S_needed) H) (hD : va_D A (wl_X2_clashingWith ad cs PL S_a S_b court_shoeCount court_claimCount court_suitCount court_suits S_who S_against S_kind S_won S_day S_land S_undoneFrom S_asked S_askedCount S_askedBits S_first S_foundSo S_foundNot S_fought S_needed)) (hS : va_S A s.heap H locs) (hl : lv_has ls 8 [(0, .ref (ad 4)), (1, .int x1), (2, .int x2)]) : W p l e rm_X2_clashingWith s m args below meth c H locs 0 0 (MQ below (Q_X2_clashingWith D cs ad PL S_a S_b court_shoeCount court_claimCount court_suitCount court_suits S_who S_against S_kind S_won S_day S_land S_undoneFrom S_asked S_askedCount S_askedBits S_first S_foundSo S_foundNot S_fought S_needed A R) args s 0 0 A) (F0 m 0 ls []) := by
  obtain ⟨hx, hb, hr, hml, hown, ht, hlocks⟩ := id C0
  refine lv_aload_n hx hb dX2_clashingWith_0 rfl (lv_at hl 0 rfl) ?_
  refine lv_iload_n hx hb dX2_clashingWith_1 rfl (lv_at hl 2 rfl) ?_
  obtain ⟨r_1, u_2, hc_3, h⟩ := zk_o2 h
  refine zz_vqP (post := (fun r u => r = (if r_1 < 0 then none else some (S_a r_1.toNatClampNeg)) ∧ u = (u_2))) (w1 := fun u => (wx_X2_suitAt ad cs PL S_a S_b court_shoeCount court_claimCount court_suitCount court_suits S_who S_against S_kind S_won S_day S_land S_undoneFrom S_asked S_askedCount S_askedBits S_first S_foundSo S_foundNot S_fought S_needed)) (PL := PL) (As := [.int x2]) (rest := []) (c_X2_suitAt l D cs ad PL S_a S_b H.size x2 court_shoeCount court_claimCount court_suitCount court_suits S_who S_against S_kind S_won S_day S_land S_undoneFrom S_asked S_askedCount S_askedBits S_first S_foundSo S_foundNot S_fought S_needed hSU (r_1, u_2) hc_3) ⟨hx, hb, hml, hown, ht⟩ (cwV 1 ht g_X2_62 rfl rfl rfl ⟨rfl, hd_X2_suitAt⟩ ⟨Nat.le_of_ble_eq_true rfl, Nat.le_of_ble_eq_true rfl⟩) (va_recv hK hP (ci := 2) (q0 := 0) rfl rfl) hP hD hS hK hA [0, 1] rfl rfl [(ad 4), (ad 13)] rfl (fun _ => rfl) rfl hl.1 (Nat.le_of_ble_eq_true rfl) dX2_clashingWith_2 ⟨Nat.zero_le _, Nat.zero_le _⟩ (fun r u H locs hq hP hS => ?_)
  obtain ⟨hq1, hq2⟩ := hq; cases hq2; subst hq1
  have hP : va_P D classes (wl_X2_clashingWith ad cs PL S_a S_b court_shoeCount court_claimCount court_suitCount court_suits S_who S_against S_kind S_won S_day S_land S_undoneFrom S_asked S_askedCount S_askedBits S_first S_foundSo S_foundNot S_fought S_needed) H := hP
  have hD : va_D A (wl_X2_clashingWith ad cs PL S_a S_b court_shoeCount court_claimCount court_suitCount court_suits S_who S_against S_kind S_won S_day S_land S_undoneFrom S_asked S_askedCount S_askedBits S_first S_foundSo S_foundNot S_fought S_needed) := zDkp hD [(ad 4), (ad 13)] rfl rfl
  by_cases c_4 : r_1 < 0
  · have h := zk_t c_4 h
    refine W.eq (g2 := F0 m 5 ls [.null]) (by rw [if_pos c_4]; rfl) ?_
    refine lv_astore_nN (lv' := [(3, .null), (0, .ref (ad 4)), (1, .int x1), (2, .int x2)]) hx hb dX2_clashingWith_5 rfl hl (by decide) rfl (fun ls hl => ?_)
    refine lv_aload_nN hx hb dX2_clashingWith_6 rfl (lv_at hl 0 rfl) ?_
    refine lv_ifnullN (tgt := 18) hx hb dX2_clashingWith_7 (by decide) ?_
    refine lv_lconst (v := (0 : Int64)) hx hb dX2_clashingWith_18 (by decide) ?_
    exact W.lret (v := (0 : Int64)) hx hb hr (fun t ht2 hW => ⟨⟨(0 : Int64), (), rfl, Option.some.inj h, by rw [ht2]; exact hP, hD⟩, hS.F ht2⟩) hS.2.2 dX2_clashingWith_19 hlocks
  · have h := zk_f c_4 h
    refine W.eq (g2 := F0 m 5 ls [.ref (S_a r_1.toNatClampNeg)]) (by rw [if_neg c_4]; rfl) ?_
    refine lv_astore_n (lv' := [(3, .ref (S_a r_1.toNatClampNeg)), (0, .ref (ad 4)), (1, .int x1), (2, .int x2)]) hx hb dX2_clashingWith_5 rfl hl (by decide) rfl (fun ls hl => ?_)
    refine lv_aload_n hx hb dX2_clashingWith_6 rfl (lv_at hl 0 rfl) ?_
    refine lv_ifnull hx hb dX2_clashingWith_7 ?_
    refine lv_aload_n hx hb dX2_clashingWith_10 rfl (lv_at hl 0 rfl) ?_
    refine lv_iload_n hx hb dX2_clashingWith_11 rfl (lv_at hl 2 rfl) ?_
    obtain ⟨g_5, h⟩ := zk_gd h
    obtain ⟨hs_6, ⟨_, hj_7⟩, ⟨_, hj_8⟩⟩ := hSU _ (zs_lt2 g_5)
    obtain ⟨r_9, u_10, hc_11, h⟩ := zk_o2 h
    refine zk_viM (post := (fun r u => (r, u) = (r_9, u_10))) (As := [.int x1]) (rest := []) (c_X7_hasNeeded l D cs ad (S_a r_1.toNatClampNeg) (S_b r_1.toNatClampNeg) H.size x1 (S_who r_1.toNatClampNeg) (S_against r_1.toNatClampNeg) (S_kind r_1.toNatClampNeg) (S_won r_1.toNatClampNeg) (S_day r_1.toNatClampNeg) (S_land r_1.toNatClampNeg) (S_undoneFrom r_1.toNatClampNeg) (S_askedCount r_1.toNatClampNeg) (S_askedBits r_1.toNatClampNeg) (S_first r_1.toNatClampNeg) (S_foundSo r_1.toNatClampNeg) (S_foundNot r_1.toNatClampNeg) (S_fought r_1.toNatClampNeg) (S_needed r_1.toNatClampNeg) (r_9, u_10) hc_11) ⟨hx, hb, hml, hown, ht⟩ (cwV 1 ht g_X2_66 rfl rfl rfl ⟨rfl, hd_X7_hasNeeded⟩ ⟨Nat.le_of_ble_eq_true rfl, Nat.le_of_ble_eq_true rfl⟩) (va_recv hK hP (ci := 7) (q0 := _) rfl (zPm hj_7 rfl)) hP hD hS hK hA _ (zPm hj_7 rfl) rfl hl.1 (Nat.le_of_ble_eq_true rfl) dX2_clashingWith_12 ⟨Nat.zero_le _, Nat.zero_le _⟩ (fun r u H locs hq hP hD hS => ?_)
    cases hq
    have hP : va_P D classes (wl_X2_clashingWith ad cs PL S_a S_b court_shoeCount court_claimCount court_suitCount court_suits S_who S_against S_kind S_won S_day S_land S_undoneFrom S_asked S_askedCount S_askedBits S_first S_foundSo S_foundNot S_fought S_needed) H := hP
    have hD : va_D A (wl_X2_clashingWith ad cs PL S_a S_b court_shoeCount court_claimCount court_suitCount court_suits S_who S_against S_kind S_won S_day S_land S_undoneFrom S_asked S_askedCount S_askedBits S_first S_foundSo S_foundNot S_fought S_needed) := hD
    refine lv_if_ne (tgt := 20) hx hb dX2_clashingWith_15 (by decide) (fun c_12 => ?_) (fun c_12 => ?_)
    · have h := zk_f c_12 h
      refine lv_lconst (v := (0 : Int64)) hx hb dX2_clashingWith_20 (by decide) ?_
      refine lv_lstore (lv' := [(4, .long (0 : Int64)), (3, .ref (S_a r_1.toNatClampNeg)), (0, .ref (ad 4)), (1, .int x1), (2, .int x2)]) hx hb dX2_clashingWith_21 hl (by decide) rfl (fun ls hl => ?_)
      refine lv_iload_n hx hb dX2_clashingWith_23 rfl (lv_at hl 4 rfl) ?_
      refine lv_iconst (v := (1 : Int32)) hx hb dX2_clashingWith_24 (by decide) ?_
      refine lv_iadd hx hb dX2_clashingWith_25 ?_
      obtain ⟨v_13, ev_13, h⟩ := zk_lt h
      refine W.eq (g2 := F0 m 26 ls [.int v_13]) (by rw [ev_13]) ?_
      refine lv_istore (lv' := [(6, .int v_13), (4, .long (0 : Int64)), (3, .ref (S_a r_1.toNatClampNeg)), (0, .ref (ad 4)), (1, .int x1), (2, .int x2)]) hx hb dX2_clashingWith_26 hl (by decide) rfl (fun ls hl => ?_)
      exact ih28 x1 r_1 (0 : Int64) v_13 h H locs ls hP hD hS (lv_sub hl [3, 4, 2, 1, 0] rfl)
    · have h := zk_t c_12 h
      refine lv_lconst (v := (0 : Int64)) hx hb dX2_clashingWith_18 (by decide) ?_
      exact W.lret (v := (0 : Int64)) hx hb hr (fun t ht2 hW => ⟨⟨(0 : Int64), (), rfl, Option.some.inj h, by rw [ht2]; exact hP, hD⟩, hS.F ht2⟩) hS.2.2 dX2_clashingWith_19 hlocks
theorem LG_X2_clashingWith {p : Program} {l : Launch} {e : Env} {s : State} {m : MethodId} {args : Array Value} {below : List Frame} {meth : Method} {c : Code} {A : Nat → Prop} {D : va_G} {cs : Nat → ClassId} {ad : Nat → Nat} {PL : va_W} {S_a : Nat → Nat} {S_b : Nat → Nat} {court_shoeCount : Int32} {court_claimCount : Int32} {court_suitCount : Int32} {court_suits : Nat → Option Nat} {S_who : Nat → Int32} {S_against : Nat → Int32} {S_kind : Nat → Int32} {S_won : Nat → Int32} {S_day : Nat → Int32} {S_land : Nat → Int32} {S_undoneFrom : Nat → Int32} {S_asked : Nat → Nat → Int32} {S_askedCount : Nat → Int32} {S_askedBits : Nat → Int32} {S_first : Nat → Int32} {S_foundSo : Nat → Int32} {S_foundNot : Nat → Int32} {S_fought : Nat → Int32} {S_needed : Nat → Int32} {R : Int64 × Unit} (C0 : zC p s m args meth c cX2_clashingWith 8 (some .long) RX2 zW) (hK : va_K D classes (zT cs) s) (hA : ∀ q : Nat, s.heap.size ≤ q → A q) (hSU : PSu cs PL court_suitCount court_suits S_a S_b S_who S_against S_kind S_won S_day S_land S_undoneFrom S_asked S_askedCount S_askedBits S_first S_foundSo S_foundNot S_fought S_needed) : ∀ n : Nat, (∀ (x1 : Int32) (x3 : Int32) (x4 : Int64) (x6 : Int32) (h : (G_X2_clashingWith   court_shoeCount court_claimCount court_suitCount court_suits S_who S_against S_kind S_won S_day S_land S_undoneFrom S_asked S_askedCount S_askedBits S_first S_foundSo S_foundNot S_fought S_needed n) x1 x3 x4 x6 = some R) (H : Heap) (locs : List Loc) (ls : Array Slot) (hP : va_P D classes (wl_X2_clashingWith ad cs PL S_a S_b court_shoeCount court_claimCount court_suitCount court_suits S_who S_against S_kind S_won S_day S_land S_undoneFrom S_asked S_askedCount S_askedBits S_first S_foundSo S_foundNot S_fought S_needed) H) (hD : va_D A (wl_X2_clashingWith ad cs PL S_a S_b court_shoeCount court_claimCount court_suitCount court_suits S_who S_against S_kind S_won S_day S_land S_undoneFrom S_asked S_askedCount S_askedBits S_first S_foundSo S_foundNot S_fought S_needed)) (hS : va_S A s.heap H locs) (hl : lv_has ls 8 [(0, .ref (ad 4)), (1, .int x1), (3, .ref (S_a x3.toNatClampNeg)), (4, .long x4), (6, .int x6)]), W p l e rm_X2_clashingWith s m args below meth c H locs 0 0 (MQ below (Q_X2_clashingWith D cs ad PL S_a S_b court_shoeCount court_claimCount court_suitCount court_suits S_who S_against S_kind S_won S_day S_land S_undoneFrom S_asked S_askedCount S_askedBits S_first S_foundSo S_foundNot S_fought S_needed A R) args s 0 0 A) (F0 m 28 ls [])) := by
  intro n
  induction n with
  | zero =>
    refine ?_ <;> (intros; rename_i h _ _ _ _ _ _ _; cases h)
  | succ n ih =>
    exact L_X2_clashingWith_28 C0 hK hA hSU  ih
set_option maxHeartbeats 4000000 in
set_option maxRecDepth 100000 in
theorem c_X2_clashingWith (l : Launch) (D : va_G) (cs : Nat → ClassId) (ad : Nat → Nat) (PL : va_W) (S_a : Nat → Nat) (S_b : Nat → Nat) (sz : Nat) (n : Nat) (x1 : Int32) (x2 : Int32) (court_shoeCount : Int32) (court_claimCount : Int32) (court_suitCount : Int32) (court_suits : Nat → Option Nat) (S_who : Nat → Int32) (S_against : Nat → Int32) (S_kind : Nat → Int32) (S_won : Nat → Int32) (S_day : Nat → Int32) (S_land : Nat → Int32) (S_undoneFrom : Nat → Int32) (S_asked : Nat → Nat → Int32) (S_askedCount : Nat → Int32) (S_askedBits : Nat → Int32) (S_first : Nat → Int32) (S_foundSo : Nat → Int32) (S_foundNot : Nat → Int32) (S_fought : Nat → Int32) (S_needed : Nat → Int32) (hSU : PSu cs PL court_suitCount court_suits S_a S_b S_who S_against S_kind S_won S_day S_land S_undoneFrom S_asked S_askedCount S_askedBits S_first S_foundSo S_foundNot S_fought S_needed) (R : Int64 × Unit) (h : f_X2_clashingWith   n x1 x2 court_shoeCount court_claimCount court_suitCount court_suits S_who S_against S_kind S_won S_day S_land S_undoneFrom S_asked S_askedCount S_askedBits S_first S_foundSo S_foundNot S_fought S_needed = some R) : Met l yX2_clashingWith (z_X2_clashingWith) rm_X2_clashingWith (va_Pc [.ref (ad 4), .int x1, .int x2] (zPre D cs (wl_X2_clashingWith ad cs PL S_a S_b court_shoeCount court_claimCount court_suitCount court_suits S_who S_against S_kind S_won S_day S_land S_undoneFrom S_asked S_askedCount S_askedBits S_first S_foundSo S_foundNot S_fought S_needed) sz)) (Q_X2_clashingWith D cs ad PL S_a S_b court_shoeCount court_claimCount court_suitCount court_suits S_who S_against S_kind S_won S_day S_land S_undoneFrom S_asked S_askedCount S_askedBits S_first S_foundSo S_foundNot S_fought S_needed (va_A (wl_X2_clashingWith ad cs PL S_a S_b court_shoeCount court_claimCount court_suitCount court_suits S_who S_against S_kind S_won S_day S_land S_undoneFrom S_asked S_askedCount S_askedBits S_first S_foundSo S_foundNot S_fought S_needed) sz) R) 0 0 (va_A (wl_X2_clashingWith ad cs PL S_a S_b court_shoeCount court_claimCount court_suitCount court_suits S_who S_against S_kind S_won S_day S_land S_undoneFrom S_asked S_askedCount S_askedBits S_first S_foundSo S_foundNot S_fought S_needed) sz) := by
  refine Met.ofW (cc := cX2_clashingWith) (maxL := 8) (ret := (some .long)) (by decide) rfl ?_
  intro p e s m args below meth c s₁ B hml hv
  obtain ⟨rfl, hsz, hP, hK, hD0⟩ := hv
  subst hsz
  have hD := hD0.self (sz := s.heap.size)
  have C0 : zC p s m _ meth c cX2_clashingWith 8 (some .long) RX2 zW := ⟨B.exec, B.bytes, B.returns, hml, findClass_of_methodNamed B.named, fun w hw => atoms_spec (ws := z_X2_clashingWith) B.pre w (List.mem_cons_of_mem _ hw), B.notSynchronized⟩
  have hA : ∀ q : Nat, s.heap.size ≤ q → va_A (wl_X2_clashingWith ad cs PL S_a S_b court_shoeCount court_claimCount court_suitCount court_suits S_who S_against S_kind S_won S_day S_land S_undoneFrom S_asked S_askedCount S_askedBits S_first S_foundSo S_foundNot S_fought S_needed) s.heap.size q := fun q h => Or.inr h
  have hl := lv_entry ([.ref (ad 4), .int x1, .int x2]) (n := 8) (Nat.le_of_ble_eq_true rfl)
  rw [lg_entry_eq]
  generalize (lg_sl ([.ref (ad 4), .int x1, .int x2]) ++ List.replicate (8 - (lg_sl ([.ref (ad 4), .int x1, .int x2])).length) Slot.unset).toArray = ls at hl ⊢
  exact L_X2_clashingWith_0 C0 hK hA hSU  ((LG_X2_clashingWith C0 hK hA hSU  n)) x1 x2  h s.heap [] ls hP hD va_S.rf hl
theorem kw_337 : Cond.fieldLink RX7 19 "AlreadyJudged$Suit" "askedCount" "I" ∈ zW := zwC (i := 23) zc_2 rfl rfl
theorem kw_342 : Cond.fieldLink RX7 22 "AlreadyJudged$Suit" "askedBits" "I" ∈ zW := zwC (i := 28) zc_2 rfl rfl
theorem kw_343 : Cond.fieldLink RX7 25 "AlreadyJudged$Suit" "first" "I" ∈ zW := zwC (i := 29) zc_2 rfl rfl
theorem kw_350 : Cond.fieldLink RX7 34 "AlreadyJudged$Suit" "fought" "I" ∈ zW := zwC (i := 36) zc_2 rfl rfl
theorem zh_cX7_forget_0 : zck [42, 3, 181, 0, 19, 42, 3, 181, 0, 22, 42, 3, 181, 0, 25, 42, 3, 181, 0, 28, 42, 3] (zdu 0 cX7_forget.data.toList) = true := by decide +kernel
theorem dX7_forget_0 : decode cX7_forget 0 = .ok (.aload_n 0, 1) := zo_42 zh_cX7_forget_0 0 rfl
theorem dX7_forget_1 : decode cX7_forget 1 = .ok (.iconst 0, 1) := zo_3 zh_cX7_forget_0 1 rfl
theorem dX7_forget_2 : decode cX7_forget 2 = .ok (.putfield 19, 3) := zo_181 zh_cX7_forget_0 2 rfl
theorem dX7_forget_5 : decode cX7_forget 5 = .ok (.aload_n 0, 1) := zo_42 zh_cX7_forget_0 5 rfl
theorem dX7_forget_6 : decode cX7_forget 6 = .ok (.iconst 0, 1) := zo_3 zh_cX7_forget_0 6 rfl
theorem dX7_forget_7 : decode cX7_forget 7 = .ok (.putfield 22, 3) := zo_181 zh_cX7_forget_0 7 rfl
theorem dX7_forget_10 : decode cX7_forget 10 = .ok (.aload_n 0, 1) := zo_42 zh_cX7_forget_0 10 rfl
theorem dX7_forget_11 : decode cX7_forget 11 = .ok (.iconst 0, 1) := zo_3 zh_cX7_forget_0 11 rfl
theorem dX7_forget_12 : decode cX7_forget 12 = .ok (.putfield 25, 3) := zo_181 zh_cX7_forget_0 12 rfl
theorem dX7_forget_15 : decode cX7_forget 15 = .ok (.aload_n 0, 1) := zo_42 zh_cX7_forget_0 15 rfl
theorem dX7_forget_16 : decode cX7_forget 16 = .ok (.iconst 0, 1) := zo_3 zh_cX7_forget_0 16 rfl
theorem dX7_forget_17 : decode cX7_forget 17 = .ok (.putfield 28, 3) := zo_181 zh_cX7_forget_0 17 rfl
theorem zh_cX7_forget_1 : zck [42, 3, 181, 0, 31, 42, 3, 181, 0, 34, 42, 3, 181, 0, 37, 177] (zdu 20 cX7_forget.data.toList) = true := by decide +kernel
theorem dX7_forget_20 : decode cX7_forget 20 = .ok (.aload_n 0, 1) := zo_42 zh_cX7_forget_1 0 rfl
theorem dX7_forget_21 : decode cX7_forget 21 = .ok (.iconst 0, 1) := zo_3 zh_cX7_forget_1 1 rfl
theorem dX7_forget_22 : decode cX7_forget 22 = .ok (.putfield 31, 3) := zo_181 zh_cX7_forget_1 2 rfl
theorem dX7_forget_25 : decode cX7_forget 25 = .ok (.aload_n 0, 1) := zo_42 zh_cX7_forget_1 5 rfl
theorem dX7_forget_26 : decode cX7_forget 26 = .ok (.iconst 0, 1) := zo_3 zh_cX7_forget_1 6 rfl
theorem dX7_forget_27 : decode cX7_forget 27 = .ok (.putfield 34, 3) := zo_181 zh_cX7_forget_1 7 rfl
theorem dX7_forget_30 : decode cX7_forget 30 = .ok (.aload_n 0, 1) := zo_42 zh_cX7_forget_1 10 rfl
theorem dX7_forget_31 : decode cX7_forget 31 = .ok (.iconst 0, 1) := zo_3 zh_cX7_forget_1 11 rfl
theorem dX7_forget_32 : decode cX7_forget 32 = .ok (.putfield 37, 3) := zo_181 zh_cX7_forget_1 12 rfl
theorem dX7_forget_35 : decode cX7_forget 35 = .ok (.return_, 1) := zo_177 zh_cX7_forget_1 15 rfl
abbrev z_X7_forget : List Cond := .code yX7_forget cX7_forget 1 none :: zW
abbrev wl_X7_forget (ad : Nat → Nat) (cs : Nat → ClassId) (h_su : Nat) (h_su_asked : Nat) (su_who : Int32) (su_against : Int32) (su_kind : Int32) (su_won : Int32) (su_day : Int32) (su_land : Int32) (su_undoneFrom : Int32) (su_askedCount : Int32) (su_askedBits : Int32) (su_first : Int32) (su_foundSo : Int32) (su_foundNot : Int32) (su_fought : Int32) (su_needed : Int32) : va_W := [(h_su, .inr (7, [.int su_who, .int su_against, .int su_kind, .int su_won, .int su_day, .int su_land, .int su_undoneFrom, .ref h_su_asked, .int su_askedCount, .int su_askedBits, .int su_first, .int su_foundSo, .int su_foundNot, .int su_fought, .int su_needed]))]
def Q_X7_forget (D : va_G) (cs : Nat → ClassId) (ad : Nat → Nat) (h_su : Nat) (h_su_asked : Nat) (su_who : Int32) (su_against : Int32) (su_kind : Int32) (su_won : Int32) (su_day : Int32) (su_land : Int32) (su_undoneFrom : Int32) (A : Nat → Prop) (R : Int32 × Int32 × Int32 × Int32 × Int32 × Int32 × Int32) : Array Value → State → Outcome → State → Prop :=
  va_Qv (fun u : Int32 × Int32 × Int32 × Int32 × Int32 × Int32 × Int32 => u = R) (fun (u : Int32 × Int32 × Int32 × Int32 × Int32 × Int32 × Int32) (t : State) => va_P D classes (wl_X7_forget ad cs h_su h_su_asked su_who su_against su_kind su_won su_day su_land su_undoneFrom u.1 u.2.1 u.2.2.1 u.2.2.2.1 u.2.2.2.2.1 u.2.2.2.2.2.1 u.2.2.2.2.2.2) t.heap ∧ va_D A (wl_X7_forget ad cs h_su h_su_asked su_who su_against su_kind su_won su_day su_land su_undoneFrom u.1 u.2.1 u.2.2.1 u.2.2.2.1 u.2.2.2.2.1 u.2.2.2.2.2.1 u.2.2.2.2.2.2)) A
abbrev rm_X7_forget : Room := { frames := 0, cells := 0, slots := 0, locals := 0 }
def B_X7_forget_0    (su_who : Int32) (su_against : Int32) (su_kind : Int32) (su_won : Int32) (su_day : Int32) (su_land : Int32) (su_undoneFrom : Int32) (su_askedCount : Int32) (su_askedBits : Int32) (su_first : Int32) (su_foundSo : Int32) (su_foundNot : Int32) (su_fought : Int32) (su_needed : Int32) : Option (Int32 × Int32 × Int32 × Int32 × Int32 × Int32 × Int32) :=
  (some ((0 : Int32), (0 : Int32), (0 : Int32), (0 : Int32), (0 : Int32), (0 : Int32), (0 : Int32)))
def f_X7_forget    (su_who : Int32) (su_against : Int32) (su_kind : Int32) (su_won : Int32) (su_day : Int32) (su_land : Int32) (su_undoneFrom : Int32) (su_askedCount : Int32) (su_askedBits : Int32) (su_first : Int32) (su_foundSo : Int32) (su_foundNot : Int32) (su_fought : Int32) (su_needed : Int32) : Option (Int32 × Int32 × Int32 × Int32 × Int32 × Int32 × Int32) := B_X7_forget_0   su_who su_against su_kind su_won su_day su_land su_undoneFrom  su_askedCount su_askedBits su_first su_foundSo su_foundNot su_fought su_needed
set_option maxHeartbeats 4000000 in
set_option maxRecDepth 100000 in
theorem L_X7_forget_0 {p : Program} {l : Launch} {e : Env} {s : State} {m : MethodId} {args : Array Value} {below : List Frame} {meth : Method} {c : Code} {A : Nat → Prop} {D : va_G} {cs : Nat → ClassId} {ad : Nat → Nat} {h_su : Nat} {h_su_asked : Nat} {su_who : Int32} {su_against : Int32} {su_kind : Int32} {su_won : Int32} {su_day : Int32} {su_land : Int32} {su_undoneFrom : Int32} {R : Int32 × Int32 × Int32 × Int32 × Int32 × Int32 × Int32} (C0 : zC p s m args meth c cX7_forget 1 none RX7 zW) (hK : va_K D classes (zT cs) s) (hA : ∀ q : Nat, s.heap.size ≤ q → A q) (su_askedCount : Int32) (su_askedBits : Int32) (su_first : Int32) (su_foundSo : Int32) (su_foundNot : Int32) (su_fought : Int32) (su_needed : Int32) (h : B_X7_forget_0 su_who su_against su_kind su_won su_day su_land su_undoneFrom su_askedCount su_askedBits su_first su_foundSo su_foundNot su_fought su_needed = some R) (H : Heap) (locs : List Loc) (ls : Array Slot) (hP : va_P D classes (wl_X7_forget ad cs h_su h_su_asked su_who su_against su_kind su_won su_day su_land su_undoneFrom su_askedCount su_askedBits su_first su_foundSo su_foundNot su_fought su_needed) H) (hD : va_D A (wl_X7_forget ad cs h_su h_su_asked su_who su_against su_kind su_won su_day su_land su_undoneFrom su_askedCount su_askedBits su_first su_foundSo su_foundNot su_fought su_needed)) (hS : va_S A s.heap H locs) (hl : lv_has ls 1 [(0, .ref h_su)]) : W p l e rm_X7_forget s m args below meth c H locs 0 0 (MQ below (Q_X7_forget D cs ad h_su h_su_asked su_who su_against su_kind su_won su_day su_land su_undoneFrom A R) args s 0 0 A) (F0 m 0 ls []) := by
  obtain ⟨hx, hb, hr, hml, hown, ht, hlocks⟩ := id C0
  refine lv_aload_n hx hb dX7_forget_0 rfl (lv_at hl 0 rfl) ?_
  refine lv_iconst (v := (0 : Int32)) hx hb dX7_forget_1 (by decide) ?_
  refine va_put (D := D) (ci := 7) (v := .int (0 : Int32)) (ty := .int) (C := RX7) (T := TX7) (N := 15) hx hb ht iX7 tyX7 tyX7_ok nmX7 hown hK hP hD hS 0 rfl rfl 8 (by decide) (ht _ kw_337) (fun _ h9 => h9) rfl (by decide +kernel) rfl rfl (Nat.le_of_ble_eq_true rfl) dX7_forget_2 (fun H locs hP hD hS => ?_)
  have hP : va_P D classes (wl_X7_forget ad cs h_su h_su_asked su_who su_against su_kind su_won su_day su_land su_undoneFrom (0 : Int32) su_askedBits su_first su_foundSo su_foundNot su_fought su_needed) H := hP
  have hD : va_D A (wl_X7_forget ad cs h_su h_su_asked su_who su_against su_kind su_won su_day su_land su_undoneFrom (0 : Int32) su_askedBits su_first su_foundSo su_foundNot su_fought su_needed) := hD
  refine lv_aload_n hx hb dX7_forget_5 rfl (lv_at hl 0 rfl) ?_
  refine lv_iconst (v := (0 : Int32)) hx hb dX7_forget_6 (by decide) ?_
  refine va_put (D := D) (ci := 7) (v := .int (0 : Int32)) (ty := .int) (C := RX7) (T := TX7) (N := 15) hx hb ht iX7 tyX7 tyX7_ok nmX7 hown hK hP hD hS 0 rfl rfl 9 (by decide) (ht _ kw_342) (fun _ h9 => h9) rfl (by decide +kernel) rfl rfl (Nat.le_of_ble_eq_true rfl) dX7_forget_7 (fun H locs hP hD hS => ?_)
  have hP : va_P D classes (wl_X7_forget ad cs h_su h_su_asked su_who su_against su_kind su_won su_day su_land su_undoneFrom (0 : Int32) (0 : Int32) su_first su_foundSo su_foundNot su_fought su_needed) H := hP
  have hD : va_D A (wl_X7_forget ad cs h_su h_su_asked su_who su_against su_kind su_won su_day su_land su_undoneFrom (0 : Int32) (0 : Int32) su_first su_foundSo su_foundNot su_fought su_needed) := hD
  refine lv_aload_n hx hb dX7_forget_10 rfl (lv_at hl 0 rfl) ?_
  refine lv_iconst (v := (0 : Int32)) hx hb dX7_forget_11 (by decide) ?_
  refine va_put (D := D) (ci := 7) (v := .int (0 : Int32)) (ty := .int) (C := RX7) (T := TX7) (N := 15) hx hb ht iX7 tyX7 tyX7_ok nmX7 hown hK hP hD hS 0 rfl rfl 10 (by decide) (ht _ kw_343) (fun _ h9 => h9) rfl (by decide +kernel) rfl rfl (Nat.le_of_ble_eq_true rfl) dX7_forget_12 (fun H locs hP hD hS => ?_)
  have hP : va_P D classes (wl_X7_forget ad cs h_su h_su_asked su_who su_against su_kind su_won su_day su_land su_undoneFrom (0 : Int32) (0 : Int32) (0 : Int32) su_foundSo su_foundNot su_fought su_needed) H := hP
  have hD : va_D A (wl_X7_forget ad cs h_su h_su_asked su_who su_against su_kind su_won su_day su_land su_undoneFrom (0 : Int32) (0 : Int32) (0 : Int32) su_foundSo su_foundNot su_fought su_needed) := hD
  refine lv_aload_n hx hb dX7_forget_15 rfl (lv_at hl 0 rfl) ?_
  refine lv_iconst (v := (0 : Int32)) hx hb dX7_forget_16 (by decide) ?_
  refine va_put (D := D) (ci := 7) (v := .int (0 : Int32)) (ty := .int) (C := RX7) (T := TX7) (N := 15) hx hb ht iX7 tyX7 tyX7_ok nmX7 hown hK hP hD hS 0 rfl rfl 11 (by decide) (ht _ kw_346) (fun _ h9 => h9) rfl (by decide +kernel) rfl rfl (Nat.le_of_ble_eq_true rfl) dX7_forget_17 (fun H locs hP hD hS => ?_)
  have hP : va_P D classes (wl_X7_forget ad cs h_su h_su_asked su_who su_against su_kind su_won su_day su_land su_undoneFrom (0 : Int32) (0 : Int32) (0 : Int32) (0 : Int32) su_foundNot su_fought su_needed) H := hP
  have hD : va_D A (wl_X7_forget ad cs h_su h_su_asked su_who su_against su_kind su_won su_day su_land su_undoneFrom (0 : Int32) (0 : Int32) (0 : Int32) (0 : Int32) su_foundNot su_fought su_needed) := hD
  refine lv_aload_n hx hb dX7_forget_20 rfl (lv_at hl 0 rfl) ?_
  refine lv_iconst (v := (0 : Int32)) hx hb dX7_forget_21 (by decide) ?_
  refine va_put (D := D) (ci := 7) (v := .int (0 : Int32)) (ty := .int) (C := RX7) (T := TX7) (N := 15) hx hb ht iX7 tyX7 tyX7_ok nmX7 hown hK hP hD hS 0 rfl rfl 12 (by decide) (ht _ kw_348) (fun _ h9 => h9) rfl (by decide +kernel) rfl rfl (Nat.le_of_ble_eq_true rfl) dX7_forget_22 (fun H locs hP hD hS => ?_)
  have hP : va_P D classes (wl_X7_forget ad cs h_su h_su_asked su_who su_against su_kind su_won su_day su_land su_undoneFrom (0 : Int32) (0 : Int32) (0 : Int32) (0 : Int32) (0 : Int32) su_fought su_needed) H := hP
  have hD : va_D A (wl_X7_forget ad cs h_su h_su_asked su_who su_against su_kind su_won su_day su_land su_undoneFrom (0 : Int32) (0 : Int32) (0 : Int32) (0 : Int32) (0 : Int32) su_fought su_needed) := hD
  refine lv_aload_n hx hb dX7_forget_25 rfl (lv_at hl 0 rfl) ?_
  refine lv_iconst (v := (0 : Int32)) hx hb dX7_forget_26 (by decide) ?_
  refine va_put (D := D) (ci := 7) (v := .int (0 : Int32)) (ty := .int) (C := RX7) (T := TX7) (N := 15) hx hb ht iX7 tyX7 tyX7_ok nmX7 hown hK hP hD hS 0 rfl rfl 13 (by decide) (ht _ kw_350) (fun _ h9 => h9) rfl (by decide +kernel) rfl rfl (Nat.le_of_ble_eq_true rfl) dX7_forget_27 (fun H locs hP hD hS => ?_)
  have hP : va_P D classes (wl_X7_forget ad cs h_su h_su_asked su_who su_against su_kind su_won su_day su_land su_undoneFrom (0 : Int32) (0 : Int32) (0 : Int32) (0 : Int32) (0 : Int32) (0 : Int32) su_needed) H := hP
  have hD : va_D A (wl_X7_forget ad cs h_su h_su_asked su_who su_against su_kind su_won su_day su_land su_undoneFrom (0 : Int32) (0 : Int32) (0 : Int32) (0 : Int32) (0 : Int32) (0 : Int32) su_needed) := hD
  refine lv_aload_n hx hb dX7_forget_30 rfl (lv_at hl 0 rfl) ?_
  refine lv_iconst (v := (0 : Int32)) hx hb dX7_forget_31 (by decide) ?_
  refine va_put (D := D) (ci := 7) (v := .int (0 : Int32)) (ty := .int) (C := RX7) (T := TX7) (N := 15) hx hb ht iX7 tyX7 tyX7_ok nmX7 hown hK hP hD hS 0 rfl rfl 14 (by decide) (ht _ kw_353) (fun _ h9 => h9) rfl (by decide +kernel) rfl rfl (Nat.le_of_ble_eq_true rfl) dX7_forget_32 (fun H locs hP hD hS => ?_)
  have hP : va_P D classes (wl_X7_forget ad cs h_su h_su_asked su_who su_against su_kind su_won su_day su_land su_undoneFrom (0 : Int32) (0 : Int32) (0 : Int32) (0 : Int32) (0 : Int32) (0 : Int32) (0 : Int32)) H := hP
  have hD : va_D A (wl_X7_forget ad cs h_su h_su_asked su_who su_against su_kind su_won su_day su_land su_undoneFrom (0 : Int32) (0 : Int32) (0 : Int32) (0 : Int32) (0 : Int32) (0 : Int32) (0 : Int32)) := hD
  exact W.vret hx hb hr (fun t ht2 hW => ⟨⟨((0 : Int32), (0 : Int32), (0 : Int32), (0 : Int32), (0 : Int32), (0 : Int32), (0 : Int32)), rfl, Option.some.inj h, by rw [ht2]; exact hP, hD⟩, hS.F ht2⟩) hS.2.2 dX7_forget_35 hlocks
set_option maxHeartbeats 4000000 in
set_option maxRecDepth 100000 in
theorem c_X7_forget (l : Launch) (D : va_G) (cs : Nat → ClassId) (ad : Nat → Nat) (h_su : Nat) (h_su_asked : Nat) (sz : Nat)  (su_who : Int32) (su_against : Int32) (su_kind : Int32) (su_won : Int32) (su_day : Int32) (su_land : Int32) (su_undoneFrom : Int32) (su_askedCount : Int32) (su_askedBits : Int32) (su_first : Int32) (su_foundSo : Int32) (su_foundNot : Int32) (su_fought : Int32) (su_needed : Int32) (R : Int32 × Int32 × Int32 × Int32 × Int32 × Int32 × Int32) (h : f_X7_forget    su_who su_against su_kind su_won su_day su_land su_undoneFrom su_askedCount su_askedBits su_first su_foundSo su_foundNot su_fought su_needed = some R) : Met l yX7_forget (z_X7_forget) rm_X7_forget (va_Pc [.ref h_su] (zPre D cs (wl_X7_forget ad cs h_su h_su_asked su_who su_against su_kind su_won su_day su_land su_undoneFrom su_askedCount su_askedBits su_first su_foundSo su_foundNot su_fought su_needed) sz)) (Q_X7_forget D cs ad h_su h_su_asked su_who su_against su_kind su_won su_day su_land su_undoneFrom (va_A (wl_X7_forget ad cs h_su h_su_asked su_who su_against su_kind su_won su_day su_land su_undoneFrom su_askedCount su_askedBits su_first su_foundSo su_foundNot su_fought su_needed) sz) R) 0 0 (va_A (wl_X7_forget ad cs h_su h_su_asked su_who su_against su_kind su_won su_day su_land su_undoneFrom su_askedCount su_askedBits su_first su_foundSo su_foundNot su_fought su_needed) sz) := by
  refine Met.ofW (cc := cX7_forget) (maxL := 1) (ret := none) (by decide) rfl ?_
  intro p e s m args below meth c s₁ B hml hv
  obtain ⟨rfl, hsz, hP, hK, hD0⟩ := hv
  subst hsz
  have hD := hD0.self (sz := s.heap.size)
  have C0 : zC p s m _ meth c cX7_forget 1 none RX7 zW := ⟨B.exec, B.bytes, B.returns, hml, findClass_of_methodNamed B.named, fun w hw => atoms_spec (ws := z_X7_forget) B.pre w (List.mem_cons_of_mem _ hw), B.notSynchronized⟩
  have hA : ∀ q : Nat, s.heap.size ≤ q → va_A (wl_X7_forget ad cs h_su h_su_asked su_who su_against su_kind su_won su_day su_land su_undoneFrom su_askedCount su_askedBits su_first su_foundSo su_foundNot su_fought su_needed) s.heap.size q := fun q h => Or.inr h
  have hl := lv_entry ([.ref h_su]) (n := 1) (Nat.le_of_ble_eq_true rfl)
  rw [lg_entry_eq]
  generalize (lg_sl ([.ref h_su]) ++ List.replicate (1 - (lg_sl ([.ref h_su])).length) Slot.unset).toArray = ls at hl ⊢
  exact L_X7_forget_0 C0 hK hA    su_askedCount su_askedBits su_first su_foundSo su_foundNot su_fought su_needed h s.heap [] ls hP hD va_S.rf hl
