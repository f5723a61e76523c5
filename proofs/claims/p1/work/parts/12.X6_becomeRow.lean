theorem kw_1254 : Cond.methodLink RX6 22 yJ7_fill_d0a16 ∈ zW := zwI (i := 1254) (by decide +kernel) (by decide +kernel)
theorem dX6_becomeRow_0 : decode cX6_becomeRow 0 = .ok (.aload_n 0, 1) := by decide +kernel
theorem dX6_becomeRow_1 : decode cX6_becomeRow 1 = .ok (.iload_n 1, 1) := by decide +kernel
theorem dX6_becomeRow_2 : decode cX6_becomeRow 2 = .ok (.putfield 11, 3) := by decide +kernel
theorem dX6_becomeRow_5 : decode cX6_becomeRow 5 = .ok (.aload_n 0, 1) := by decide +kernel
theorem dX6_becomeRow_6 : decode cX6_becomeRow 6 = .ok (.iload_n 2, 1) := by decide +kernel
theorem dX6_becomeRow_7 : decode cX6_becomeRow 7 = .ok (.putfield 19, 3) := by decide +kernel
theorem dX6_becomeRow_10 : decode cX6_becomeRow 10 = .ok (.aload_n 0, 1) := by decide +kernel
theorem dX6_becomeRow_11 : decode cX6_becomeRow 11 = .ok (.getfield 15, 3) := by decide +kernel
theorem dX6_becomeRow_14 : decode cX6_becomeRow 14 = .ok (.lconst 0, 1) := by decide +kernel
theorem dX6_becomeRow_15 : decode cX6_becomeRow 15 = .ok (.invokestatic 22, 3) := by decide +kernel
theorem dX6_becomeRow_18 : decode cX6_becomeRow 18 = .ok (.return_, 1) := by decide +kernel
abbrev z_X6_becomeRow : List Cond := .code yX6_becomeRow cX6_becomeRow 3 none :: zW
abbrev wl_X6_becomeRow (ad : Nat → Nat) (cs : Nat → ClassId) (h_pl : Nat) (h_pl_elements : Nat) (pl_holds : Int32) (pl_suit : Int32) (pl_size : Int32) (pl_elements : Nat → Int64) : va_W := [(h_pl, .inr (6, [.int pl_holds, .int pl_suit, .int pl_size, .ref h_pl_elements])), (h_pl_elements, .inl (cs 1, 60, .inr (.inl pl_elements)))]
def Q_X6_becomeRow (D : va_G) (cs : Nat → ClassId) (ad : Nat → Nat) (h_pl : Nat) (h_pl_elements : Nat) (pl_suit : Int32) (A : Nat → Prop) (R : Int32 × Int32 × (Nat → Int64)) : Array Value → State → Outcome → State → Prop :=
  va_Qv (fun u : Int32 × Int32 × (Nat → Int64) => u = R) (fun (u : Int32 × Int32 × (Nat → Int64)) (t : State) => va_P D classes (wl_X6_becomeRow ad cs h_pl h_pl_elements u.1 pl_suit u.2.1 u.2.2) t.heap ∧ va_D A (wl_X6_becomeRow ad cs h_pl h_pl_elements u.1 pl_suit u.2.1 u.2.2)) A
abbrev rm_X6_becomeRow : Room := { frames := 1, cells := 0, slots := 0, locals := 24 }
theorem g_X6_22 : GoodIn zW (va_wsS RX6 22 yJ7_fill_d0a16 z_J7_fill_d0a16) := zGS kw_1254 kw_808 kw_92 kw_809
def B_X6_becomeRow_0    (pl_suit : Int32) (x1 : Int32) (x2 : Int32) (pl_holds : Int32) (pl_size : Int32) (pl_elements : Nat → Int64) : Option (Int32 × Int32 × (Nat → Int64)) :=
  (zk_b1 (f_J7_fill_d0a16 4000 (0 : Int64) pl_elements 60) (fun u_1 => (some (x1, x2, u_1))))
def f_X6_becomeRow   (x1 : Int32) (x2 : Int32) (pl_holds : Int32) (pl_suit : Int32) (pl_size : Int32) (pl_elements : Nat → Int64) : Option (Int32 × Int32 × (Nat → Int64)) := B_X6_becomeRow_0   pl_suit x1 x2 pl_holds pl_size pl_elements
set_option maxHeartbeats 4000000 in
set_option maxRecDepth 100000 in
theorem L_X6_becomeRow_0 {p : Program} {l : Launch} {e : Env} {s : State} {m : MethodId} {args : Array Value} {below : List Frame} {meth : Method} {c : Code} {A : Nat → Prop} {D : va_G} {cs : Nat → ClassId} {ad : Nat → Nat} {h_pl : Nat} {h_pl_elements : Nat} {pl_suit : Int32} {R : Int32 × Int32 × (Nat → Int64)} (C0 : zC p s m args meth c cX6_becomeRow 3 none RX6 zW) (hK : va_K D classes (zT cs) s) (hA : ∀ q : Nat, s.heap.size ≤ q → A q) (x1 : Int32) (x2 : Int32) (pl_holds : Int32) (pl_size : Int32) (pl_elements : Nat → Int64) (h : B_X6_becomeRow_0 pl_suit x1 x2 pl_holds pl_size pl_elements = some R) (H : Heap) (locs : List Loc) (ls : Array Slot) (hP : va_P D classes (wl_X6_becomeRow ad cs h_pl h_pl_elements pl_holds pl_suit pl_size pl_elements) H) (hD : va_D A (wl_X6_becomeRow ad cs h_pl h_pl_elements pl_holds pl_suit pl_size pl_elements)) (hS : va_S A s.heap H locs) (hl : lv_has ls 3 [(0, .ref h_pl), (1, .int x1), (2, .int x2)]) : W p l e rm_X6_becomeRow s m args below meth c H locs 0 0 (MQ below (Q_X6_becomeRow D cs ad h_pl h_pl_elements pl_suit A R) args s 0 0 A) (F0 m 0 ls []) := by
  obtain ⟨hx, hb, hr, hml, hown, ht, hlocks⟩ := id C0
  refine lv_aload_n hx hb dX6_becomeRow_0 rfl (lv_at hl 0 rfl) ?_
  refine lv_iload_n hx hb dX6_becomeRow_1 rfl (lv_at hl 1 rfl) ?_
  refine va_put (D := D) (ci := 6) (v := .int x1) (ty := .int) (C := RX6) (T := TX6) (N := 4) hx hb ht iX6 tyX6 tyX6_ok nmX6 hown hK hP hD hS 0 rfl rfl 0 (by decide) (ht _ kw_680) (fun _ h9 => h9) rfl (by decide +kernel) rfl rfl (Nat.le_of_ble_eq_true rfl) dX6_becomeRow_2 (fun H locs hP hD hS => ?_)
  have hP : va_P D classes (wl_X6_becomeRow ad cs h_pl h_pl_elements x1 pl_suit pl_size pl_elements) H := hP
  have hD : va_D A (wl_X6_becomeRow ad cs h_pl h_pl_elements x1 pl_suit pl_size pl_elements) := hD
  refine lv_aload_n hx hb dX6_becomeRow_5 rfl (lv_at hl 0 rfl) ?_
  refine lv_iload_n hx hb dX6_becomeRow_6 rfl (lv_at hl 2 rfl) ?_
  refine va_put (D := D) (ci := 6) (v := .int x2) (ty := .int) (C := RX6) (T := TX6) (N := 4) hx hb ht iX6 tyX6 tyX6_ok nmX6 hown hK hP hD hS 0 rfl rfl 2 (by decide) (ht _ kw_683) (fun _ h9 => h9) rfl (by decide +kernel) rfl rfl (Nat.le_of_ble_eq_true rfl) dX6_becomeRow_7 (fun H locs hP hD hS => ?_)
  have hP : va_P D classes (wl_X6_becomeRow ad cs h_pl h_pl_elements x1 pl_suit x2 pl_elements) H := hP
  have hD : va_D A (wl_X6_becomeRow ad cs h_pl h_pl_elements x1 pl_suit x2 pl_elements) := hD
  refine lv_aload_n hx hb dX6_becomeRow_10 rfl (lv_at hl 0 rfl) ?_
  refine va_get (D := D) (ci := 6) (v := .ref h_pl_elements) (C := RX6) (T := TX6) (N := 4) hx hb ht iX6 hown hK hP 0 rfl rfl 3 (by decide) (ht _ kw_685) (fun _ h9 => h9) rfl dX6_becomeRow_11 ?_
  refine lv_lconst (v := (0 : Int64)) hx hb dX6_becomeRow_14 (by decide) ?_
  obtain ⟨u_1, hc_2, h⟩ := zk_o1 h
  refine zk_sv (post := (fun u => u = u_1)) (w1 := fun u => (wl_J7_fill_d0a16 ad cs h_pl_elements u 60)) (As := [.ref h_pl_elements, .long (0 : Int64)]) (rest := []) (c_J7_fill_d0a16 l D cs ad h_pl_elements H.size 4000 (0 : Int64) pl_elements 60 _ hc_2) ⟨hx, hb, hml, hown, ht⟩ (va_cwS 2 ht g_X6_22 rfl rfl rfl (by decide +kernel) ⟨Nat.le_of_ble_eq_true rfl, Nat.le_of_ble_eq_true rfl⟩) hP hD hS hK hA [1] [0] rfl rfl rfl rfl (by decide) rfl hl.1 (Nat.le_of_ble_eq_true rfl) dX6_becomeRow_15 ⟨Nat.zero_le _, Nat.zero_le _⟩ (fun u H locs hq hP hD hS => ?_)
  cases hq
  have hP : va_P D classes (wl_X6_becomeRow ad cs h_pl h_pl_elements x1 pl_suit x2 u_1) H := hP.sub [0, 1] rfl
  have hD : va_D A (wl_X6_becomeRow ad cs h_pl h_pl_elements x1 pl_suit x2 u_1) := hD.sub [0, 1] rfl rfl
  exact W.vret hx hb hr (fun t ht2 hW => ⟨⟨(x1, x2, u_1), rfl, Option.some.inj h, by rw [ht2]; exact hP, hD⟩, hS.F ht2⟩) hS.2.2 dX6_becomeRow_18 hlocks
set_option maxHeartbeats 4000000 in
set_option maxRecDepth 100000 in
theorem c_X6_becomeRow (l : Launch) (D : va_G) (cs : Nat → ClassId) (ad : Nat → Nat) (h_pl : Nat) (h_pl_elements : Nat) (sz : Nat) (x1 : Int32) (x2 : Int32) (pl_holds : Int32) (pl_suit : Int32) (pl_size : Int32) (pl_elements : Nat → Int64) (R : Int32 × Int32 × (Nat → Int64)) (h : f_X6_becomeRow   x1 x2 pl_holds pl_suit pl_size pl_elements = some R) : Met l yX6_becomeRow (z_X6_becomeRow) rm_X6_becomeRow (va_Pc [.ref h_pl, .int x1, .int x2] (zPre D cs (wl_X6_becomeRow ad cs h_pl h_pl_elements pl_holds pl_suit pl_size pl_elements) sz)) (Q_X6_becomeRow D cs ad h_pl h_pl_elements pl_suit (va_A (wl_X6_becomeRow ad cs h_pl h_pl_elements pl_holds pl_suit pl_size pl_elements) sz) R) 0 0 (va_A (wl_X6_becomeRow ad cs h_pl h_pl_elements pl_holds pl_suit pl_size pl_elements) sz) := by
  refine Met.ofW (cc := cX6_becomeRow) (maxL := 3) (ret := none) (by decide) rfl ?_
  intro p e s m args below meth c s₁ B hml hv
  obtain ⟨rfl, hsz, hP, hK, hD0⟩ := hv
  subst hsz
  have hD := hD0.self (sz := s.heap.size)
  have C0 : zC p s m _ meth c cX6_becomeRow 3 none RX6 zW := ⟨B.exec, B.bytes, B.returns, hml, findClass_of_methodNamed B.named, fun w hw => atoms_spec (ws := z_X6_becomeRow) B.pre w (List.mem_cons_of_mem _ hw), B.notSynchronized⟩
  have hA : ∀ q : Nat, s.heap.size ≤ q → va_A (wl_X6_becomeRow ad cs h_pl h_pl_elements pl_holds pl_suit pl_size pl_elements) s.heap.size q := fun q h => Or.inr h
  have hl := lv_entry ([.ref h_pl, .int x1, .int x2]) (n := 3) (Nat.le_of_ble_eq_true rfl)
  rw [lg_entry_eq]
  generalize (lg_sl ([.ref h_pl, .int x1, .int x2]) ++ List.replicate (3 - (lg_sl ([.ref h_pl, .int x1, .int x2])).length) Slot.unset).toArray = ls at hl ⊢
  exact L_X6_becomeRow_0 C0 hK hA   x1 x2 pl_holds pl_size pl_elements h s.heap [] ls hP hD va_S.rf hl
theorem kw_94 : Cond.initialized RX6 ∈ zW := zwI (i := 94) (by decide +kernel) (by decide +kernel)
theorem kw_758 : Cond.instanceMethod yX6_hasRange ∈ zW := zwI (i := 758) (by decide +kernel) (by decide +kernel)
theorem kw_759 : Cond.selects RX6 yX6_hasRange yX6_hasRange ∈ zW := zwI (i := 759) (by decide +kernel) (by decide +kernel)
theorem kw_760 : Cond.code yX6_hasRange cX6_hasRange 3 (some .boolean) ∈ zW := zwI (i := 760) (by decide +kernel) (by decide +kernel)
theorem kw_1263 : Cond.methodLink RX6 28 yX6_hasRange ∈ zW := zwI (i := 1263) (by decide +kernel) (by decide +kernel)
theorem dX6_refusalOf_0 : decode cX6_refusalOf 0 = .ok (.aload_n 0, 1) := by decide +kernel
theorem dX6_refusalOf_1 : decode cX6_refusalOf 1 = .ok (.getfield 11, 3) := by decide +kernel
theorem dX6_refusalOf_4 : decode cX6_refusalOf 4 = .ok (.iconst (-1), 1) := by decide +kernel
theorem dX6_refusalOf_5 : decode cX6_refusalOf 5 = .ok (.if_icmp .ne 6, 3) := by decide +kernel
theorem dX6_refusalOf_8 : decode cX6_refusalOf 8 = .ok (.bipush (-11), 2) := by decide +kernel
theorem dX6_refusalOf_10 : decode cX6_refusalOf 10 = .ok (.ireturn, 1) := by decide +kernel
theorem dX6_refusalOf_11 : decode cX6_refusalOf 11 = .ok (.aload_n 0, 1) := by decide +kernel
theorem dX6_refusalOf_12 : decode cX6_refusalOf 12 = .ok (.getfield 11, 3) := by decide +kernel
theorem dX6_refusalOf_15 : decode cX6_refusalOf 15 = .ok (.iconst 5, 1) := by decide +kernel
theorem dX6_refusalOf_16 : decode cX6_refusalOf 16 = .ok (.if_icmp .ne 6, 3) := by decide +kernel
theorem dX6_refusalOf_19 : decode cX6_refusalOf 19 = .ok (.bipush (-12), 2) := by decide +kernel
theorem dX6_refusalOf_21 : decode cX6_refusalOf 21 = .ok (.ireturn, 1) := by decide +kernel
theorem dX6_refusalOf_22 : decode cX6_refusalOf 22 = .ok (.aload_n 0, 1) := by decide +kernel
theorem dX6_refusalOf_23 : decode cX6_refusalOf 23 = .ok (.iload_n 1, 1) := by decide +kernel
theorem dX6_refusalOf_24 : decode cX6_refusalOf 24 = .ok (.iconst 1, 1) := by decide +kernel
theorem dX6_refusalOf_25 : decode cX6_refusalOf 25 = .ok (.invokevirtual 28, 3) := by decide +kernel
theorem dX6_refusalOf_28 : decode cX6_refusalOf 28 = .ok (.ifCond .eq 7, 3) := by decide +kernel
theorem dX6_refusalOf_31 : decode cX6_refusalOf 31 = .ok (.iconst 0, 1) := by decide +kernel
theorem dX6_refusalOf_32 : decode cX6_refusalOf 32 = .ok (.goto 5, 3) := by decide +kernel
theorem dX6_refusalOf_35 : decode cX6_refusalOf 35 = .ok (.bipush (-13), 2) := by decide +kernel
theorem dX6_refusalOf_37 : decode cX6_refusalOf 37 = .ok (.ireturn, 1) := by decide +kernel
abbrev z_X6_refusalOf : List Cond := .code yX6_refusalOf cX6_refusalOf 2 (some .int) :: zW
abbrev wl_X6_refusalOf (ad : Nat → Nat) (cs : Nat → ClassId) (h_pl : Nat) (h_pl_elements : Nat) (pl_holds : Int32) (pl_suit : Int32) (pl_size : Int32) : va_W := [(h_pl, .inr (6, [.int pl_holds, .int pl_suit, .int pl_size, .ref h_pl_elements]))]
def Q_X6_refusalOf (D : va_G) (cs : Nat → ClassId) (ad : Nat → Nat) (h_pl : Nat) (h_pl_elements : Nat) (pl_holds : Int32) (pl_suit : Int32) (pl_size : Int32) (A : Nat → Prop) (R : Int32 × Unit) : Array Value → State → Outcome → State → Prop :=
  va_Qi (fun (r : Int32) (u : Unit) => (r, u) = R) (fun (u : Unit) (t : State) => va_P D classes (wl_X6_refusalOf ad cs h_pl h_pl_elements pl_holds pl_suit pl_size) t.heap ∧ va_D A (wl_X6_refusalOf ad cs h_pl h_pl_elements pl_holds pl_suit pl_size)) A
abbrev rm_X6_refusalOf : Room := { frames := 1, cells := 0, slots := 0, locals := 22 }
theorem g_X6_28 : GoodIn zW (wsV RX6 28 RX6 yX6_hasRange z_X6_hasRange) := zGV kw_1263 kw_758 kw_759 kw_94 kw_760
def B_X6_refusalOf_0    (pl_holds : Int32) (pl_suit : Int32) (pl_size : Int32) (x1 : Int32) : Option (Int32 × Unit) :=
  (if pl_holds = (-1 : Int32) then (some ((-11 : Int32), ())) else (if pl_holds = (5 : Int32) then (some ((-12 : Int32), ())) else (zk_b2 (f_X6_hasRange x1 (1 : Int32) pl_holds pl_suit pl_size) (fun r_3 u_4 => (if r_3 = 0 then (some ((-13 : Int32), ())) else (some ((0 : Int32), ())))))))
def f_X6_refusalOf   (x1 : Int32) (pl_holds : Int32) (pl_suit : Int32) (pl_size : Int32) : Option (Int32 × Unit) := B_X6_refusalOf_0   pl_holds pl_suit pl_size x1 
set_option maxHeartbeats 4000000 in
set_option maxRecDepth 100000 in
theorem L_X6_refusalOf_0 {p : Program} {l : Launch} {e : Env} {s : State} {m : MethodId} {args : Array Value} {below : List Frame} {meth : Method} {c : Code} {A : Nat → Prop} {D : va_G} {cs : Nat → ClassId} {ad : Nat → Nat} {h_pl : Nat} {h_pl_elements : Nat} {pl_holds : Int32} {pl_suit : Int32} {pl_size : Int32} {R : Int32 × Unit} (C0 : zC p s m args meth c cX6_refusalOf 2 (some .int) RX6 zW) (hK : va_K D classes (zT cs) s) (hA : ∀ q : Nat, s.heap.size ≤ q → A q) (x1 : Int32) (h : B_X6_refusalOf_0 pl_holds pl_suit pl_size x1 = some R) (H : Heap) (locs : List Loc) (ls : Array Slot) (hP : va_P D classes (wl_X6_refusalOf ad cs h_pl h_pl_elements pl_holds pl_suit pl_size) H) (hD : va_D A (wl_X6_refusalOf ad cs h_pl h_pl_elements pl_holds pl_suit pl_size)) (hS : va_S A s.heap H locs) (hl : lv_has ls 2 [(0, .ref h_pl), (1, .int x1)]) : W p l e rm_X6_refusalOf s m args below meth c H locs 0 0 (MQ below (Q_X6_refusalOf D cs ad h_pl h_pl_elements pl_holds pl_suit pl_size A R) args s 0 0 A) (F0 m 0 ls []) := by
  obtain ⟨hx, hb, hr, hml, hown, ht, hlocks⟩ := id C0
  refine lv_aload_n hx hb dX6_refusalOf_0 rfl (lv_at hl 0 rfl) ?_
  refine va_get (D := D) (ci := 6) (v := .int pl_holds) (C := RX6) (T := TX6) (N := 4) hx hb ht iX6 hown hK hP 0 rfl rfl 0 (by decide) (ht _ kw_680) (fun _ h9 => h9) rfl dX6_refusalOf_1 ?_
  refine lv_iconst (v := (-1 : Int32)) hx hb dX6_refusalOf_4 (by decide) ?_
  refine lv_icmp_ne (tgt := 11) hx hb dX6_refusalOf_5 (by decide) (fun c_1 => ?_) (fun c_1 => ?_)
  · have h := zk_f c_1 h
    refine lv_aload_n hx hb dX6_refusalOf_11 rfl (lv_at hl 0 rfl) ?_
    refine va_get (D := D) (ci := 6) (v := .int pl_holds) (C := RX6) (T := TX6) (N := 4) hx hb ht iX6 hown hK hP 0 rfl rfl 0 (by decide) (ht _ kw_680) (fun _ h9 => h9) rfl dX6_refusalOf_12 ?_
    refine lv_iconst (v := (5 : Int32)) hx hb dX6_refusalOf_15 (by decide) ?_
    refine lv_icmp_ne (tgt := 22) hx hb dX6_refusalOf_16 (by decide) (fun c_2 => ?_) (fun c_2 => ?_)
    · have h := zk_f c_2 h
      refine lv_aload_n hx hb dX6_refusalOf_22 rfl (lv_at hl 0 rfl) ?_
      refine lv_iload_n hx hb dX6_refusalOf_23 rfl (lv_at hl 1 rfl) ?_
      refine lv_iconst (v := (1 : Int32)) hx hb dX6_refusalOf_24 (by decide) ?_
      obtain ⟨r_3, u_4, hc_5, h⟩ := zk_o2 h
      refine zk_vi (post := (fun r u => (r, u) = (r_3, u_4))) (w1 := fun u => (wl_X6_hasRange ad cs h_pl h_pl_elements pl_holds pl_suit pl_size)) (As := [.int x1, .int (1 : Int32)]) (rest := []) (c_X6_hasRange l D cs ad h_pl h_pl_elements H.size x1 (1 : Int32) pl_holds pl_suit pl_size _ hc_5) ⟨hx, hb, hml, hown, ht⟩ (cwV 2 ht g_X6_28 rfl rfl rfl (by decide +kernel) ⟨Nat.le_of_ble_eq_true rfl, Nat.le_of_ble_eq_true rfl⟩) (va_recv hK hP (ci := 6) (q0 := 0) rfl rfl) hP hD hS hK hA [0] [] rfl rfl rfl rfl (by decide) rfl hl.1 (Nat.le_of_ble_eq_true rfl) dX6_refusalOf_25 ⟨Nat.zero_le _, Nat.zero_le _⟩ (fun r u H locs hq hP hD hS => ?_)
      cases hq
      have hP : va_P D classes (wl_X6_refusalOf ad cs h_pl h_pl_elements pl_holds pl_suit pl_size) H := hP.sub [0] rfl
      have hD : va_D A (wl_X6_refusalOf ad cs h_pl h_pl_elements pl_holds pl_suit pl_size) := hD.sub [0] rfl rfl
      refine lv_if_eq (tgt := 35) hx hb dX6_refusalOf_28 (by decide) (fun c_6 => ?_) (fun c_6 => ?_)
      · have h := zk_t c_6 h
        refine lv_bipush (v := (-13 : Int32)) hx hb dX6_refusalOf_35 (by decide) ?_
        exact W.iret (v := (-13 : Int32)) hx hb hr (fun t ht2 hW => ⟨⟨(-13 : Int32), (), rfl, Option.some.inj h, by rw [ht2]; exact hP, hD⟩, hS.F ht2⟩) hS.2.2 dX6_refusalOf_37 hlocks
      · have h := zk_f c_6 h
        refine lv_iconst (v := (0 : Int32)) hx hb dX6_refusalOf_31 (by decide) ?_
        refine lv_goto (tgt := 37) hx hb dX6_refusalOf_32 (by decide) ?_
        exact W.iret (v := (0 : Int32)) hx hb hr (fun t ht2 hW => ⟨⟨(0 : Int32), (), rfl, Option.some.inj h, by rw [ht2]; exact hP, hD⟩, hS.F ht2⟩) hS.2.2 dX6_refusalOf_37 hlocks
    · have h := zk_t c_2 h
      refine lv_bipush (v := (-12 : Int32)) hx hb dX6_refusalOf_19 (by decide) ?_
      exact W.iret (v := (-12 : Int32)) hx hb hr (fun t ht2 hW => ⟨⟨(-12 : Int32), (), rfl, Option.some.inj h, by rw [ht2]; exact hP, hD⟩, hS.F ht2⟩) hS.2.2 dX6_refusalOf_21 hlocks
  · have h := zk_t c_1 h
    refine lv_bipush (v := (-11 : Int32)) hx hb dX6_refusalOf_8 (by decide) ?_
    exact W.iret (v := (-11 : Int32)) hx hb hr (fun t ht2 hW => ⟨⟨(-11 : Int32), (), rfl, Option.some.inj h, by rw [ht2]; exact hP, hD⟩, hS.F ht2⟩) hS.2.2 dX6_refusalOf_10 hlocks
set_option maxHeartbeats 4000000 in
set_option maxRecDepth 100000 in
theorem c_X6_refusalOf (l : Launch) (D : va_G) (cs : Nat → ClassId) (ad : Nat → Nat) (h_pl : Nat) (h_pl_elements : Nat) (sz : Nat) (x1 : Int32) (pl_holds : Int32) (pl_suit : Int32) (pl_size : Int32) (R : Int32 × Unit) (h : f_X6_refusalOf   x1 pl_holds pl_suit pl_size = some R) : Met l yX6_refusalOf (z_X6_refusalOf) rm_X6_refusalOf (va_Pc [.ref h_pl, .int x1] (zPre D cs (wl_X6_refusalOf ad cs h_pl h_pl_elements pl_holds pl_suit pl_size) sz)) (Q_X6_refusalOf D cs ad h_pl h_pl_elements pl_holds pl_suit pl_size (va_A (wl_X6_refusalOf ad cs h_pl h_pl_elements pl_holds pl_suit pl_size) sz) R) 0 0 (va_A (wl_X6_refusalOf ad cs h_pl h_pl_elements pl_holds pl_suit pl_size) sz) := by
  refine Met.ofW (cc := cX6_refusalOf) (maxL := 2) (ret := (some .int)) (by decide) rfl ?_
  intro p e s m args below meth c s₁ B hml hv
  obtain ⟨rfl, hsz, hP, hK, hD0⟩ := hv
  subst hsz
  have hD := hD0.self (sz := s.heap.size)
  have C0 : zC p s m _ meth c cX6_refusalOf 2 (some .int) RX6 zW := ⟨B.exec, B.bytes, B.returns, hml, findClass_of_methodNamed B.named, fun w hw => atoms_spec (ws := z_X6_refusalOf) B.pre w (List.mem_cons_of_mem _ hw), B.notSynchronized⟩
  have hA : ∀ q : Nat, s.heap.size ≤ q → va_A (wl_X6_refusalOf ad cs h_pl h_pl_elements pl_holds pl_suit pl_size) s.heap.size q := fun q h => Or.inr h
  have hl := lv_entry ([.ref h_pl, .int x1]) (n := 2) (Nat.le_of_ble_eq_true rfl)
  rw [lg_entry_eq]
  generalize (lg_sl ([.ref h_pl, .int x1]) ++ List.replicate (2 - (lg_sl ([.ref h_pl, .int x1])).length) Slot.unset).toArray = ls at hl ⊢
  exact L_X6_refusalOf_0 C0 hK hA   x1  h s.heap [] ls hP hD va_S.rf hl
theorem dX11_isDay_0 : decode cX11_isDay 0 = .ok (.iload_n 0, 1) := by decide +kernel
theorem dX11_isDay_1 : decode cX11_isDay 1 = .ok (.ifCond .lt 14, 3) := by decide +kernel
theorem dX11_isDay_4 : decode cX11_isDay 4 = .ok (.iload_n 0, 1) := by decide +kernel
theorem dX11_isDay_5 : decode cX11_isDay 5 = .ok (.sipush 10000, 3) := by decide +kernel
theorem dX11_isDay_8 : decode cX11_isDay 8 = .ok (.if_icmp .ge 7, 3) := by decide +kernel
theorem dX11_isDay_11 : decode cX11_isDay 11 = .ok (.iconst 1, 1) := by decide +kernel
theorem dX11_isDay_12 : decode cX11_isDay 12 = .ok (.goto 4, 3) := by decide +kernel
theorem dX11_isDay_15 : decode cX11_isDay 15 = .ok (.iconst 0, 1) := by decide +kernel
theorem dX11_isDay_16 : decode cX11_isDay 16 = .ok (.ireturn, 1) := by decide +kernel
abbrev z_X11_isDay : List Cond := .code yX11_isDay cX11_isDay 1 (some .boolean) :: zW
abbrev wl_X11_isDay (ad : Nat → Nat) (cs : Nat → ClassId)   : va_W := []
def Q_X11_isDay (D : va_G) (cs : Nat → ClassId) (ad : Nat → Nat)   (A : Nat → Prop) (R : Int32 × Unit) : Array Value → State → Outcome → State → Prop :=
  va_Qi (fun (r : Int32) (u : Unit) => (r, u) = R) (fun (u : Unit) (t : State) => va_P D classes (wl_X11_isDay ad cs ) t.heap ∧ va_D A (wl_X11_isDay ad cs )) A
abbrev rm_X11_isDay : Room := { frames := 0, cells := 0, slots := 0, locals := 0 }
def B_X11_isDay_0     (x0 : Int32) : Option (Int32 × Unit) :=
  (if x0 < 0 then (some ((0 : Int32), ())) else (if (10000 : Int32) ≤ x0 then (some ((0 : Int32), ())) else (some ((1 : Int32), ()))))
def f_X11_isDay   (x0 : Int32)  : Option (Int32 × Unit) := B_X11_isDay_0    x0 
set_option maxHeartbeats 4000000 in
set_option maxRecDepth 100000 in
theorem L_X11_isDay_0 {p : Program} {l : Launch} {e : Env} {s : State} {m : MethodId} {args : Array Value} {below : List Frame} {meth : Method} {c : Code} {A : Nat → Prop} {D : va_G} {cs : Nat → ClassId} {ad : Nat → Nat} {R : Int32 × Unit} (C0 : zC p s m args meth c cX11_isDay 1 (some .boolean) RX11 zW) (hK : va_K D classes (zT cs) s) (hA : ∀ q : Nat, s.heap.size ≤ q → A q) (x0 : Int32) (h : B_X11_isDay_0 x0 = some R) (H : Heap) (locs : List Loc) (ls : Array Slot) (hP : va_P D classes (wl_X11_isDay ad cs ) H) (hD : va_D A (wl_X11_isDay ad cs )) (hS : va_S A s.heap H locs) (hl : lv_has ls 1 [(0, .int x0)]) : W p l e rm_X11_isDay s m args below meth c H locs 0 0 (MQ below (Q_X11_isDay D cs ad  A R) args s 0 0 A) (F0 m 0 ls []) := by
  obtain ⟨hx, hb, hr, hml, hown, ht, hlocks⟩ := id C0
  refine lv_iload_n hx hb dX11_isDay_0 rfl (lv_at hl 0 rfl) ?_
  refine lv_if_lt (tgt := 15) hx hb dX11_isDay_1 (by decide) (fun c_1 => ?_) (fun c_1 => ?_)
  · have h := zk_t c_1 h
    refine lv_iconst (v := (0 : Int32)) hx hb dX11_isDay_15 (by decide) ?_
    exact W.zret (ty := .boolean) (v := (0 : Int32)) hx hb hr rfl (fun t ht2 hW => ⟨⟨(0 : Int32), (), rfl, Option.some.inj h, by rw [ht2]; exact hP, hD⟩, hS.F ht2⟩) hS.2.2 dX11_isDay_16 hlocks
  · have h := zk_f c_1 h
    refine lv_iload_n hx hb dX11_isDay_4 rfl (lv_at hl 0 rfl) ?_
    refine lv_sipush (v := (10000 : Int32)) hx hb dX11_isDay_5 (by decide) ?_
    refine lv_icmp_ge (tgt := 15) hx hb dX11_isDay_8 (by decide) (fun c_2 => ?_) (fun c_2 => ?_)
    · have h := zk_t c_2 h
      refine lv_iconst (v := (0 : Int32)) hx hb dX11_isDay_15 (by decide) ?_
      exact W.zret (ty := .boolean) (v := (0 : Int32)) hx hb hr rfl (fun t ht2 hW => ⟨⟨(0 : Int32), (), rfl, Option.some.inj h, by rw [ht2]; exact hP, hD⟩, hS.F ht2⟩) hS.2.2 dX11_isDay_16 hlocks
    · have h := zk_f c_2 h
      refine lv_iconst (v := (1 : Int32)) hx hb dX11_isDay_11 (by decide) ?_
      refine lv_goto (tgt := 16) hx hb dX11_isDay_12 (by decide) ?_
      exact W.zret (ty := .boolean) (v := (1 : Int32)) hx hb hr rfl (fun t ht2 hW => ⟨⟨(1 : Int32), (), rfl, Option.some.inj h, by rw [ht2]; exact hP, hD⟩, hS.F ht2⟩) hS.2.2 dX11_isDay_16 hlocks
set_option maxHeartbeats 4000000 in
set_option maxRecDepth 100000 in
theorem c_X11_isDay (l : Launch) (D : va_G) (cs : Nat → ClassId) (ad : Nat → Nat) (sz : Nat) (x0 : Int32)  (R : Int32 × Unit) (h : f_X11_isDay   x0  = some R) : Met l yX11_isDay (z_X11_isDay) rm_X11_isDay (va_Pc [.int x0] (zPre D cs (wl_X11_isDay ad cs ) sz)) (Q_X11_isDay D cs ad  (va_A (wl_X11_isDay ad cs ) sz) R) 0 0 (va_A (wl_X11_isDay ad cs ) sz) := by
  refine Met.ofW (cc := cX11_isDay) (maxL := 1) (ret := (some .boolean)) (by decide) rfl ?_
  intro p e s m args below meth c s₁ B hml hv
  obtain ⟨rfl, hsz, hP, hK, hD0⟩ := hv
  subst hsz
  have hD := hD0.self (sz := s.heap.size)
  have C0 : zC p s m _ meth c cX11_isDay 1 (some .boolean) RX11 zW := ⟨B.exec, B.bytes, B.returns, hml, findClass_of_methodNamed B.named, fun w hw => atoms_spec (ws := z_X11_isDay) B.pre w (List.mem_cons_of_mem _ hw), B.notSynchronized⟩
  have hA : ∀ q : Nat, s.heap.size ≤ q → va_A (wl_X11_isDay ad cs ) s.heap.size q := fun q h => Or.inr h
  have hl := lv_entry ([.int x0]) (n := 1) (Nat.le_of_ble_eq_true rfl)
  rw [lg_entry_eq]
  generalize (lg_sl ([.int x0]) ++ List.replicate (1 - (lg_sl ([.int x0])).length) Slot.unset).toArray = ls at hl ⊢
  exact L_X11_isDay_0 C0 hK hA   x0  h s.heap [] ls hP hD va_S.rf hl
theorem kw_75 : Cond.initialized RX11 ∈ zW := zwI (i := 75) (by decide +kernel) (by decide +kernel)
theorem kw_738 : Cond.static yX11_isDay ∈ zW := zwI (i := 738) (by decide +kernel) (by decide +kernel)
theorem kw_739 : Cond.code yX11_isDay cX11_isDay 1 (some .boolean) ∈ zW := zwI (i := 739) (by decide +kernel) (by decide +kernel)
theorem dX2_isShoe_0 : decode cX2_isShoe 0 = .ok (.iload_n 0, 1) := by decide +kernel
theorem dX2_isShoe_1 : decode cX2_isShoe 1 = .ok (.ifCond .lt 45, 3) := by decide +kernel
theorem dX2_isShoe_4 : decode cX2_isShoe 4 = .ok (.iload_n 0, 1) := by decide +kernel
theorem dX2_isShoe_5 : decode cX2_isShoe 5 = .ok (.bipush 20, 2) := by decide +kernel
theorem dX2_isShoe_7 : decode cX2_isShoe 7 = .ok (.if_icmp .ge 39, 3) := by decide +kernel
theorem dX2_isShoe_10 : decode cX2_isShoe 10 = .ok (.iload_n 1, 1) := by decide +kernel
theorem dX2_isShoe_11 : decode cX2_isShoe 11 = .ok (.ifCond .lt 35, 3) := by decide +kernel
theorem dX2_isShoe_14 : decode cX2_isShoe 14 = .ok (.iload_n 1, 1) := by decide +kernel
theorem dX2_isShoe_15 : decode cX2_isShoe 15 = .ok (.bipush 20, 2) := by decide +kernel
theorem dX2_isShoe_17 : decode cX2_isShoe 17 = .ok (.if_icmp .ge 29, 3) := by decide +kernel
theorem dX2_isShoe_20 : decode cX2_isShoe 20 = .ok (.iload_n 0, 1) := by decide +kernel
theorem dX2_isShoe_21 : decode cX2_isShoe 21 = .ok (.iload_n 1, 1) := by decide +kernel
theorem dX2_isShoe_22 : decode cX2_isShoe 22 = .ok (.if_icmp .eq 24, 3) := by decide +kernel
theorem dX2_isShoe_25 : decode cX2_isShoe 25 = .ok (.iload_n 2, 1) := by decide +kernel
theorem dX2_isShoe_26 : decode cX2_isShoe 26 = .ok (.iconst 1, 1) := by decide +kernel
theorem dX2_isShoe_27 : decode cX2_isShoe 27 = .ok (.if_icmp .lt 19, 3) := by decide +kernel
theorem dX2_isShoe_30 : decode cX2_isShoe 30 = .ok (.iload_n 2, 1) := by decide +kernel
theorem dX2_isShoe_31 : decode cX2_isShoe 31 = .ok (.iconst 5, 1) := by decide +kernel
theorem dX2_isShoe_32 : decode cX2_isShoe 32 = .ok (.if_icmp .gt 14, 3) := by decide +kernel
theorem dX2_isShoe_35 : decode cX2_isShoe 35 = .ok (.iload_n 3, 1) := by decide +kernel
theorem dX2_isShoe_36 : decode cX2_isShoe 36 = .ok (.invokestatic 48, 3) := by decide +kernel
theorem dX2_isShoe_39 : decode cX2_isShoe 39 = .ok (.ifCond .eq 7, 3) := by decide +kernel
theorem dX2_isShoe_42 : decode cX2_isShoe 42 = .ok (.iconst 1, 1) := by decide +kernel
theorem dX2_isShoe_43 : decode cX2_isShoe 43 = .ok (.goto 4, 3) := by decide +kernel
theorem dX2_isShoe_46 : decode cX2_isShoe 46 = .ok (.iconst 0, 1) := by decide +kernel
theorem dX2_isShoe_47 : decode cX2_isShoe 47 = .ok (.ireturn, 1) := by decide +kernel
abbrev z_X2_isShoe : List Cond := .code yX2_isShoe cX2_isShoe 4 (some .boolean) :: zW
abbrev wl_X2_isShoe (ad : Nat → Nat) (cs : Nat → ClassId)   : va_W := []
def Q_X2_isShoe (D : va_G) (cs : Nat → ClassId) (ad : Nat → Nat)   (A : Nat → Prop) (R : Int32 × Unit) : Array Value → State → Outcome → State → Prop :=
  va_Qi (fun (r : Int32) (u : Unit) => (r, u) = R) (fun (u : Unit) (t : State) => va_P D classes (wl_X2_isShoe ad cs ) t.heap ∧ va_D A (wl_X2_isShoe ad cs )) A
abbrev rm_X2_isShoe : Room := { frames := 1, cells := 0, slots := 0, locals := 20 }
theorem g_X2_48 : GoodIn zW (z_X11_isDay) := zGN kw_739
def B_X2_isShoe_0     (x0 : Int32) (x1 : Int32) (x2 : Int32) (x3 : Int32) : Option (Int32 × Unit) :=
  (if x0 < 0 then (some ((0 : Int32), ())) else (if (20 : Int32) ≤ x0 then (some ((0 : Int32), ())) else (if x1 < 0 then (some ((0 : Int32), ())) else (if (20 : Int32) ≤ x1 then (some ((0 : Int32), ())) else (if x0 = x1 then (some ((0 : Int32), ())) else (if x2 < (1 : Int32) then (some ((0 : Int32), ())) else (if (5 : Int32) < x2 then (some ((0 : Int32), ())) else (zk_b2 (f_X11_isDay x3) (fun r_8 u_9 => (if r_8 = 0 then (some ((0 : Int32), ())) else (some ((1 : Int32), ()))))))))))))
def f_X2_isShoe   (x0 : Int32) (x1 : Int32) (x2 : Int32) (x3 : Int32)  : Option (Int32 × Unit) := B_X2_isShoe_0    x0 x1 x2 x3 
set_option maxHeartbeats 4000000 in
set_option maxRecDepth 100000 in
theorem L_X2_isShoe_0 {p : Program} {l : Launch} {e : Env} {s : State} {m : MethodId} {args : Array Value} {below : List Frame} {meth : Method} {c : Code} {A : Nat → Prop} {D : va_G} {cs : Nat → ClassId} {ad : Nat → Nat} {R : Int32 × Unit} (C0 : zC p s m args meth c cX2_isShoe 4 (some .boolean) RX2 zW) (hK : va_K D classes (zT cs) s) (hO : zO s) (hA : ∀ q : Nat, s.heap.size ≤ q → A q) (x0 : Int32) (x1 : Int32) (x2 : Int32) (x3 : Int32) (h : B_X2_isShoe_0 x0 x1 x2 x3 = some R) (H : Heap) (locs : List Loc) (ls : Array Slot) (hP : va_P D classes (wl_X2_isShoe ad cs ) H) (hD : va_D A (wl_X2_isShoe ad cs )) (hS : va_S A s.heap H locs) (hl : lv_has ls 4 [(0, .int x0), (1, .int x1), (2, .int x2), (3, .int x3)]) : W p l e rm_X2_isShoe s m args below meth c H locs 0 0 (MQ below (Q_X2_isShoe D cs ad  A R) args s 0 0 A) (F0 m 0 ls []) := by
  obtain ⟨hx, hb, hr, hml, hown, ht, hlocks⟩ := id C0
  refine lv_iload_n hx hb dX2_isShoe_0 rfl (lv_at hl 0 rfl) ?_
  refine lv_if_lt (tgt := 46) hx hb dX2_isShoe_1 (by decide) (fun c_1 => ?_) (fun c_1 => ?_)
  · have h := zk_t c_1 h
    refine lv_iconst (v := (0 : Int32)) hx hb dX2_isShoe_46 (by decide) ?_
    exact W.zret (ty := .boolean) (v := (0 : Int32)) hx hb hr rfl (fun t ht2 hW => ⟨⟨(0 : Int32), (), rfl, Option.some.inj h, by rw [ht2]; exact hP, hD⟩, hS.F ht2⟩) hS.2.2 dX2_isShoe_47 hlocks
  · have h := zk_f c_1 h
    refine lv_iload_n hx hb dX2_isShoe_4 rfl (lv_at hl 0 rfl) ?_
    refine lv_bipush (v := (20 : Int32)) hx hb dX2_isShoe_5 (by decide) ?_
    refine lv_icmp_ge (tgt := 46) hx hb dX2_isShoe_7 (by decide) (fun c_2 => ?_) (fun c_2 => ?_)
    · have h := zk_t c_2 h
      refine lv_iconst (v := (0 : Int32)) hx hb dX2_isShoe_46 (by decide) ?_
      exact W.zret (ty := .boolean) (v := (0 : Int32)) hx hb hr rfl (fun t ht2 hW => ⟨⟨(0 : Int32), (), rfl, Option.some.inj h, by rw [ht2]; exact hP, hD⟩, hS.F ht2⟩) hS.2.2 dX2_isShoe_47 hlocks
    · have h := zk_f c_2 h
      refine lv_iload_n hx hb dX2_isShoe_10 rfl (lv_at hl 1 rfl) ?_
      refine lv_if_lt (tgt := 46) hx hb dX2_isShoe_11 (by decide) (fun c_3 => ?_) (fun c_3 => ?_)
      · have h := zk_t c_3 h
        refine lv_iconst (v := (0 : Int32)) hx hb dX2_isShoe_46 (by decide) ?_
        exact W.zret (ty := .boolean) (v := (0 : Int32)) hx hb hr rfl (fun t ht2 hW => ⟨⟨(0 : Int32), (), rfl, Option.some.inj h, by rw [ht2]; exact hP, hD⟩, hS.F ht2⟩) hS.2.2 dX2_isShoe_47 hlocks
      · have h := zk_f c_3 h
        refine lv_iload_n hx hb dX2_isShoe_14 rfl (lv_at hl 1 rfl) ?_
        refine lv_bipush (v := (20 : Int32)) hx hb dX2_isShoe_15 (by decide) ?_
        refine lv_icmp_ge (tgt := 46) hx hb dX2_isShoe_17 (by decide) (fun c_4 => ?_) (fun c_4 => ?_)
        · have h := zk_t c_4 h
          refine lv_iconst (v := (0 : Int32)) hx hb dX2_isShoe_46 (by decide) ?_
          exact W.zret (ty := .boolean) (v := (0 : Int32)) hx hb hr rfl (fun t ht2 hW => ⟨⟨(0 : Int32), (), rfl, Option.some.inj h, by rw [ht2]; exact hP, hD⟩, hS.F ht2⟩) hS.2.2 dX2_isShoe_47 hlocks
        · have h := zk_f c_4 h
          refine lv_iload_n hx hb dX2_isShoe_20 rfl (lv_at hl 0 rfl) ?_
          refine lv_iload_n hx hb dX2_isShoe_21 rfl (lv_at hl 1 rfl) ?_
          refine lv_icmp_eq (tgt := 46) hx hb dX2_isShoe_22 (by decide) (fun c_5 => ?_) (fun c_5 => ?_)
          · have h := zk_t c_5 h
            refine lv_iconst (v := (0 : Int32)) hx hb dX2_isShoe_46 (by decide) ?_
            exact W.zret (ty := .boolean) (v := (0 : Int32)) hx hb hr rfl (fun t ht2 hW => ⟨⟨(0 : Int32), (), rfl, Option.some.inj h, by rw [ht2]; exact hP, hD⟩, hS.F ht2⟩) hS.2.2 dX2_isShoe_47 hlocks
          · have h := zk_f c_5 h
            refine lv_iload_n hx hb dX2_isShoe_25 rfl (lv_at hl 2 rfl) ?_
            refine lv_iconst (v := (1 : Int32)) hx hb dX2_isShoe_26 (by decide) ?_
            refine lv_icmp_lt (tgt := 46) hx hb dX2_isShoe_27 (by decide) (fun c_6 => ?_) (fun c_6 => ?_)
            · have h := zk_t c_6 h
              refine lv_iconst (v := (0 : Int32)) hx hb dX2_isShoe_46 (by decide) ?_
              exact W.zret (ty := .boolean) (v := (0 : Int32)) hx hb hr rfl (fun t ht2 hW => ⟨⟨(0 : Int32), (), rfl, Option.some.inj h, by rw [ht2]; exact hP, hD⟩, hS.F ht2⟩) hS.2.2 dX2_isShoe_47 hlocks
            · have h := zk_f c_6 h
              refine lv_iload_n hx hb dX2_isShoe_30 rfl (lv_at hl 2 rfl) ?_
              refine lv_iconst (v := (5 : Int32)) hx hb dX2_isShoe_31 (by decide) ?_
              refine lv_icmp_gt (tgt := 46) hx hb dX2_isShoe_32 (by decide) (fun c_7 => ?_) (fun c_7 => ?_)
              · have h := zk_t c_7 h
                refine lv_iconst (v := (0 : Int32)) hx hb dX2_isShoe_46 (by decide) ?_
                exact W.zret (ty := .boolean) (v := (0 : Int32)) hx hb hr rfl (fun t ht2 hW => ⟨⟨(0 : Int32), (), rfl, Option.some.inj h, by rw [ht2]; exact hP, hD⟩, hS.F ht2⟩) hS.2.2 dX2_isShoe_47 hlocks
              · have h := zk_f c_7 h
                refine lv_iload_n hx hb dX2_isShoe_35 rfl (lv_at hl 3 rfl) ?_
                obtain ⟨r_8, u_9, hc_10, h⟩ := zk_o2 h
                refine zk_ti (post := (fun r u => (r, u) = (r_8, u_9))) (w1 := fun u => (wl_X11_isDay ad cs )) (As := [.int x3]) (rest := []) (c_X11_isDay l D cs ad  H.size x3 _ hc_10) ⟨hx, hb, hml, hown, ht⟩ (⟨va_cnB 1 ht g_X2_48 rfl rfl rfl (zOn hO 6 rfl) (ht _ kw_75) (by decide +kernel) ⟨Nat.le_of_ble_eq_true rfl, Nat.le_of_ble_eq_true rfl⟩, ht _ kw_738, trivial⟩) hP hD hS hK hA [] [] rfl rfl rfl rfl (by decide) rfl hl.1 (Nat.le_of_ble_eq_true rfl) dX2_isShoe_36 ⟨Nat.zero_le _, Nat.zero_le _⟩ (fun r u H locs hq hP hD hS => ?_)
                cases hq
                have hP : va_P D classes (wl_X2_isShoe ad cs ) H := hP.sub [] rfl
                have hD : va_D A (wl_X2_isShoe ad cs ) := hD.sub [] rfl rfl
                refine lv_if_eq (tgt := 46) hx hb dX2_isShoe_39 (by decide) (fun c_11 => ?_) (fun c_11 => ?_)
                · have h := zk_t c_11 h
                  refine lv_iconst (v := (0 : Int32)) hx hb dX2_isShoe_46 (by decide) ?_
                  exact W.zret (ty := .boolean) (v := (0 : Int32)) hx hb hr rfl (fun t ht2 hW => ⟨⟨(0 : Int32), (), rfl, Option.some.inj h, by rw [ht2]; exact hP, hD⟩, hS.F ht2⟩) hS.2.2 dX2_isShoe_47 hlocks
                · have h := zk_f c_11 h
                  refine lv_iconst (v := (1 : Int32)) hx hb dX2_isShoe_42 (by decide) ?_
                  refine lv_goto (tgt := 47) hx hb dX2_isShoe_43 (by decide) ?_
                  exact W.zret (ty := .boolean) (v := (1 : Int32)) hx hb hr rfl (fun t ht2 hW => ⟨⟨(1 : Int32), (), rfl, Option.some.inj h, by rw [ht2]; exact hP, hD⟩, hS.F ht2⟩) hS.2.2 dX2_isShoe_47 hlocks
set_option maxHeartbeats 4000000 in
set_option maxRecDepth 100000 in
theorem c_X2_isShoe (l : Launch) (D : va_G) (cs : Nat → ClassId) (ad : Nat → Nat) (sz : Nat) (x0 : Int32) (x1 : Int32) (x2 : Int32) (x3 : Int32)  (R : Int32 × Unit) (h : f_X2_isShoe   x0 x1 x2 x3  = some R) : Met l yX2_isShoe (z_X2_isShoe) rm_X2_isShoe (va_Pc [.int x0, .int x1, .int x2, .int x3] (zPreO D cs (wl_X2_isShoe ad cs ) sz)) (Q_X2_isShoe D cs ad  (va_A (wl_X2_isShoe ad cs ) sz) R) 0 0 (va_A (wl_X2_isShoe ad cs ) sz) := by
  refine Met.ofW (cc := cX2_isShoe) (maxL := 4) (ret := (some .boolean)) (by decide) rfl ?_
  intro p e s m args below meth c s₁ B hml hv
  obtain ⟨rfl, ⟨hsz, hP, hK, hD0⟩, hO⟩ := hv
  subst hsz
  have hD := hD0.self (sz := s.heap.size)
  have C0 : zC p s m _ meth c cX2_isShoe 4 (some .boolean) RX2 zW := ⟨B.exec, B.bytes, B.returns, hml, findClass_of_methodNamed B.named, fun w hw => atoms_spec (ws := z_X2_isShoe) B.pre w (List.mem_cons_of_mem _ hw), B.notSynchronized⟩
  have hA : ∀ q : Nat, s.heap.size ≤ q → va_A (wl_X2_isShoe ad cs ) s.heap.size q := fun q h => Or.inr h
  have hl := lv_entry ([.int x0, .int x1, .int x2, .int x3]) (n := 4) (Nat.le_of_ble_eq_true rfl)
  rw [lg_entry_eq]
  generalize (lg_sl ([.int x0, .int x1, .int x2, .int x3]) ++ List.replicate (4 - (lg_sl ([.int x0, .int x1, .int x2, .int x3])).length) Slot.unset).toArray = ls at hl ⊢
  exact L_X2_isShoe_0 C0 hK hO hA   x0 x1 x2 x3  h s.heap [] ls hP hD va_S.rf hl
theorem kw_154 : Cond.fieldLink RX2 59 "AlreadyJudged$Court" "suitCount" "I" ∈ zW := zwI (i := 154) (by decide +kernel) (by decide +kernel)
theorem dX2_suitAt_0 : decode cX2_suitAt 0 = .ok (.iload_n 1, 1) := by decide +kernel
theorem dX2_suitAt_1 : decode cX2_suitAt 1 = .ok (.ifCond .lt 20, 3) := by decide +kernel
theorem dX2_suitAt_4 : decode cX2_suitAt 4 = .ok (.iload_n 1, 1) := by decide +kernel
theorem dX2_suitAt_5 : decode cX2_suitAt 5 = .ok (.aload_n 0, 1) := by decide +kernel
theorem dX2_suitAt_6 : decode cX2_suitAt 6 = .ok (.getfield 59, 3) := by decide +kernel
theorem dX2_suitAt_9 : decode cX2_suitAt 9 = .ok (.if_icmp .ge 12, 3) := by decide +kernel
theorem dX2_suitAt_12 : decode cX2_suitAt 12 = .ok (.aload_n 0, 1) := by decide +kernel
theorem dX2_suitAt_13 : decode cX2_suitAt 13 = .ok (.getfield 38, 3) := by decide +kernel
theorem dX2_suitAt_16 : decode cX2_suitAt 16 = .ok (.iload_n 1, 1) := by decide +kernel
theorem dX2_suitAt_21 : decode cX2_suitAt 21 = .ok (.aconst_null, 1) := by decide +kernel
theorem dX2_suitAt_22 : decode cX2_suitAt 22 = .ok (.areturn, 1) := by decide +kernel
abbrev z_X2_suitAt : List Cond := .code yX2_suitAt cX2_suitAt 2 (some (.object "AlreadyJudged$Suit")) :: zW
abbrev wl_X2_suitAt (ad : Nat → Nat) (cs : Nat → ClassId)  (court_shoeCount : Int32) (court_claimCount : Int32) (court_suitCount : Int32) : va_W := [((ad 4), .inr (2, [.ref (ad 5), .ref (ad 6), .ref (ad 7), .ref (ad 8), .ref (ad 9), .ref (ad 10), .ref (ad 11), .ref (ad 12), .ref (ad 13), .ref (ad 14), .int court_shoeCount, .int court_claimCount, .int court_suitCount]))]
def Q_X2_suitAt (D : va_G) (cs : Nat → ClassId) (ad : Nat → Nat)  (court_shoeCount : Int32) (court_claimCount : Int32) (court_suitCount : Int32) (A : Nat → Prop) (R : Bool × Unit) : Array Value → State → Outcome → State → Prop :=
  va_Qq (fun (r : Option Nat) (u : Unit) => r = (if R.1 = true then some 0 else none) ∧ u = R.2) (fun (u : Unit) (t : State) => va_P D classes (wl_X2_suitAt ad cs court_shoeCount court_claimCount court_suitCount) t.heap ∧ va_D A (wl_X2_suitAt ad cs court_shoeCount court_claimCount court_suitCount)) A
abbrev rm_X2_suitAt : Room := { frames := 0, cells := 0, slots := 0, locals := 0 }
def B_X2_suitAt_0    (court_shoeCount : Int32) (court_claimCount : Int32) (court_suitCount : Int32) (x1 : Int32) : Option (Bool × Unit) :=
  (if x1 < 0 then (some (false, ())) else (if court_suitCount ≤ x1 then (some (false, ())) else none))
def f_X2_suitAt   (x1 : Int32) (court_shoeCount : Int32) (court_claimCount : Int32) (court_suitCount : Int32) : Option (Bool × Unit) := B_X2_suitAt_0   court_shoeCount court_claimCount court_suitCount x1 
set_option maxHeartbeats 4000000 in
set_option maxRecDepth 100000 in
theorem L_X2_suitAt_0 {p : Program} {l : Launch} {e : Env} {s : State} {m : MethodId} {args : Array Value} {below : List Frame} {meth : Method} {c : Code} {A : Nat → Prop} {D : va_G} {cs : Nat → ClassId} {ad : Nat → Nat} {court_shoeCount : Int32} {court_claimCount : Int32} {court_suitCount : Int32} {R : Bool × Unit} (C0 : zC p s m args meth c cX2_suitAt 2 (some (.object "AlreadyJudged$Suit")) RX2 zW) (hK : va_K D classes (zT cs) s) (hA : ∀ q : Nat, s.heap.size ≤ q → A q) (x1 : Int32) (h : B_X2_suitAt_0 court_shoeCount court_claimCount court_suitCount x1 = some R) (H : Heap) (locs : List Loc) (ls : Array Slot) (hP : va_P D classes (wl_X2_suitAt ad cs court_shoeCount court_claimCount court_suitCount) H) (hD : va_D A (wl_X2_suitAt ad cs court_shoeCount court_claimCount court_suitCount)) (hS : va_S A s.heap H locs) (hl : lv_has ls 2 [(0, .ref (ad 4)), (1, .int x1)]) : W p l e rm_X2_suitAt s m args below meth c H locs 0 0 (MQ below (Q_X2_suitAt D cs ad court_shoeCount court_claimCount court_suitCount A R) args s 0 0 A) (F0 m 0 ls []) := by
  obtain ⟨hx, hb, hr, hml, hown, ht, hlocks⟩ := id C0
  refine lv_iload_n hx hb dX2_suitAt_0 rfl (lv_at hl 1 rfl) ?_
  refine lv_if_lt (tgt := 21) hx hb dX2_suitAt_1 (by decide) (fun c_1 => ?_) (fun c_1 => ?_)
  · have h := zk_t c_1 h
    refine lv_null hx hb dX2_suitAt_21 ?_
    exact W.aret (v := va_rf none) hx hb hr (Or.inl ⟨_, rfl⟩) (Or.inl rfl) (fun t ht2 hW => ⟨⟨none, (), rfl, ⟨by rw [← Option.some.inj h]; rfl, by rw [← Option.some.inj h]⟩, by rw [ht2]; exact hP, hD⟩, hS.F ht2⟩) hS.2.2 dX2_suitAt_22 hlocks
  · have h := zk_f c_1 h
    refine lv_iload_n hx hb dX2_suitAt_4 rfl (lv_at hl 1 rfl) ?_
    refine lv_aload_n hx hb dX2_suitAt_5 rfl (lv_at hl 0 rfl) ?_
    refine va_get (D := D) (ci := 2) (v := .int court_suitCount) (C := RX2) (T := TX2) (N := 13) hx hb ht iX2 hown hK hP 0 rfl rfl 12 (by decide) (ht _ kw_154) (fun _ h9 => h9) rfl dX2_suitAt_6 ?_
    refine lv_icmp_ge (tgt := 21) hx hb dX2_suitAt_9 (by decide) (fun c_2 => ?_) (fun c_2 => ?_)
    · have h := zk_t c_2 h
      refine lv_null hx hb dX2_suitAt_21 ?_
      exact W.aret (v := va_rf none) hx hb hr (Or.inl ⟨_, rfl⟩) (Or.inl rfl) (fun t ht2 hW => ⟨⟨none, (), rfl, ⟨by rw [← Option.some.inj h]; rfl, by rw [← Option.some.inj h]⟩, by rw [ht2]; exact hP, hD⟩, hS.F ht2⟩) hS.2.2 dX2_suitAt_22 hlocks
    · have h := zk_f c_2 h
      refine lv_aload_n hx hb dX2_suitAt_12 rfl (lv_at hl 0 rfl) ?_
      refine va_get (D := D) (ci := 2) (v := .ref (ad 13)) (C := RX2) (T := TX2) (N := 13) hx hb ht iX2 hown hK hP 0 rfl rfl 8 (by decide) (ht _ kw_143) (fun _ h9 => h9) rfl dX2_suitAt_13 ?_
      refine lv_iload_n hx hb dX2_suitAt_16 rfl (lv_at hl 1 rfl) ?_
      cases h
set_option maxHeartbeats 4000000 in
set_option maxRecDepth 100000 in
theorem c_X2_suitAt (l : Launch) (D : va_G) (cs : Nat → ClassId) (ad : Nat → Nat) (sz : Nat) (x1 : Int32) (court_shoeCount : Int32) (court_claimCount : Int32) (court_suitCount : Int32) (R : Bool × Unit) (h : f_X2_suitAt   x1 court_shoeCount court_claimCount court_suitCount = some R) : Met l yX2_suitAt (z_X2_suitAt) rm_X2_suitAt (va_Pc [.ref (ad 4), .int x1] (zPre D cs (wl_X2_suitAt ad cs court_shoeCount court_claimCount court_suitCount) sz)) (Q_X2_suitAt D cs ad court_shoeCount court_claimCount court_suitCount (va_A (wl_X2_suitAt ad cs court_shoeCount court_claimCount court_suitCount) sz) R) 0 0 (va_A (wl_X2_suitAt ad cs court_shoeCount court_claimCount court_suitCount) sz) := by
  refine Met.ofW (cc := cX2_suitAt) (maxL := 2) (ret := (some (.object "AlreadyJudged$Suit"))) (by decide) rfl ?_
  intro p e s m args below meth c s₁ B hml hv
  obtain ⟨rfl, hsz, hP, hK, hD0⟩ := hv
  subst hsz
  have hD := hD0.self (sz := s.heap.size)
  have C0 : zC p s m _ meth c cX2_suitAt 2 (some (.object "AlreadyJudged$Suit")) RX2 zW := ⟨B.exec, B.bytes, B.returns, hml, findClass_of_methodNamed B.named, fun w hw => atoms_spec (ws := z_X2_suitAt) B.pre w (List.mem_cons_of_mem _ hw), B.notSynchronized⟩
  have hA : ∀ q : Nat, s.heap.size ≤ q → va_A (wl_X2_suitAt ad cs court_shoeCount court_claimCount court_suitCount) s.heap.size q := fun q h => Or.inr h
  have hl := lv_entry ([.ref (ad 4), .int x1]) (n := 2) (Nat.le_of_ble_eq_true rfl)
  rw [lg_entry_eq]
  generalize (lg_sl ([.ref (ad 4), .int x1]) ++ List.replicate (2 - (lg_sl ([.ref (ad 4), .int x1])).length) Slot.unset).toArray = ls at hl ⊢
  exact L_X2_suitAt_0 C0 hK hA   x1  h s.heap [] ls hP hD va_S.rf hl
theorem kw_148 : Cond.fieldLink RX2 52 "AlreadyJudged$Court" "shoeCount" "I" ∈ zW := zwI (i := 148) (by decide +kernel) (by decide +kernel)
theorem dX2_addShoe_0 : decode cX2_addShoe 0 = .ok (.aload_n 0, 1) := by decide +kernel
theorem dX2_addShoe_1 : decode cX2_addShoe 1 = .ok (.getfield 52, 3) := by decide +kernel
theorem dX2_addShoe_4 : decode cX2_addShoe 4 = .ok (.bipush 40, 2) := by decide +kernel
theorem dX2_addShoe_6 : decode cX2_addShoe 6 = .ok (.if_icmp .lt 6, 3) := by decide +kernel
theorem dX2_addShoe_9 : decode cX2_addShoe 9 = .ok (.bipush (-3), 2) := by decide +kernel
theorem dX2_addShoe_11 : decode cX2_addShoe 11 = .ok (.ireturn, 1) := by decide +kernel
theorem dX2_addShoe_12 : decode cX2_addShoe 12 = .ok (.aload_n 0, 1) := by decide +kernel
theorem dX2_addShoe_13 : decode cX2_addShoe 13 = .ok (.getfield 9, 3) := by decide +kernel
theorem dX2_addShoe_16 : decode cX2_addShoe 16 = .ok (.aload_n 0, 1) := by decide +kernel
theorem dX2_addShoe_17 : decode cX2_addShoe 17 = .ok (.getfield 52, 3) := by decide +kernel
theorem dX2_addShoe_20 : decode cX2_addShoe 20 = .ok (.iload_n 1, 1) := by decide +kernel
theorem dX2_addShoe_21 : decode cX2_addShoe 21 = .ok (.iastore, 1) := by decide +kernel
theorem dX2_addShoe_22 : decode cX2_addShoe 22 = .ok (.aload_n 0, 1) := by decide +kernel
theorem dX2_addShoe_23 : decode cX2_addShoe 23 = .ok (.getfield 15, 3) := by decide +kernel
theorem dX2_addShoe_26 : decode cX2_addShoe 26 = .ok (.aload_n 0, 1) := by decide +kernel
theorem dX2_addShoe_27 : decode cX2_addShoe 27 = .ok (.getfield 52, 3) := by decide +kernel
theorem dX2_addShoe_30 : decode cX2_addShoe 30 = .ok (.iload_n 2, 1) := by decide +kernel
theorem dX2_addShoe_31 : decode cX2_addShoe 31 = .ok (.iastore, 1) := by decide +kernel
theorem dX2_addShoe_32 : decode cX2_addShoe 32 = .ok (.aload_n 0, 1) := by decide +kernel
theorem dX2_addShoe_33 : decode cX2_addShoe 33 = .ok (.getfield 18, 3) := by decide +kernel
theorem dX2_addShoe_36 : decode cX2_addShoe 36 = .ok (.aload_n 0, 1) := by decide +kernel
theorem dX2_addShoe_37 : decode cX2_addShoe 37 = .ok (.getfield 52, 3) := by decide +kernel
theorem dX2_addShoe_40 : decode cX2_addShoe 40 = .ok (.iload_n 3, 1) := by decide +kernel
theorem dX2_addShoe_41 : decode cX2_addShoe 41 = .ok (.iastore, 1) := by decide +kernel
theorem dX2_addShoe_42 : decode cX2_addShoe 42 = .ok (.aload_n 0, 1) := by decide +kernel
theorem dX2_addShoe_43 : decode cX2_addShoe 43 = .ok (.getfield 21, 3) := by decide +kernel
theorem dX2_addShoe_46 : decode cX2_addShoe 46 = .ok (.aload_n 0, 1) := by decide +kernel
theorem dX2_addShoe_47 : decode cX2_addShoe 47 = .ok (.getfield 52, 3) := by decide +kernel
theorem dX2_addShoe_50 : decode cX2_addShoe 50 = .ok (.iload 4, 2) := by decide +kernel
theorem dX2_addShoe_52 : decode cX2_addShoe 52 = .ok (.iastore, 1) := by decide +kernel
theorem dX2_addShoe_53 : decode cX2_addShoe 53 = .ok (.aload_n 0, 1) := by decide +kernel
theorem dX2_addShoe_54 : decode cX2_addShoe 54 = .ok (.dup, 1) := by decide +kernel
theorem dX2_addShoe_55 : decode cX2_addShoe 55 = .ok (.getfield 52, 3) := by decide +kernel
theorem dX2_addShoe_58 : decode cX2_addShoe 58 = .ok (.iconst 1, 1) := by decide +kernel
theorem dX2_addShoe_59 : decode cX2_addShoe 59 = .ok (.iadd, 1) := by decide +kernel
theorem dX2_addShoe_60 : decode cX2_addShoe 60 = .ok (.putfield 52, 3) := by decide +kernel
theorem dX2_addShoe_63 : decode cX2_addShoe 63 = .ok (.aload_n 0, 1) := by decide +kernel
theorem dX2_addShoe_64 : decode cX2_addShoe 64 = .ok (.getfield 52, 3) := by decide +kernel
theorem dX2_addShoe_67 : decode cX2_addShoe 67 = .ok (.iconst 1, 1) := by decide +kernel
theorem dX2_addShoe_68 : decode cX2_addShoe 68 = .ok (.isub, 1) := by decide +kernel
theorem dX2_addShoe_69 : decode cX2_addShoe 69 = .ok (.ireturn, 1) := by decide +kernel
abbrev z_X2_addShoe : List Cond := .code yX2_addShoe cX2_addShoe 5 (some .int) :: zW
abbrev wl_X2_addShoe (ad : Nat → Nat) (cs : Nat → ClassId)  (court_shoeCount : Int32) (court_claimCount : Int32) (court_suitCount : Int32) (court_shoePerson : Nat → Int32) (court_shoeOther : Nat → Int32) (court_shoeSort : Nat → Int32) (court_shoeDay : Nat → Int32) : va_W := [((ad 4), .inr (2, [.ref (ad 5), .ref (ad 6), .ref (ad 7), .ref (ad 8), .ref (ad 9), .ref (ad 10), .ref (ad 11), .ref (ad 12), .ref (ad 13), .ref (ad 14), .int court_shoeCount, .int court_claimCount, .int court_suitCount])), ((ad 5), .inl (cs 0, 40, .inl court_shoePerson)), ((ad 6), .inl (cs 0, 40, .inl court_shoeOther)), ((ad 7), .inl (cs 0, 40, .inl court_shoeSort)), ((ad 8), .inl (cs 0, 40, .inl court_shoeDay))]
def Q_X2_addShoe (D : va_G) (cs : Nat → ClassId) (ad : Nat → Nat)  (court_claimCount : Int32) (court_suitCount : Int32) (A : Nat → Prop) (R : Int32 × Int32 × (Nat → Int32) × (Nat → Int32) × (Nat → Int32) × (Nat → Int32)) : Array Value → State → Outcome → State → Prop :=
  va_Qi (fun (r : Int32) (u : Int32 × (Nat → Int32) × (Nat → Int32) × (Nat → Int32) × (Nat → Int32)) => (r, u) = R) (fun (u : Int32 × (Nat → Int32) × (Nat → Int32) × (Nat → Int32) × (Nat → Int32)) (t : State) => va_P D classes (wl_X2_addShoe ad cs u.1 court_claimCount court_suitCount u.2.1 u.2.2.1 u.2.2.2.1 u.2.2.2.2) t.heap ∧ va_D A (wl_X2_addShoe ad cs u.1 court_claimCount court_suitCount u.2.1 u.2.2.1 u.2.2.2.1 u.2.2.2.2)) A
abbrev rm_X2_addShoe : Room := { frames := 0, cells := 0, slots := 0, locals := 0 }
def B_X2_addShoe_0    (court_claimCount : Int32) (court_suitCount : Int32) (x1 : Int32) (x2 : Int32) (x3 : Int32) (x4 : Int32) (court_shoeCount : Int32) (court_shoePerson : Nat → Int32) (court_shoeOther : Nat → Int32) (court_shoeSort : Nat → Int32) (court_shoeDay : Nat → Int32) : Option (Int32 × Int32 × (Nat → Int32) × (Nat → Int32) × (Nat → Int32) × (Nat → Int32)) :=
  (if court_shoeCount < (40 : Int32) then (if (court_shoeCount < 0 ∨ 40 ≤ court_shoeCount.toNatClampNeg) then none else (zk_let (upd court_shoePerson court_shoeCount.toNatClampNeg x1) (fun f_3 => (if (court_shoeCount < 0 ∨ 40 ≤ court_shoeCount.toNatClampNeg) then none else (zk_let (upd court_shoeOther court_shoeCount.toNatClampNeg x2) (fun f_5 => (if (court_shoeCount < 0 ∨ 40 ≤ court_shoeCount.toNatClampNeg) then none else (zk_let (upd court_shoeSort court_shoeCount.toNatClampNeg x3) (fun f_7 => (if (court_shoeCount < 0 ∨ 40 ≤ court_shoeCount.toNatClampNeg) then none else (zk_let (upd court_shoeDay court_shoeCount.toNatClampNeg x4) (fun f_9 => (zk_let (court_shoeCount + (1 : Int32)) (fun v_10 => (some (v_10 - (1 : Int32), v_10, f_3, f_5, f_7, f_9)))))))))))))))) else (some ((-3 : Int32), court_shoeCount, court_shoePerson, court_shoeOther, court_shoeSort, court_shoeDay)))
def f_X2_addShoe   (x1 : Int32) (x2 : Int32) (x3 : Int32) (x4 : Int32) (court_shoeCount : Int32) (court_claimCount : Int32) (court_suitCount : Int32) (court_shoePerson : Nat → Int32) (court_shoeOther : Nat → Int32) (court_shoeSort : Nat → Int32) (court_shoeDay : Nat → Int32) : Option (Int32 × Int32 × (Nat → Int32) × (Nat → Int32) × (Nat → Int32) × (Nat → Int32)) := B_X2_addShoe_0   court_claimCount court_suitCount x1 x2 x3 x4 court_shoeCount court_shoePerson court_shoeOther court_shoeSort court_shoeDay
set_option maxHeartbeats 4000000 in
set_option maxRecDepth 100000 in
theorem L_X2_addShoe_0 {p : Program} {l : Launch} {e : Env} {s : State} {m : MethodId} {args : Array Value} {below : List Frame} {meth : Method} {c : Code} {A : Nat → Prop} {D : va_G} {cs : Nat → ClassId} {ad : Nat → Nat} {court_claimCount : Int32} {court_suitCount : Int32} {R : Int32 × Int32 × (Nat → Int32) × (Nat → Int32) × (Nat → Int32) × (Nat → Int32)} (C0 : zC p s m args meth c cX2_addShoe 5 (some .int) RX2 zW) (hK : va_K D classes (zT cs) s) (hA : ∀ q : Nat, s.heap.size ≤ q → A q) (x1 : Int32) (x2 : Int32) (x3 : Int32) (x4 : Int32) (court_shoeCount : Int32) (court_shoePerson : Nat → Int32) (court_shoeOther : Nat → Int32) (court_shoeSort : Nat → Int32) (court_shoeDay : Nat → Int32) (h : B_X2_addShoe_0 court_claimCount court_suitCount x1 x2 x3 x4 court_shoeCount court_shoePerson court_shoeOther court_shoeSort court_shoeDay = some R) (H : Heap) (locs : List Loc) (ls : Array Slot) (hP : va_P D classes (wl_X2_addShoe ad cs court_shoeCount court_claimCount court_suitCount court_shoePerson court_shoeOther court_shoeSort court_shoeDay) H) (hD : va_D A (wl_X2_addShoe ad cs court_shoeCount court_claimCount court_suitCount court_shoePerson court_shoeOther court_shoeSort court_shoeDay)) (hS : va_S A s.heap H locs) (hl : lv_has ls 5 [(0, .ref (ad 4)), (1, .int x1), (2, .int x2), (3, .int x3), (4, .int x4)]) : W p l e rm_X2_addShoe s m args below meth c H locs 0 0 (MQ below (Q_X2_addShoe D cs ad court_claimCount court_suitCount A R) args s 0 0 A) (F0 m 0 ls []) := by
  obtain ⟨hx, hb, hr, hml, hown, ht, hlocks⟩ := id C0
  refine lv_aload_n hx hb dX2_addShoe_0 rfl (lv_at hl 0 rfl) ?_
  refine va_get (D := D) (ci := 2) (v := .int court_shoeCount) (C := RX2) (T := TX2) (N := 13) hx hb ht iX2 hown hK hP 0 rfl rfl 10 (by decide) (ht _ kw_148) (fun _ h9 => h9) rfl dX2_addShoe_1 ?_
  refine lv_bipush (v := (40 : Int32)) hx hb dX2_addShoe_4 (by decide) ?_
  refine lv_icmp_lt (tgt := 12) hx hb dX2_addShoe_6 (by decide) (fun c_1 => ?_) (fun c_1 => ?_)
  · have h := zk_t c_1 h
    refine lv_aload_n hx hb dX2_addShoe_12 rfl (lv_at hl 0 rfl) ?_
    refine va_get (D := D) (ci := 2) (v := .ref (ad 5)) (C := RX2) (T := TX2) (N := 13) hx hb ht iX2 hown hK hP 0 rfl rfl 0 (by decide) (ht _ kw_116) (fun _ h9 => h9) rfl dX2_addShoe_13 ?_
    refine lv_aload_n hx hb dX2_addShoe_16 rfl (lv_at hl 0 rfl) ?_
    refine va_get (D := D) (ci := 2) (v := .int court_shoeCount) (C := RX2) (T := TX2) (N := 13) hx hb ht iX2 hown hK hP 0 rfl rfl 10 (by decide) (ht _ kw_148) (fun _ h9 => h9) rfl dX2_addShoe_17 ?_
    refine lv_iload_n hx hb dX2_addShoe_20 rfl (lv_at hl 1 rfl) ?_
    obtain ⟨g_2, h⟩ := zk_gd h
    obtain ⟨f_3, ef_3, h⟩ := zk_lt h
    refine va_iast hx hb hK hP hD hS 1 0 rfl rfl g_2 dX2_addShoe_21 (fun H locs hP hD hS => ?_)
    have hP : va_P D classes (wl_X2_addShoe ad cs court_shoeCount court_claimCount court_suitCount f_3 court_shoeOther court_shoeSort court_shoeDay) H := by rw [ef_3]; exact hP
    have hD : va_D A (wl_X2_addShoe ad cs court_shoeCount court_claimCount court_suitCount f_3 court_shoeOther court_shoeSort court_shoeDay) := by rw [ef_3]; exact hD
    refine lv_aload_n hx hb dX2_addShoe_22 rfl (lv_at hl 0 rfl) ?_
    refine va_get (D := D) (ci := 2) (v := .ref (ad 6)) (C := RX2) (T := TX2) (N := 13) hx hb ht iX2 hown hK hP 0 rfl rfl 1 (by decide) (ht _ kw_119) (fun _ h9 => h9) rfl dX2_addShoe_23 ?_
    refine lv_aload_n hx hb dX2_addShoe_26 rfl (lv_at hl 0 rfl) ?_
    refine va_get (D := D) (ci := 2) (v := .int court_shoeCount) (C := RX2) (T := TX2) (N := 13) hx hb ht iX2 hown hK hP 0 rfl rfl 10 (by decide) (ht _ kw_148) (fun _ h9 => h9) rfl dX2_addShoe_27 ?_
    refine lv_iload_n hx hb dX2_addShoe_30 rfl (lv_at hl 2 rfl) ?_
    obtain ⟨g_4, h⟩ := zk_gd h
    obtain ⟨f_5, ef_5, h⟩ := zk_lt h
    refine va_iast hx hb hK hP hD hS 2 0 rfl rfl g_4 dX2_addShoe_31 (fun H locs hP hD hS => ?_)
    have hP : va_P D classes (wl_X2_addShoe ad cs court_shoeCount court_claimCount court_suitCount f_3 f_5 court_shoeSort court_shoeDay) H := by rw [ef_5]; exact hP
    have hD : va_D A (wl_X2_addShoe ad cs court_shoeCount court_claimCount court_suitCount f_3 f_5 court_shoeSort court_shoeDay) := by rw [ef_5]; exact hD
    refine lv_aload_n hx hb dX2_addShoe_32 rfl (lv_at hl 0 rfl) ?_
    refine va_get (D := D) (ci := 2) (v := .ref (ad 7)) (C := RX2) (T := TX2) (N := 13) hx hb ht iX2 hown hK hP 0 rfl rfl 2 (by decide) (ht _ kw_122) (fun _ h9 => h9) rfl dX2_addShoe_33 ?_
    refine lv_aload_n hx hb dX2_addShoe_36 rfl (lv_at hl 0 rfl) ?_
    refine va_get (D := D) (ci := 2) (v := .int court_shoeCount) (C := RX2) (T := TX2) (N := 13) hx hb ht iX2 hown hK hP 0 rfl rfl 10 (by decide) (ht _ kw_148) (fun _ h9 => h9) rfl dX2_addShoe_37 ?_
    refine lv_iload_n hx hb dX2_addShoe_40 rfl (lv_at hl 3 rfl) ?_
    obtain ⟨g_6, h⟩ := zk_gd h
    obtain ⟨f_7, ef_7, h⟩ := zk_lt h
    refine va_iast hx hb hK hP hD hS 3 0 rfl rfl g_6 dX2_addShoe_41 (fun H locs hP hD hS => ?_)
    have hP : va_P D classes (wl_X2_addShoe ad cs court_shoeCount court_claimCount court_suitCount f_3 f_5 f_7 court_shoeDay) H := by rw [ef_7]; exact hP
    have hD : va_D A (wl_X2_addShoe ad cs court_shoeCount court_claimCount court_suitCount f_3 f_5 f_7 court_shoeDay) := by rw [ef_7]; exact hD
    refine lv_aload_n hx hb dX2_addShoe_42 rfl (lv_at hl 0 rfl) ?_
    refine va_get (D := D) (ci := 2) (v := .ref (ad 8)) (C := RX2) (T := TX2) (N := 13) hx hb ht iX2 hown hK hP 0 rfl rfl 3 (by decide) (ht _ kw_125) (fun _ h9 => h9) rfl dX2_addShoe_43 ?_
    refine lv_aload_n hx hb dX2_addShoe_46 rfl (lv_at hl 0 rfl) ?_
    refine va_get (D := D) (ci := 2) (v := .int court_shoeCount) (C := RX2) (T := TX2) (N := 13) hx hb ht iX2 hown hK hP 0 rfl rfl 10 (by decide) (ht _ kw_148) (fun _ h9 => h9) rfl dX2_addShoe_47 ?_
    refine lv_iload hx hb dX2_addShoe_50 (lv_at hl 4 rfl) ?_
    obtain ⟨g_8, h⟩ := zk_gd h
    obtain ⟨f_9, ef_9, h⟩ := zk_lt h
    refine va_iast hx hb hK hP hD hS 4 0 rfl rfl g_8 dX2_addShoe_52 (fun H locs hP hD hS => ?_)
    have hP : va_P D classes (wl_X2_addShoe ad cs court_shoeCount court_claimCount court_suitCount f_3 f_5 f_7 f_9) H := by rw [ef_9]; exact hP
    have hD : va_D A (wl_X2_addShoe ad cs court_shoeCount court_claimCount court_suitCount f_3 f_5 f_7 f_9) := by rw [ef_9]; exact hD
    refine lv_aload_n hx hb dX2_addShoe_53 rfl (lv_at hl 0 rfl) ?_
    refine lv_dup hx hb dX2_addShoe_54 rfl ?_
    refine va_get (D := D) (ci := 2) (v := .int court_shoeCount) (C := RX2) (T := TX2) (N := 13) hx hb ht iX2 hown hK hP 0 rfl rfl 10 (by decide) (ht _ kw_148) (fun _ h9 => h9) rfl dX2_addShoe_55 ?_
    refine lv_iconst (v := (1 : Int32)) hx hb dX2_addShoe_58 (by decide) ?_
    refine lv_iadd hx hb dX2_addShoe_59 ?_
    obtain ⟨v_10, ev_10, h⟩ := zk_lt h
    refine W.eq (g2 := F0 m 60 ls [.int v_10, .ref (ad 4)]) (by rw [ev_10]) ?_
    refine va_put (D := D) (ci := 2) (v := .int v_10) (ty := .int) (C := RX2) (T := TX2) (N := 13) hx hb ht iX2 tyX2 tyX2_ok nmX2 hown hK hP hD hS 0 rfl rfl 10 (by decide) (ht _ kw_148) (fun _ h9 => h9) rfl (by decide +kernel) rfl rfl (Nat.le_of_ble_eq_true rfl) dX2_addShoe_60 (fun H locs hP hD hS => ?_)
    have hP : va_P D classes (wl_X2_addShoe ad cs v_10 court_claimCount court_suitCount f_3 f_5 f_7 f_9) H := hP
    have hD : va_D A (wl_X2_addShoe ad cs v_10 court_claimCount court_suitCount f_3 f_5 f_7 f_9) := hD
    refine lv_aload_n hx hb dX2_addShoe_63 rfl (lv_at hl 0 rfl) ?_
    refine va_get (D := D) (ci := 2) (v := .int v_10) (C := RX2) (T := TX2) (N := 13) hx hb ht iX2 hown hK hP 0 rfl rfl 10 (by decide) (ht _ kw_148) (fun _ h9 => h9) rfl dX2_addShoe_64 ?_
    refine lv_iconst (v := (1 : Int32)) hx hb dX2_addShoe_67 (by decide) ?_
    refine lv_isub hx hb dX2_addShoe_68 ?_
    exact W.iret (v := v_10 - (1 : Int32)) hx hb hr (fun t ht2 hW => ⟨⟨v_10 - (1 : Int32), (v_10, f_3, f_5, f_7, f_9), rfl, Option.some.inj h, by rw [ht2]; exact hP, hD⟩, hS.F ht2⟩) hS.2.2 dX2_addShoe_69 hlocks
  · have h := zk_f c_1 h
    refine lv_bipush (v := (-3 : Int32)) hx hb dX2_addShoe_9 (by decide) ?_
    exact W.iret (v := (-3 : Int32)) hx hb hr (fun t ht2 hW => ⟨⟨(-3 : Int32), (court_shoeCount, court_shoePerson, court_shoeOther, court_shoeSort, court_shoeDay), rfl, Option.some.inj h, by rw [ht2]; exact hP, hD⟩, hS.F ht2⟩) hS.2.2 dX2_addShoe_11 hlocks
set_option maxHeartbeats 4000000 in
set_option maxRecDepth 100000 in
theorem c_X2_addShoe (l : Launch) (D : va_G) (cs : Nat → ClassId) (ad : Nat → Nat) (sz : Nat) (x1 : Int32) (x2 : Int32) (x3 : Int32) (x4 : Int32) (court_shoeCount : Int32) (court_claimCount : Int32) (court_suitCount : Int32) (court_shoePerson : Nat → Int32) (court_shoeOther : Nat → Int32) (court_shoeSort : Nat → Int32) (court_shoeDay : Nat → Int32) (R : Int32 × Int32 × (Nat → Int32) × (Nat → Int32) × (Nat → Int32) × (Nat → Int32)) (h : f_X2_addShoe   x1 x2 x3 x4 court_shoeCount court_claimCount court_suitCount court_shoePerson court_shoeOther court_shoeSort court_shoeDay = some R) : Met l yX2_addShoe (z_X2_addShoe) rm_X2_addShoe (va_Pc [.ref (ad 4), .int x1, .int x2, .int x3, .int x4] (zPre D cs (wl_X2_addShoe ad cs court_shoeCount court_claimCount court_suitCount court_shoePerson court_shoeOther court_shoeSort court_shoeDay) sz)) (Q_X2_addShoe D cs ad court_claimCount court_suitCount (va_A (wl_X2_addShoe ad cs court_shoeCount court_claimCount court_suitCount court_shoePerson court_shoeOther court_shoeSort court_shoeDay) sz) R) 0 0 (va_A (wl_X2_addShoe ad cs court_shoeCount court_claimCount court_suitCount court_shoePerson court_shoeOther court_shoeSort court_shoeDay) sz) := by
  refine Met.ofW (cc := cX2_addShoe) (maxL := 5) (ret := (some .int)) (by decide) rfl ?_
  intro p e s m args below meth c s₁ B hml hv
  obtain ⟨rfl, hsz, hP, hK, hD0⟩ := hv
  subst hsz
  have hD := hD0.self (sz := s.heap.size)
  have C0 : zC p s m _ meth c cX2_addShoe 5 (some .int) RX2 zW := ⟨B.exec, B.bytes, B.returns, hml, findClass_of_methodNamed B.named, fun w hw => atoms_spec (ws := z_X2_addShoe) B.pre w (List.mem_cons_of_mem _ hw), B.notSynchronized⟩
  have hA : ∀ q : Nat, s.heap.size ≤ q → va_A (wl_X2_addShoe ad cs court_shoeCount court_claimCount court_suitCount court_shoePerson court_shoeOther court_shoeSort court_shoeDay) s.heap.size q := fun q h => Or.inr h
  have hl := lv_entry ([.ref (ad 4), .int x1, .int x2, .int x3, .int x4]) (n := 5) (Nat.le_of_ble_eq_true rfl)
  rw [lg_entry_eq]
  generalize (lg_sl ([.ref (ad 4), .int x1, .int x2, .int x3, .int x4]) ++ List.replicate (5 - (lg_sl ([.ref (ad 4), .int x1, .int x2, .int x3, .int x4])).length) Slot.unset).toArray = ls at hl ⊢
  exact L_X2_addShoe_0 C0 hK hA   x1 x2 x3 x4 court_shoeCount court_shoePerson court_shoeOther court_shoeSort court_shoeDay h s.heap [] ls hP hD va_S.rf hl
theorem kw_704 : Cond.fieldLink RX11 71 "AlreadyJudged" "places" "[LAlreadyJudged$Place;" ∈ zW := zwI (i := 704) (by decide +kernel) (by decide +kernel)
theorem dX11_placeAt_0 : decode cX11_placeAt 0 = .ok (.iload_n 1, 1) := by decide +kernel
theorem dX11_placeAt_1 : decode cX11_placeAt 1 = .ok (.ifCond .lt 18, 3) := by decide +kernel
theorem dX11_placeAt_4 : decode cX11_placeAt 4 = .ok (.iload_n 1, 1) := by decide +kernel
theorem dX11_placeAt_5 : decode cX11_placeAt 5 = .ok (.bipush 6, 2) := by decide +kernel
theorem dX11_placeAt_7 : decode cX11_placeAt 7 = .ok (.if_icmp .ge 12, 3) := by decide +kernel
theorem dX11_placeAt_10 : decode cX11_placeAt 10 = .ok (.aload_n 0, 1) := by decide +kernel
theorem dX11_placeAt_11 : decode cX11_placeAt 11 = .ok (.getfield 71, 3) := by decide +kernel
theorem dX11_placeAt_14 : decode cX11_placeAt 14 = .ok (.iload_n 1, 1) := by decide +kernel
theorem dX11_placeAt_15 : decode cX11_placeAt 15 = .ok (.aaload, 1) := by decide +kernel
theorem dX11_placeAt_16 : decode cX11_placeAt 16 = .ok (.goto 4, 3) := by decide +kernel
theorem dX11_placeAt_19 : decode cX11_placeAt 19 = .ok (.aconst_null, 1) := by decide +kernel
theorem dX11_placeAt_20 : decode cX11_placeAt 20 = .ok (.areturn, 1) := by decide +kernel
abbrev z_X11_placeAt : List Cond := .code yX11_placeAt cX11_placeAt 2 (some (.object "AlreadyJudged$Place")) :: zW
abbrev wl_X11_placeAt (ad : Nat → Nat) (cs : Nat → ClassId) (h_pl : Nat) (h_pl_elements : Nat) (root_places : Nat → Option Nat) (pl_holds : Int32) (pl_suit : Int32) (pl_size : Int32) : va_W := [((ad 0), .inr (11, [.ref (ad 4), .ref (ad 15), .ref (ad 23), .ref (ad 25), .ref (ad 26), .ref (ad 28), .ref (ad 34), .ref (ad 39), .ref (ad 1), .ref (ad 2), .ref (ad 3)])), ((ad 1), .inl (cs 7, 6, .inr (.inr (.inr (.inr root_places))))), (h_pl, .inr (6, [.int pl_holds, .int pl_suit, .int pl_size, .ref h_pl_elements]))]
def Q_X11_placeAt (D : va_G) (cs : Nat → ClassId) (ad : Nat → Nat) (h_pl : Nat) (h_pl_elements : Nat) (root_places : Nat → Option Nat) (pl_holds : Int32) (pl_suit : Int32) (pl_size : Int32) (A : Nat → Prop) (R : Bool × Unit) : Array Value → State → Outcome → State → Prop :=
  va_Qq (fun (r : Option Nat) (u : Unit) => r = (if R.1 = true then some h_pl else none) ∧ u = R.2) (fun (u : Unit) (t : State) => va_P D classes (wl_X11_placeAt ad cs h_pl h_pl_elements root_places pl_holds pl_suit pl_size) t.heap ∧ va_D A (wl_X11_placeAt ad cs h_pl h_pl_elements root_places pl_holds pl_suit pl_size)) A
abbrev rm_X11_placeAt : Room := { frames := 0, cells := 0, slots := 0, locals := 0 }
def B_X11_placeAt_0 (h_pl : Nat)   (root_places : Nat → Option Nat) (pl_holds : Int32) (pl_suit : Int32) (pl_size : Int32) (x1 : Int32) : Option (Bool × Unit) :=
  (if x1 < 0 then (some (false, ())) else (if (6 : Int32) ≤ x1 then (some (false, ())) else (if (x1 < 0 ∨ 6 ≤ x1.toNatClampNeg) then none else (if ¬ (root_places x1.toNatClampNeg = some h_pl) then none else (some (true, ()))))))
def f_X11_placeAt (h_pl : Nat)  (x1 : Int32) (root_places : Nat → Option Nat) (pl_holds : Int32) (pl_suit : Int32) (pl_size : Int32) : Option (Bool × Unit) := B_X11_placeAt_0 h_pl  root_places pl_holds pl_suit pl_size x1 
set_option maxHeartbeats 4000000 in
set_option maxRecDepth 100000 in
theorem L_X11_placeAt_0 {p : Program} {l : Launch} {e : Env} {s : State} {m : MethodId} {args : Array Value} {below : List Frame} {meth : Method} {c : Code} {A : Nat → Prop} {D : va_G} {cs : Nat → ClassId} {ad : Nat → Nat} {h_pl : Nat} {h_pl_elements : Nat} {root_places : Nat → Option Nat} {pl_holds : Int32} {pl_suit : Int32} {pl_size : Int32} {R : Bool × Unit} (C0 : zC p s m args meth c cX11_placeAt 2 (some (.object "AlreadyJudged$Place")) RX11 zW) (hK : va_K D classes (zT cs) s) (hA : ∀ q : Nat, s.heap.size ≤ q → A q) (x1 : Int32) (h : B_X11_placeAt_0 h_pl root_places pl_holds pl_suit pl_size x1 = some R) (H : Heap) (locs : List Loc) (ls : Array Slot) (hP : va_P D classes (wl_X11_placeAt ad cs h_pl h_pl_elements root_places pl_holds pl_suit pl_size) H) (hD : va_D A (wl_X11_placeAt ad cs h_pl h_pl_elements root_places pl_holds pl_suit pl_size)) (hS : va_S A s.heap H locs) (hl : lv_has ls 2 [(0, .ref (ad 0)), (1, .int x1)]) : W p l e rm_X11_placeAt s m args below meth c H locs 0 0 (MQ below (Q_X11_placeAt D cs ad h_pl h_pl_elements root_places pl_holds pl_suit pl_size A R) args s 0 0 A) (F0 m 0 ls []) := by
  obtain ⟨hx, hb, hr, hml, hown, ht, hlocks⟩ := id C0
  refine lv_iload_n hx hb dX11_placeAt_0 rfl (lv_at hl 1 rfl) ?_
  refine lv_if_lt (tgt := 19) hx hb dX11_placeAt_1 (by decide) (fun c_1 => ?_) (fun c_1 => ?_)
  · have h := zk_t c_1 h
    refine lv_null hx hb dX11_placeAt_19 ?_
    exact W.aret (v := va_rf none) hx hb hr (Or.inl ⟨_, rfl⟩) (Or.inl rfl) (fun t ht2 hW => ⟨⟨none, (), rfl, ⟨by rw [← Option.some.inj h]; rfl, by rw [← Option.some.inj h]⟩, by rw [ht2]; exact hP, hD⟩, hS.F ht2⟩) hS.2.2 dX11_placeAt_20 hlocks
  · have h := zk_f c_1 h
    refine lv_iload_n hx hb dX11_placeAt_4 rfl (lv_at hl 1 rfl) ?_
    refine lv_bipush (v := (6 : Int32)) hx hb dX11_placeAt_5 (by decide) ?_
    refine lv_icmp_ge (tgt := 19) hx hb dX11_placeAt_7 (by decide) (fun c_2 => ?_) (fun c_2 => ?_)
    · have h := zk_t c_2 h
      refine lv_null hx hb dX11_placeAt_19 ?_
      exact W.aret (v := va_rf none) hx hb hr (Or.inl ⟨_, rfl⟩) (Or.inl rfl) (fun t ht2 hW => ⟨⟨none, (), rfl, ⟨by rw [← Option.some.inj h]; rfl, by rw [← Option.some.inj h]⟩, by rw [ht2]; exact hP, hD⟩, hS.F ht2⟩) hS.2.2 dX11_placeAt_20 hlocks
    · have h := zk_f c_2 h
      refine lv_aload_n hx hb dX11_placeAt_10 rfl (lv_at hl 0 rfl) ?_
      refine va_get (D := D) (ci := 11) (v := .ref (ad 1)) (C := RX11) (T := TX11) (N := 11) hx hb ht iX11 hown hK hP 0 rfl rfl 8 (by decide) (ht _ kw_704) (fun _ h9 => h9) rfl dX11_placeAt_11 ?_
      refine lv_iload_n hx hb dX11_placeAt_14 rfl (lv_at hl 1 rfl) ?_
      obtain ⟨g_3, h⟩ := zk_gd h
      obtain ⟨g_4, h⟩ := zk_gd h
      refine va_aldq hx hb hK hP 1 7 rfl rfl g_3 dX11_placeAt_15 ?_
      refine W.eq (g2 := F0 m 16 ls [.ref h_pl]) (by rw [Decidable.not_not.mp g_4]; rfl) ?_
      refine lv_goto (tgt := 20) hx hb dX11_placeAt_16 (by decide) ?_
      exact W.aret (v := va_rf (some h_pl)) hx hb hr (Or.inl ⟨_, rfl⟩) (Or.inr ⟨_, rfl⟩) (fun t ht2 hW => ⟨⟨(some h_pl), (), rfl, ⟨by rw [← Option.some.inj h]; rfl, by rw [← Option.some.inj h]⟩, by rw [ht2]; exact hP, hD⟩, hS.F ht2⟩) hS.2.2 dX11_placeAt_20 hlocks
set_option maxHeartbeats 4000000 in
set_option maxRecDepth 100000 in
theorem c_X11_placeAt (l : Launch) (D : va_G) (cs : Nat → ClassId) (ad : Nat → Nat) (h_pl : Nat) (h_pl_elements : Nat) (sz : Nat) (x1 : Int32) (root_places : Nat → Option Nat) (pl_holds : Int32) (pl_suit : Int32) (pl_size : Int32) (R : Bool × Unit) (h : f_X11_placeAt h_pl  x1 root_places pl_holds pl_suit pl_size = some R) : Met l yX11_placeAt (z_X11_placeAt) rm_X11_placeAt (va_Pc [.ref (ad 0), .int x1] (zPre D cs (wl_X11_placeAt ad cs h_pl h_pl_elements root_places pl_holds pl_suit pl_size) sz)) (Q_X11_placeAt D cs ad h_pl h_pl_elements root_places pl_holds pl_suit pl_size (va_A (wl_X11_placeAt ad cs h_pl h_pl_elements root_places pl_holds pl_suit pl_size) sz) R) 0 0 (va_A (wl_X11_placeAt ad cs h_pl h_pl_elements root_places pl_holds pl_suit pl_size) sz) := by
  refine Met.ofW (cc := cX11_placeAt) (maxL := 2) (ret := (some (.object "AlreadyJudged$Place"))) (by decide) rfl ?_
  intro p e s m args below meth c s₁ B hml hv
  obtain ⟨rfl, hsz, hP, hK, hD0⟩ := hv
  subst hsz
  have hD := hD0.self (sz := s.heap.size)
  have C0 : zC p s m _ meth c cX11_placeAt 2 (some (.object "AlreadyJudged$Place")) RX11 zW := ⟨B.exec, B.bytes, B.returns, hml, findClass_of_methodNamed B.named, fun w hw => atoms_spec (ws := z_X11_placeAt) B.pre w (List.mem_cons_of_mem _ hw), B.notSynchronized⟩
  have hA : ∀ q : Nat, s.heap.size ≤ q → va_A (wl_X11_placeAt ad cs h_pl h_pl_elements root_places pl_holds pl_suit pl_size) s.heap.size q := fun q h => Or.inr h
  have hl := lv_entry ([.ref (ad 0), .int x1]) (n := 2) (Nat.le_of_ble_eq_true rfl)
  rw [lg_entry_eq]
  generalize (lg_sl ([.ref (ad 0), .int x1]) ++ List.replicate (2 - (lg_sl ([.ref (ad 0), .int x1])).length) Slot.unset).toArray = ls at hl ⊢
  exact L_X11_placeAt_0 C0 hK hA   x1  h s.heap [] ls hP hD va_S.rf hl
theorem kw_2 : Cond.selects RX11 yX11_placeAt yX11_placeAt ∈ zW := zwI (i := 2) (by decide +kernel) (by decide +kernel)
theorem kw_748 : Cond.methodLink RX11 111 yX11_placeAt ∈ zW := zwI (i := 748) (by decide +kernel) (by decide +kernel)
theorem kw_750 : Cond.instanceMethod yX11_placeAt ∈ zW := zwI (i := 750) (by decide +kernel) (by decide +kernel)
theorem kw_751 : Cond.code yX11_placeAt cX11_placeAt 2 (some (.object "AlreadyJudged$Place")) ∈ zW := zwI (i := 751) (by decide +kernel) (by decide +kernel)
theorem kw_1250 : Cond.methodLink RX11 359 yX6_becomeRow ∈ zW := zwI (i := 1250) (by decide +kernel) (by decide +kernel)
theorem kw_1251 : Cond.instanceMethod yX6_becomeRow ∈ zW := zwI (i := 1251) (by decide +kernel) (by decide +kernel)
theorem kw_1252 : Cond.selects RX6 yX6_becomeRow yX6_becomeRow ∈ zW := zwI (i := 1252) (by decide +kernel) (by decide +kernel)
theorem kw_1253 : Cond.code yX6_becomeRow cX6_becomeRow 3 none ∈ zW := zwI (i := 1253) (by decide +kernel) (by decide +kernel)
theorem dX11_row_0 : decode cX11_row 0 = .ok (.aload_n 0, 1) := by decide +kernel
theorem dX11_row_1 : decode cX11_row 1 = .ok (.iload_n 1, 1) := by decide +kernel
theorem dX11_row_2 : decode cX11_row 2 = .ok (.invokevirtual 111, 3) := by decide +kernel
theorem dX11_row_5 : decode cX11_row 5 = .ok (.astore 4, 2) := by decide +kernel
theorem dX11_row_7 : decode cX11_row 7 = .ok (.aload 4, 2) := by decide +kernel
theorem dX11_row_9 : decode cX11_row 9 = .ok (.ifnull 18, 3) := by decide +kernel
theorem dX11_row_12 : decode cX11_row 12 = .ok (.iload_n 2, 1) := by decide +kernel
theorem dX11_row_13 : decode cX11_row 13 = .ok (.ifCond .lt 14, 3) := by decide +kernel
theorem dX11_row_16 : decode cX11_row 16 = .ok (.iload_n 2, 1) := by decide +kernel
theorem dX11_row_17 : decode cX11_row 17 = .ok (.iconst 4, 1) := by decide +kernel
theorem dX11_row_18 : decode cX11_row 18 = .ok (.if_icmp .gt 9, 3) := by decide +kernel
theorem dX11_row_21 : decode cX11_row 21 = .ok (.iload_n 3, 1) := by decide +kernel
theorem dX11_row_22 : decode cX11_row 22 = .ok (.bipush 60, 2) := by decide +kernel
theorem dX11_row_24 : decode cX11_row 24 = .ok (.if_icmp .le 5, 3) := by decide +kernel
theorem dX11_row_27 : decode cX11_row 27 = .ok (.iconst (-1), 1) := by decide +kernel
theorem dX11_row_28 : decode cX11_row 28 = .ok (.ireturn, 1) := by decide +kernel
theorem dX11_row_29 : decode cX11_row 29 = .ok (.iload_n 3, 1) := by decide +kernel
theorem dX11_row_30 : decode cX11_row 30 = .ok (.ifCond .ge 6, 3) := by decide +kernel
theorem dX11_row_33 : decode cX11_row 33 = .ok (.bipush (-14), 2) := by decide +kernel
theorem dX11_row_35 : decode cX11_row 35 = .ok (.ireturn, 1) := by decide +kernel
theorem dX11_row_36 : decode cX11_row 36 = .ok (.aload 4, 2) := by decide +kernel
theorem dX11_row_38 : decode cX11_row 38 = .ok (.iload_n 2, 1) := by decide +kernel
theorem dX11_row_39 : decode cX11_row 39 = .ok (.iload_n 3, 1) := by decide +kernel
theorem dX11_row_40 : decode cX11_row 40 = .ok (.invokevirtual 359, 3) := by decide +kernel
theorem dX11_row_43 : decode cX11_row 43 = .ok (.iconst 1, 1) := by decide +kernel
theorem dX11_row_44 : decode cX11_row 44 = .ok (.ireturn, 1) := by decide +kernel
abbrev z_X11_row : List Cond := .code yX11_row cX11_row 5 (some .int) :: zW
abbrev wl_X11_row (ad : Nat → Nat) (cs : Nat → ClassId) (h_pl : Nat) (h_pl_elements : Nat) (root_places : Nat → Option Nat) (pl_holds : Int32) (pl_suit : Int32) (pl_size : Int32) (pl_elements : Nat → Int64) : va_W := [((ad 0), .inr (11, [.ref (ad 4), .ref (ad 15), .ref (ad 23), .ref (ad 25), .ref (ad 26), .ref (ad 28), .ref (ad 34), .ref (ad 39), .ref (ad 1), .ref (ad 2), .ref (ad 3)])), ((ad 1), .inl (cs 7, 6, .inr (.inr (.inr (.inr root_places))))), (h_pl, .inr (6, [.int pl_holds, .int pl_suit, .int pl_size, .ref h_pl_elements])), (h_pl_elements, .inl (cs 1, 60, .inr (.inl pl_elements)))]
def Q_X11_row (D : va_G) (cs : Nat → ClassId) (ad : Nat → Nat) (h_pl : Nat) (h_pl_elements : Nat) (root_places : Nat → Option Nat) (pl_suit : Int32) (A : Nat → Prop) (R : Int32 × Int32 × Int32 × (Nat → Int64)) : Array Value → State → Outcome → State → Prop :=
  va_Qi (fun (r : Int32) (u : Int32 × Int32 × (Nat → Int64)) => (r, u) = R) (fun (u : Int32 × Int32 × (Nat → Int64)) (t : State) => va_P D classes (wl_X11_row ad cs h_pl h_pl_elements root_places u.1 pl_suit u.2.1 u.2.2) t.heap ∧ va_D A (wl_X11_row ad cs h_pl h_pl_elements root_places u.1 pl_suit u.2.1 u.2.2)) A
abbrev rm_X11_row : Room := { frames := 2, cells := 0, slots := 0, locals := 46 }
theorem g_X11_111 : GoodIn zW (wsV RX11 111 RX11 yX11_placeAt z_X11_placeAt) := zGV kw_748 kw_750 kw_2 kw_75 kw_751
theorem g_X11_359 : GoodIn zW (wsV RX11 359 RX6 yX6_becomeRow z_X6_becomeRow) := zGV kw_1250 kw_1251 kw_1252 kw_94 kw_1253
def B_X11_row_0 (h_pl : Nat)   (root_places : Nat → Option Nat) (pl_suit : Int32) (x1 : Int32) (x2 : Int32) (x3 : Int32) (pl_holds : Int32) (pl_size : Int32) (pl_elements : Nat → Int64) : Option (Int32 × Int32 × Int32 × (Nat → Int64)) :=
  (zk_b2 (f_X11_placeAt h_pl x1 root_places pl_holds pl_suit pl_size) (fun r_1 u_2 => (if r_1 = true then (if x2 < 0 then (some ((-1 : Int32), pl_holds, pl_size, pl_elements)) else (if (4 : Int32) < x2 then (some ((-1 : Int32), pl_holds, pl_size, pl_elements)) else (if x3 ≤ (60 : Int32) then (if 0 ≤ x3 then (zk_b3 (f_X6_becomeRow x2 x3 pl_holds pl_suit pl_size pl_elements) (fun u_9 u_10 u_11 => (some ((1 : Int32), u_9, u_10, u_11)))) else (some ((-14 : Int32), pl_holds, pl_size, pl_elements))) else (some ((-1 : Int32), pl_holds, pl_size, pl_elements))))) else (some ((-1 : Int32), pl_holds, pl_size, pl_elements)))))
def f_X11_row (h_pl : Nat)  (x1 : Int32) (x2 : Int32) (x3 : Int32) (root_places : Nat → Option Nat) (pl_holds : Int32) (pl_suit : Int32) (pl_size : Int32) (pl_elements : Nat → Int64) : Option (Int32 × Int32 × Int32 × (Nat → Int64)) := B_X11_row_0 h_pl  root_places pl_suit x1 x2 x3 pl_holds pl_size pl_elements
set_option maxHeartbeats 4000000 in
set_option maxRecDepth 100000 in
theorem L_X11_row_0 {p : Program} {l : Launch} {e : Env} {s : State} {m : MethodId} {args : Array Value} {below : List Frame} {meth : Method} {c : Code} {A : Nat → Prop} {D : va_G} {cs : Nat → ClassId} {ad : Nat → Nat} {h_pl : Nat} {h_pl_elements : Nat} {root_places : Nat → Option Nat} {pl_suit : Int32} {R : Int32 × Int32 × Int32 × (Nat → Int64)} (C0 : zC p s m args meth c cX11_row 5 (some .int) RX11 zW) (hK : va_K D classes (zT cs) s) (hA : ∀ q : Nat, s.heap.size ≤ q → A q) (x1 : Int32) (x2 : Int32) (x3 : Int32) (pl_holds : Int32) (pl_size : Int32) (pl_elements : Nat → Int64) (h : B_X11_row_0 h_pl root_places pl_suit x1 x2 x3 pl_holds pl_size pl_elements = some R) (H : Heap) (locs : List Loc) (ls : Array Slot) (hP : va_P D classes (wl_X11_row ad cs h_pl h_pl_elements root_places pl_holds pl_suit pl_size pl_elements) H) (hD : va_D A (wl_X11_row ad cs h_pl h_pl_elements root_places pl_holds pl_suit pl_size pl_elements)) (hS : va_S A s.heap H locs) (hl : lv_has ls 5 [(0, .ref (ad 0)), (1, .int x1), (2, .int x2), (3, .int x3)]) : W p l e rm_X11_row s m args below meth c H locs 0 0 (MQ below (Q_X11_row D cs ad h_pl h_pl_elements root_places pl_suit A R) args s 0 0 A) (F0 m 0 ls []) := by
  obtain ⟨hx, hb, hr, hml, hown, ht, hlocks⟩ := id C0
  refine lv_aload_n hx hb dX11_row_0 rfl (lv_at hl 0 rfl) ?_
  refine lv_iload_n hx hb dX11_row_1 rfl (lv_at hl 1 rfl) ?_
  obtain ⟨r_1, u_2, hc_3, h⟩ := zk_o2 h
  refine zk_vq (post := (fun r u => r = (if r_1 = true then some h_pl else none) ∧ u = (u_2))) (w1 := fun u => (wl_X11_placeAt ad cs h_pl h_pl_elements root_places pl_holds pl_suit pl_size)) (As := [.int x1]) (rest := []) (c_X11_placeAt l D cs ad h_pl h_pl_elements H.size x1 root_places pl_holds pl_suit pl_size _ hc_3) ⟨hx, hb, hml, hown, ht⟩ (cwV 1 ht g_X11_111 rfl rfl rfl (by decide +kernel) ⟨Nat.le_of_ble_eq_true rfl, Nat.le_of_ble_eq_true rfl⟩) (va_recv hK hP (ci := 11) (q0 := 0) rfl rfl) hP hD hS hK hA [0, 1, 2] [3] rfl rfl rfl rfl (by decide) rfl hl.1 (Nat.le_of_ble_eq_true rfl) dX11_row_2 ⟨Nat.zero_le _, Nat.zero_le _⟩ (fun r u H locs hq hP hD hS => ?_)
  obtain ⟨hq1, hq2⟩ := hq; cases hq2; subst hq1
  have hP : va_P D classes (wl_X11_row ad cs h_pl h_pl_elements root_places pl_holds pl_suit pl_size pl_elements) H := hP.sub [1, 2, 3, 0] rfl
  have hD : va_D A (wl_X11_row ad cs h_pl h_pl_elements root_places pl_holds pl_suit pl_size pl_elements) := hD.sub [1, 2, 3, 0] rfl rfl
  by_cases c_4 : r_1 = true
  · have h := zk_t c_4 h
    refine W.eq (g2 := F0 m 5 ls [.ref h_pl]) (by rw [if_pos c_4]; rfl) ?_
    refine lv_astore (lv' := [(4, .ref h_pl), (0, .ref (ad 0)), (1, .int x1), (2, .int x2), (3, .int x3)]) hx hb dX11_row_5 hl (by decide) rfl (fun ls hl => ?_)
    refine lv_aload hx hb dX11_row_7 (lv_at hl 0 rfl) ?_
    refine lv_ifnull hx hb dX11_row_9 ?_
    refine lv_iload_n hx hb dX11_row_12 rfl (lv_at hl 3 rfl) ?_
    refine lv_if_lt (tgt := 27) hx hb dX11_row_13 (by decide) (fun c_5 => ?_) (fun c_5 => ?_)
    · have h := zk_t c_5 h
      refine lv_iconst (v := (-1 : Int32)) hx hb dX11_row_27 (by decide) ?_
      exact W.iret (v := (-1 : Int32)) hx hb hr (fun t ht2 hW => ⟨⟨(-1 : Int32), (pl_holds, pl_size, pl_elements), rfl, Option.some.inj h, by rw [ht2]; exact hP, hD⟩, hS.F ht2⟩) hS.2.2 dX11_row_28 hlocks
    · have h := zk_f c_5 h
      refine lv_iload_n hx hb dX11_row_16 rfl (lv_at hl 3 rfl) ?_
      refine lv_iconst (v := (4 : Int32)) hx hb dX11_row_17 (by decide) ?_
      refine lv_icmp_gt (tgt := 27) hx hb dX11_row_18 (by decide) (fun c_6 => ?_) (fun c_6 => ?_)
      · have h := zk_t c_6 h
        refine lv_iconst (v := (-1 : Int32)) hx hb dX11_row_27 (by decide) ?_
        exact W.iret (v := (-1 : Int32)) hx hb hr (fun t ht2 hW => ⟨⟨(-1 : Int32), (pl_holds, pl_size, pl_elements), rfl, Option.some.inj h, by rw [ht2]; exact hP, hD⟩, hS.F ht2⟩) hS.2.2 dX11_row_28 hlocks
      · have h := zk_f c_6 h
        refine lv_iload_n hx hb dX11_row_21 rfl (lv_at hl 4 rfl) ?_
        refine lv_bipush (v := (60 : Int32)) hx hb dX11_row_22 (by decide) ?_
        refine lv_icmp_le (tgt := 29) hx hb dX11_row_24 (by decide) (fun c_7 => ?_) (fun c_7 => ?_)
        · have h := zk_t c_7 h
          refine lv_iload_n hx hb dX11_row_29 rfl (lv_at hl 4 rfl) ?_
          refine lv_if_ge (tgt := 36) hx hb dX11_row_30 (by decide) (fun c_8 => ?_) (fun c_8 => ?_)
          · have h := zk_t c_8 h
            refine lv_aload hx hb dX11_row_36 (lv_at hl 0 rfl) ?_
            refine lv_iload_n hx hb dX11_row_38 rfl (lv_at hl 3 rfl) ?_
            refine lv_iload_n hx hb dX11_row_39 rfl (lv_at hl 4 rfl) ?_
            obtain ⟨u_9, u_10, u_11, hc_12, h⟩ := zk_o3 h
            refine zk_vv (post := (fun u => u = (u_9, u_10, u_11))) (w1 := fun u => (wl_X6_becomeRow ad cs h_pl h_pl_elements u.1 pl_suit u.2.1 u.2.2)) (As := [.int x2, .int x3]) (rest := []) (c_X6_becomeRow l D cs ad h_pl h_pl_elements H.size x2 x3 pl_holds pl_suit pl_size pl_elements _ hc_12) ⟨hx, hb, hml, hown, ht⟩ (cwV 2 ht g_X11_359 rfl rfl rfl (by decide +kernel) ⟨Nat.le_of_ble_eq_true rfl, Nat.le_of_ble_eq_true rfl⟩) (va_recv hK hP (ci := 6) (q0 := 2) rfl rfl) hP hD hS hK hA [2, 3] [0, 1] rfl rfl rfl rfl (by decide) rfl hl.1 (Nat.le_of_ble_eq_true rfl) dX11_row_40 ⟨Nat.zero_le _, Nat.zero_le _⟩ (fun u H locs hq hP hD hS => ?_)
            cases hq
            have hP : va_P D classes (wl_X11_row ad cs h_pl h_pl_elements root_places u_9 pl_suit u_10 u_11) H := hP.sub [0, 1, 2, 3] rfl
            have hD : va_D A (wl_X11_row ad cs h_pl h_pl_elements root_places u_9 pl_suit u_10 u_11) := hD.sub [0, 1, 2, 3] rfl rfl
            refine lv_iconst (v := (1 : Int32)) hx hb dX11_row_43 (by decide) ?_
            exact W.iret (v := (1 : Int32)) hx hb hr (fun t ht2 hW => ⟨⟨(1 : Int32), (u_9, u_10, u_11), rfl, Option.some.inj h, by rw [ht2]; exact hP, hD⟩, hS.F ht2⟩) hS.2.2 dX11_row_44 hlocks
          · have h := zk_f c_8 h
            refine lv_bipush (v := (-14 : Int32)) hx hb dX11_row_33 (by decide) ?_
            exact W.iret (v := (-14 : Int32)) hx hb hr (fun t ht2 hW => ⟨⟨(-14 : Int32), (pl_holds, pl_size, pl_elements), rfl, Option.some.inj h, by rw [ht2]; exact hP, hD⟩, hS.F ht2⟩) hS.2.2 dX11_row_35 hlocks
        · have h := zk_f c_7 h
          refine lv_iconst (v := (-1 : Int32)) hx hb dX11_row_27 (by decide) ?_
          exact W.iret (v := (-1 : Int32)) hx hb hr (fun t ht2 hW => ⟨⟨(-1 : Int32), (pl_holds, pl_size, pl_elements), rfl, Option.some.inj h, by rw [ht2]; exact hP, hD⟩, hS.F ht2⟩) hS.2.2 dX11_row_28 hlocks
  · have h := zk_f c_4 h
    refine W.eq (g2 := F0 m 5 ls [.null]) (by rw [if_neg c_4]; rfl) ?_
    refine lv_astoreN (lv' := [(4, .null), (0, .ref (ad 0)), (1, .int x1), (2, .int x2), (3, .int x3)]) hx hb dX11_row_5 hl (by decide) rfl (fun ls hl => ?_)
    refine lv_aloadN hx hb dX11_row_7 (lv_at hl 0 rfl) ?_
    refine lv_ifnullN (tgt := 27) hx hb dX11_row_9 (by decide) ?_
    refine lv_iconst (v := (-1 : Int32)) hx hb dX11_row_27 (by decide) ?_
    exact W.iret (v := (-1 : Int32)) hx hb hr (fun t ht2 hW => ⟨⟨(-1 : Int32), (pl_holds, pl_size, pl_elements), rfl, Option.some.inj h, by rw [ht2]; exact hP, hD⟩, hS.F ht2⟩) hS.2.2 dX11_row_28 hlocks
set_option maxHeartbeats 4000000 in
set_option maxRecDepth 100000 in
theorem c_X11_row (l : Launch) (D : va_G) (cs : Nat → ClassId) (ad : Nat → Nat) (h_pl : Nat) (h_pl_elements : Nat) (sz : Nat) (x1 : Int32) (x2 : Int32) (x3 : Int32) (root_places : Nat → Option Nat) (pl_holds : Int32) (pl_suit : Int32) (pl_size : Int32) (pl_elements : Nat → Int64) (R : Int32 × Int32 × Int32 × (Nat → Int64)) (h : f_X11_row h_pl  x1 x2 x3 root_places pl_holds pl_suit pl_size pl_elements = some R) : Met l yX11_row (z_X11_row) rm_X11_row (va_Pc [.ref (ad 0), .int x1, .int x2, .int x3] (zPre D cs (wl_X11_row ad cs h_pl h_pl_elements root_places pl_holds pl_suit pl_size pl_elements) sz)) (Q_X11_row D cs ad h_pl h_pl_elements root_places pl_suit (va_A (wl_X11_row ad cs h_pl h_pl_elements root_places pl_holds pl_suit pl_size pl_elements) sz) R) 0 0 (va_A (wl_X11_row ad cs h_pl h_pl_elements root_places pl_holds pl_suit pl_size pl_elements) sz) := by
  refine Met.ofW (cc := cX11_row) (maxL := 5) (ret := (some .int)) (by decide) rfl ?_
  intro p e s m args below meth c s₁ B hml hv
  obtain ⟨rfl, hsz, hP, hK, hD0⟩ := hv
  subst hsz
  have hD := hD0.self (sz := s.heap.size)
  have C0 : zC p s m _ meth c cX11_row 5 (some .int) RX11 zW := ⟨B.exec, B.bytes, B.returns, hml, findClass_of_methodNamed B.named, fun w hw => atoms_spec (ws := z_X11_row) B.pre w (List.mem_cons_of_mem _ hw), B.notSynchronized⟩
  have hA : ∀ q : Nat, s.heap.size ≤ q → va_A (wl_X11_row ad cs h_pl h_pl_elements root_places pl_holds pl_suit pl_size pl_elements) s.heap.size q := fun q h => Or.inr h
  have hl := lv_entry ([.ref (ad 0), .int x1, .int x2, .int x3]) (n := 5) (Nat.le_of_ble_eq_true rfl)
  rw [lg_entry_eq]
  generalize (lg_sl ([.ref (ad 0), .int x1, .int x2, .int x3]) ++ List.replicate (5 - (lg_sl ([.ref (ad 0), .int x1, .int x2, .int x3])).length) Slot.unset).toArray = ls at hl ⊢
  exact L_X11_row_0 C0 hK hA   x1 x2 x3 pl_holds pl_size pl_elements h s.heap [] ls hP hD va_S.rf hl
theorem kw_76 : Cond.initialized RX2 ∈ zW := zwI (i := 76) (by decide +kernel) (by decide +kernel)
theorem kw_696 : Cond.fieldLink RX11 10 "AlreadyJudged" "court" "LAlreadyJudged$Court;" ∈ zW := zwI (i := 696) (by decide +kernel) (by decide +kernel)
theorem kw_734 : Cond.methodLink RX11 103 yX2_isShoe ∈ zW := zwI (i := 734) (by decide +kernel) (by decide +kernel)
theorem kw_735 : Cond.static yX2_isShoe ∈ zW := zwI (i := 735) (by decide +kernel) (by decide +kernel)
theorem kw_736 : Cond.code yX2_isShoe cX2_isShoe 4 (some .boolean) ∈ zW := zwI (i := 736) (by decide +kernel) (by decide +kernel)
theorem kw_740 : Cond.methodLink RX11 107 yX2_addShoe ∈ zW := zwI (i := 740) (by decide +kernel) (by decide +kernel)
theorem kw_741 : Cond.instanceMethod yX2_addShoe ∈ zW := zwI (i := 741) (by decide +kernel) (by decide +kernel)
theorem kw_742 : Cond.selects RX2 yX2_addShoe yX2_addShoe ∈ zW := zwI (i := 742) (by decide +kernel) (by decide +kernel)
theorem kw_743 : Cond.code yX2_addShoe cX2_addShoe 5 (some .int) ∈ zW := zwI (i := 743) (by decide +kernel) (by decide +kernel)
theorem dX11_shoe_0 : decode cX11_shoe 0 = .ok (.iload_n 1, 1) := by decide +kernel
theorem dX11_shoe_1 : decode cX11_shoe 1 = .ok (.iload_n 2, 1) := by decide +kernel
theorem dX11_shoe_2 : decode cX11_shoe 2 = .ok (.iload_n 3, 1) := by decide +kernel
theorem dX11_shoe_3 : decode cX11_shoe 3 = .ok (.iload 4, 2) := by decide +kernel
theorem dX11_shoe_5 : decode cX11_shoe 5 = .ok (.invokestatic 103, 3) := by decide +kernel
theorem dX11_shoe_8 : decode cX11_shoe 8 = .ok (.ifCond .ne 5, 3) := by decide +kernel
theorem dX11_shoe_11 : decode cX11_shoe 11 = .ok (.iconst (-1), 1) := by decide +kernel
theorem dX11_shoe_12 : decode cX11_shoe 12 = .ok (.ireturn, 1) := by decide +kernel
theorem dX11_shoe_13 : decode cX11_shoe 13 = .ok (.aload_n 0, 1) := by decide +kernel
theorem dX11_shoe_14 : decode cX11_shoe 14 = .ok (.getfield 10, 3) := by decide +kernel
theorem dX11_shoe_17 : decode cX11_shoe 17 = .ok (.iload_n 1, 1) := by decide +kernel
theorem dX11_shoe_18 : decode cX11_shoe 18 = .ok (.iload_n 2, 1) := by decide +kernel
theorem dX11_shoe_19 : decode cX11_shoe 19 = .ok (.iload_n 3, 1) := by decide +kernel
theorem dX11_shoe_20 : decode cX11_shoe 20 = .ok (.iload 4, 2) := by decide +kernel
theorem dX11_shoe_22 : decode cX11_shoe 22 = .ok (.invokevirtual 107, 3) := by decide +kernel
theorem dX11_shoe_25 : decode cX11_shoe 25 = .ok (.ireturn, 1) := by decide +kernel
abbrev z_X11_shoe : List Cond := .code yX11_shoe cX11_shoe 5 (some .int) :: zW
abbrev wl_X11_shoe (ad : Nat → Nat) (cs : Nat → ClassId)  (court_shoeCount : Int32) (court_claimCount : Int32) (court_suitCount : Int32) (court_shoePerson : Nat → Int32) (court_shoeOther : Nat → Int32) (court_shoeSort : Nat → Int32) (court_shoeDay : Nat → Int32) : va_W := [((ad 0), .inr (11, [.ref (ad 4), .ref (ad 15), .ref (ad 23), .ref (ad 25), .ref (ad 26), .ref (ad 28), .ref (ad 34), .ref (ad 39), .ref (ad 1), .ref (ad 2), .ref (ad 3)])), ((ad 4), .inr (2, [.ref (ad 5), .ref (ad 6), .ref (ad 7), .ref (ad 8), .ref (ad 9), .ref (ad 10), .ref (ad 11), .ref (ad 12), .ref (ad 13), .ref (ad 14), .int court_shoeCount, .int court_claimCount, .int court_suitCount])), ((ad 5), .inl (cs 0, 40, .inl court_shoePerson)), ((ad 6), .inl (cs 0, 40, .inl court_shoeOther)), ((ad 7), .inl (cs 0, 40, .inl court_shoeSort)), ((ad 8), .inl (cs 0, 40, .inl court_shoeDay))]
def Q_X11_shoe (D : va_G) (cs : Nat → ClassId) (ad : Nat → Nat)  (court_claimCount : Int32) (court_suitCount : Int32) (A : Nat → Prop) (R : Int32 × Int32 × (Nat → Int32) × (Nat → Int32) × (Nat → Int32) × (Nat → Int32)) : Array Value → State → Outcome → State → Prop :=
  va_Qi (fun (r : Int32) (u : Int32 × (Nat → Int32) × (Nat → Int32) × (Nat → Int32) × (Nat → Int32)) => (r, u) = R) (fun (u : Int32 × (Nat → Int32) × (Nat → Int32) × (Nat → Int32) × (Nat → Int32)) (t : State) => va_P D classes (wl_X11_shoe ad cs u.1 court_claimCount court_suitCount u.2.1 u.2.2.1 u.2.2.2.1 u.2.2.2.2) t.heap ∧ va_D A (wl_X11_shoe ad cs u.1 court_claimCount court_suitCount u.2.1 u.2.2.1 u.2.2.2.1 u.2.2.2.2)) A
abbrev rm_X11_shoe : Room := { frames := 2, cells := 0, slots := 0, locals := 43 }
theorem g_X11_103 : GoodIn zW (va_wsS RX11 103 yX2_isShoe z_X2_isShoe) := zGS kw_734 kw_735 kw_76 kw_736
theorem g_X11_107 : GoodIn zW (wsV RX11 107 RX2 yX2_addShoe z_X2_addShoe) := zGV kw_740 kw_741 kw_742 kw_76 kw_743
def B_X11_shoe_0    (court_claimCount : Int32) (court_suitCount : Int32) (x1 : Int32) (x2 : Int32) (x3 : Int32) (x4 : Int32) (court_shoeCount : Int32) (court_shoePerson : Nat → Int32) (court_shoeOther : Nat → Int32) (court_shoeSort : Nat → Int32) (court_shoeDay : Nat → Int32) : Option (Int32 × Int32 × (Nat → Int32) × (Nat → Int32) × (Nat → Int32) × (Nat → Int32)) :=
  (zk_b2 (f_X2_isShoe x1 x2 x3 x4) (fun r_1 u_2 => (if r_1 = 0 then (some ((-1 : Int32), court_shoeCount, court_shoePerson, court_shoeOther, court_shoeSort, court_shoeDay)) else (zk_b6 (f_X2_addShoe x1 x2 x3 x4 court_shoeCount court_claimCount court_suitCount court_shoePerson court_shoeOther court_shoeSort court_shoeDay) (fun r_5 u_6 u_7 u_8 u_9 u_10 => (some (r_5, u_6, u_7, u_8, u_9, u_10)))))))
def f_X11_shoe   (x1 : Int32) (x2 : Int32) (x3 : Int32) (x4 : Int32) (court_shoeCount : Int32) (court_claimCount : Int32) (court_suitCount : Int32) (court_shoePerson : Nat → Int32) (court_shoeOther : Nat → Int32) (court_shoeSort : Nat → Int32) (court_shoeDay : Nat → Int32) : Option (Int32 × Int32 × (Nat → Int32) × (Nat → Int32) × (Nat → Int32) × (Nat → Int32)) := B_X11_shoe_0   court_claimCount court_suitCount x1 x2 x3 x4 court_shoeCount court_shoePerson court_shoeOther court_shoeSort court_shoeDay
set_option maxHeartbeats 4000000 in
set_option maxRecDepth 100000 in
theorem L_X11_shoe_0 {p : Program} {l : Launch} {e : Env} {s : State} {m : MethodId} {args : Array Value} {below : List Frame} {meth : Method} {c : Code} {A : Nat → Prop} {D : va_G} {cs : Nat → ClassId} {ad : Nat → Nat} {court_claimCount : Int32} {court_suitCount : Int32} {R : Int32 × Int32 × (Nat → Int32) × (Nat → Int32) × (Nat → Int32) × (Nat → Int32)} (C0 : zC p s m args meth c cX11_shoe 5 (some .int) RX11 zW) (hK : va_K D classes (zT cs) s) (hO : zO s) (hA : ∀ q : Nat, s.heap.size ≤ q → A q) (x1 : Int32) (x2 : Int32) (x3 : Int32) (x4 : Int32) (court_shoeCount : Int32) (court_shoePerson : Nat → Int32) (court_shoeOther : Nat → Int32) (court_shoeSort : Nat → Int32) (court_shoeDay : Nat → Int32) (h : B_X11_shoe_0 court_claimCount court_suitCount x1 x2 x3 x4 court_shoeCount court_shoePerson court_shoeOther court_shoeSort court_shoeDay = some R) (H : Heap) (locs : List Loc) (ls : Array Slot) (hP : va_P D classes (wl_X11_shoe ad cs court_shoeCount court_claimCount court_suitCount court_shoePerson court_shoeOther court_shoeSort court_shoeDay) H) (hD : va_D A (wl_X11_shoe ad cs court_shoeCount court_claimCount court_suitCount court_shoePerson court_shoeOther court_shoeSort court_shoeDay)) (hS : va_S A s.heap H locs) (hl : lv_has ls 5 [(0, .ref (ad 0)), (1, .int x1), (2, .int x2), (3, .int x3), (4, .int x4)]) : W p l e rm_X11_shoe s m args below meth c H locs 0 0 (MQ below (Q_X11_shoe D cs ad court_claimCount court_suitCount A R) args s 0 0 A) (F0 m 0 ls []) := by
  obtain ⟨hx, hb, hr, hml, hown, ht, hlocks⟩ := id C0
  refine lv_iload_n hx hb dX11_shoe_0 rfl (lv_at hl 1 rfl) ?_
  refine lv_iload_n hx hb dX11_shoe_1 rfl (lv_at hl 2 rfl) ?_
  refine lv_iload_n hx hb dX11_shoe_2 rfl (lv_at hl 3 rfl) ?_
  refine lv_iload hx hb dX11_shoe_3 (lv_at hl 4 rfl) ?_
  obtain ⟨r_1, u_2, hc_3, h⟩ := zk_o2 h
  refine zk_siO (post := (fun r u => (r, u) = (r_1, u_2))) (w1 := fun u => (wl_X2_isShoe ad cs )) (As := [.int x1, .int x2, .int x3, .int x4]) (rest := []) hO (c_X2_isShoe l D cs ad  H.size x1 x2 x3 x4 _ hc_3) ⟨hx, hb, hml, hown, ht⟩ (va_cwS 4 ht g_X11_103 rfl rfl rfl (by decide +kernel) ⟨Nat.le_of_ble_eq_true rfl, Nat.le_of_ble_eq_true rfl⟩) hP hD hS hK hA [] [0, 1, 2, 3, 4, 5] rfl rfl rfl rfl (by decide) rfl hl.1 (Nat.le_of_ble_eq_true rfl) dX11_shoe_5 ⟨Nat.zero_le _, Nat.zero_le _⟩ (fun r u H locs hq hP hD hS => ?_)
  cases hq
  have hP : va_P D classes (wl_X11_shoe ad cs court_shoeCount court_claimCount court_suitCount court_shoePerson court_shoeOther court_shoeSort court_shoeDay) H := hP.sub [0, 1, 2, 3, 4, 5] rfl
  have hD : va_D A (wl_X11_shoe ad cs court_shoeCount court_claimCount court_suitCount court_shoePerson court_shoeOther court_shoeSort court_shoeDay) := hD.sub [0, 1, 2, 3, 4, 5] rfl rfl
  refine lv_if_ne (tgt := 13) hx hb dX11_shoe_8 (by decide) (fun c_4 => ?_) (fun c_4 => ?_)
  · have h := zk_f c_4 h
    refine lv_aload_n hx hb dX11_shoe_13 rfl (lv_at hl 0 rfl) ?_
    refine va_get (D := D) (ci := 11) (v := .ref (ad 4)) (C := RX11) (T := TX11) (N := 11) hx hb ht iX11 hown hK hP 0 rfl rfl 0 (by decide) (ht _ kw_696) (fun _ h9 => h9) rfl dX11_shoe_14 ?_
    refine lv_iload_n hx hb dX11_shoe_17 rfl (lv_at hl 1 rfl) ?_
    refine lv_iload_n hx hb dX11_shoe_18 rfl (lv_at hl 2 rfl) ?_
    refine lv_iload_n hx hb dX11_shoe_19 rfl (lv_at hl 3 rfl) ?_
    refine lv_iload hx hb dX11_shoe_20 (lv_at hl 4 rfl) ?_
    obtain ⟨r_5, u_6, u_7, u_8, u_9, u_10, hc_11, h⟩ := zk_o6 h
    refine zk_vi (post := (fun r u => (r, u) = (r_5, u_6, u_7, u_8, u_9, u_10))) (w1 := fun u => (wl_X2_addShoe ad cs u.1 court_claimCount court_suitCount u.2.1 u.2.2.1 u.2.2.2.1 u.2.2.2.2)) (As := [.int x1, .int x2, .int x3, .int x4]) (rest := []) (c_X2_addShoe l D cs ad  H.size x1 x2 x3 x4 court_shoeCount court_claimCount court_suitCount court_shoePerson court_shoeOther court_shoeSort court_shoeDay _ hc_11) ⟨hx, hb, hml, hown, ht⟩ (cwV 4 ht g_X11_107 rfl rfl rfl (by decide +kernel) ⟨Nat.le_of_ble_eq_true rfl, Nat.le_of_ble_eq_true rfl⟩) (va_recv hK hP (ci := 2) (q0 := 1) rfl rfl) hP hD hS hK hA [1, 2, 3, 4, 5] [0] rfl rfl rfl rfl (by decide) rfl hl.1 (Nat.le_of_ble_eq_true rfl) dX11_shoe_22 ⟨Nat.zero_le _, Nat.zero_le _⟩ (fun r u H locs hq hP hD hS => ?_)
    cases hq
    have hP : va_P D classes (wl_X11_shoe ad cs u_6 court_claimCount court_suitCount u_7 u_8 u_9 u_10) H := hP.sub [0, 1, 2, 3, 4, 5] rfl
    have hD : va_D A (wl_X11_shoe ad cs u_6 court_claimCount court_suitCount u_7 u_8 u_9 u_10) := hD.sub [0, 1, 2, 3, 4, 5] rfl rfl
    exact W.iret (v := r_5) hx hb hr (fun t ht2 hW => ⟨⟨r_5, (u_6, u_7, u_8, u_9, u_10), rfl, Option.some.inj h, by rw [ht2]; exact hP, hD⟩, hS.F ht2⟩) hS.2.2 dX11_shoe_25 hlocks
  · have h := zk_t c_4 h
    refine lv_iconst (v := (-1 : Int32)) hx hb dX11_shoe_11 (by decide) ?_
    exact W.iret (v := (-1 : Int32)) hx hb hr (fun t ht2 hW => ⟨⟨(-1 : Int32), (court_shoeCount, court_shoePerson, court_shoeOther, court_shoeSort, court_shoeDay), rfl, Option.some.inj h, by rw [ht2]; exact hP, hD⟩, hS.F ht2⟩) hS.2.2 dX11_shoe_12 hlocks
set_option maxHeartbeats 4000000 in
set_option maxRecDepth 100000 in
theorem c_X11_shoe (l : Launch) (D : va_G) (cs : Nat → ClassId) (ad : Nat → Nat) (sz : Nat) (x1 : Int32) (x2 : Int32) (x3 : Int32) (x4 : Int32) (court_shoeCount : Int32) (court_claimCount : Int32) (court_suitCount : Int32) (court_shoePerson : Nat → Int32) (court_shoeOther : Nat → Int32) (court_shoeSort : Nat → Int32) (court_shoeDay : Nat → Int32) (R : Int32 × Int32 × (Nat → Int32) × (Nat → Int32) × (Nat → Int32) × (Nat → Int32)) (h : f_X11_shoe   x1 x2 x3 x4 court_shoeCount court_claimCount court_suitCount court_shoePerson court_shoeOther court_shoeSort court_shoeDay = some R) : Met l yX11_shoe (z_X11_shoe) rm_X11_shoe (va_Pc [.ref (ad 0), .int x1, .int x2, .int x3, .int x4] (zPreO D cs (wl_X11_shoe ad cs court_shoeCount court_claimCount court_suitCount court_shoePerson court_shoeOther court_shoeSort court_shoeDay) sz)) (Q_X11_shoe D cs ad court_claimCount court_suitCount (va_A (wl_X11_shoe ad cs court_shoeCount court_claimCount court_suitCount court_shoePerson court_shoeOther court_shoeSort court_shoeDay) sz) R) 0 0 (va_A (wl_X11_shoe ad cs court_shoeCount court_claimCount court_suitCount court_shoePerson court_shoeOther court_shoeSort court_shoeDay) sz) := by
  refine Met.ofW (cc := cX11_shoe) (maxL := 5) (ret := (some .int)) (by decide) rfl ?_
  intro p e s m args below meth c s₁ B hml hv
  obtain ⟨rfl, ⟨hsz, hP, hK, hD0⟩, hO⟩ := hv
  subst hsz
  have hD := hD0.self (sz := s.heap.size)
  have C0 : zC p s m _ meth c cX11_shoe 5 (some .int) RX11 zW := ⟨B.exec, B.bytes, B.returns, hml, findClass_of_methodNamed B.named, fun w hw => atoms_spec (ws := z_X11_shoe) B.pre w (List.mem_cons_of_mem _ hw), B.notSynchronized⟩
  have hA : ∀ q : Nat, s.heap.size ≤ q → va_A (wl_X11_shoe ad cs court_shoeCount court_claimCount court_suitCount court_shoePerson court_shoeOther court_shoeSort court_shoeDay) s.heap.size q := fun q h => Or.inr h
  have hl := lv_entry ([.ref (ad 0), .int x1, .int x2, .int x3, .int x4]) (n := 5) (Nat.le_of_ble_eq_true rfl)
  rw [lg_entry_eq]
  generalize (lg_sl ([.ref (ad 0), .int x1, .int x2, .int x3, .int x4]) ++ List.replicate (5 - (lg_sl ([.ref (ad 0), .int x1, .int x2, .int x3, .int x4])).length) Slot.unset).toArray = ls at hl ⊢
  exact L_X11_shoe_0 C0 hK hO hA   x1 x2 x3 x4 court_shoeCount court_shoePerson court_shoeOther court_shoeSort court_shoeDay h s.heap [] ls hP hD va_S.rf hl
