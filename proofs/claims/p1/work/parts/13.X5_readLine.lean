theorem dX5_readLine_0 : decode cX5_readLine 0 = .ok (.aload_n 0, 1) := by decide +kernel
theorem dX5_readLine_1 : decode cX5_readLine 1 = .ok (.iconst 0, 1) := by decide +kernel
theorem dX5_readLine_2 : decode cX5_readLine 2 = .ok (.iconst 0, 1) := by decide +kernel
theorem dX5_readLine_3 : decode cX5_readLine 3 = .ok (.invokevirtual 53, 3) := by decide +kernel
theorem dX5_readLine_6 : decode cX5_readLine 6 = .ok (.aload_n 0, 1) := by decide +kernel
theorem dX5_readLine_7 : decode cX5_readLine 7 = .ok (.bipush 63, 2) := by decide +kernel
theorem dX5_readLine_9 : decode cX5_readLine 9 = .ok (.invokevirtual 32, 3) := by decide +kernel
theorem dX5_readLine_12 : decode cX5_readLine 12 = .ok (.ifCond .eq 50, 3) := by decide +kernel
theorem dX5_readLine_15 : decode cX5_readLine 15 = .ok (.aload_n 0, 1) := by decide +kernel
theorem dX5_readLine_16 : decode cX5_readLine 16 = .ok (.getfield 23, 3) := by decide +kernel
theorem dX5_readLine_19 : decode cX5_readLine 19 = .ok (.istore_n 1, 1) := by decide +kernel
theorem dX5_readLine_20 : decode cX5_readLine 20 = .ok (.aload_n 0, 1) := by decide +kernel
theorem dX5_readLine_21 : decode cX5_readLine 21 = .ok (.iconst 3, 1) := by decide +kernel
theorem dX5_readLine_22 : decode cX5_readLine 22 = .ok (.invokevirtual 57, 3) := by decide +kernel
theorem dX5_readLine_25 : decode cX5_readLine 25 = .ok (.aload_n 0, 1) := by decide +kernel
theorem dX5_readLine_26 : decode cX5_readLine 26 = .ok (.iconst 0, 1) := by decide +kernel
theorem dX5_readLine_27 : decode cX5_readLine 27 = .ok (.iconst 0, 1) := by decide +kernel
theorem dX5_readLine_28 : decode cX5_readLine 28 = .ok (.invokevirtual 53, 3) := by decide +kernel
theorem dX5_readLine_31 : decode cX5_readLine 31 = .ok (.aload_n 0, 1) := by decide +kernel
theorem dX5_readLine_32 : decode cX5_readLine 32 = .ok (.iconst 2, 1) := by decide +kernel
theorem dX5_readLine_33 : decode cX5_readLine 33 = .ok (.invokevirtual 57, 3) := by decide +kernel
theorem dX5_readLine_36 : decode cX5_readLine 36 = .ok (.iload_n 1, 1) := by decide +kernel
theorem dX5_readLine_37 : decode cX5_readLine 37 = .ok (.aload_n 0, 1) := by decide +kernel
theorem dX5_readLine_38 : decode cX5_readLine 38 = .ok (.getfield 9, 3) := by decide +kernel
theorem dX5_readLine_41 : decode cX5_readLine 41 = .ok (.arraylength, 1) := by decide +kernel
theorem dX5_readLine_42 : decode cX5_readLine 42 = .ok (.if_icmp .ge 17, 3) := by decide +kernel
theorem dX5_readLine_45 : decode cX5_readLine 45 = .ok (.aload_n 0, 1) := by decide +kernel
theorem dX5_readLine_46 : decode cX5_readLine 46 = .ok (.getfield 9, 3) := by decide +kernel
theorem dX5_readLine_49 : decode cX5_readLine 49 = .ok (.iload_n 1, 1) := by decide +kernel
theorem dX5_readLine_50 : decode cX5_readLine 50 = .ok (.aload_n 0, 1) := by decide +kernel
theorem dX5_readLine_51 : decode cX5_readLine 51 = .ok (.getfield 23, 3) := by decide +kernel
theorem dX5_readLine_54 : decode cX5_readLine 54 = .ok (.iconst 5, 1) := by decide +kernel
theorem dX5_readLine_55 : decode cX5_readLine 55 = .ok (.ishl, 1) := by decide +kernel
theorem dX5_readLine_56 : decode cX5_readLine 56 = .ok (.iconst 3, 1) := by decide +kernel
theorem dX5_readLine_57 : decode cX5_readLine 57 = .ok (.ior, 1) := by decide +kernel
theorem dX5_readLine_58 : decode cX5_readLine 58 = .ok (.iastore, 1) := by decide +kernel
theorem dX5_readLine_59 : decode cX5_readLine 59 = .ok (.goto 8, 3) := by decide +kernel
theorem dX5_readLine_62 : decode cX5_readLine 62 = .ok (.aload_n 0, 1) := by decide +kernel
theorem dX5_readLine_63 : decode cX5_readLine 63 = .ok (.iconst 2, 1) := by decide +kernel
theorem dX5_readLine_64 : decode cX5_readLine 64 = .ok (.invokevirtual 57, 3) := by decide +kernel
theorem dX5_readLine_67 : decode cX5_readLine 67 = .ok (.return_, 1) := by decide +kernel
abbrev z_X5_readLine : List Cond := .code yX5_readLine cX5_readLine 2 none :: zW
abbrev wl_X5_readLine (ad : Nat → Nat) (cs : Nat → ClassId)  (tape_size : Int32) (tape_bytes : Nat → Int32) (lr_size : Int32) (lr_at : Int32) (lr_fault : Int32) (lr_code : Nat → Int32) : va_W := [((ad 23), .inr (9, [.ref (ad 24), .int tape_size])), ((ad 24), .inl (cs 0, 120, .inl tape_bytes)), ((ad 26), .inr (5, [.ref (ad 23), .ref (ad 27), .int lr_size, .int lr_at, .int lr_fault])), ((ad 27), .inl (cs 0, 121, .inl lr_code))]
def Q_X5_readLine (D : va_G) (cs : Nat → ClassId) (ad : Nat → Nat)  (tape_size : Int32) (tape_bytes : Nat → Int32) (A : Nat → Prop) (R : Int32 × Int32 × Int32 × (Nat → Int32)) : Array Value → State → Outcome → State → Prop :=
  va_Qv (fun u : Int32 × Int32 × Int32 × (Nat → Int32) => u = R) (fun (u : Int32 × Int32 × Int32 × (Nat → Int32)) (t : State) => va_P D classes (wl_X5_readLine ad cs tape_size tape_bytes u.1 u.2.1 u.2.2.1 u.2.2.2) t.heap ∧ va_D A (wl_X5_readLine ad cs tape_size tape_bytes u.1 u.2.1 u.2.2.1 u.2.2.2)) A
abbrev rm_X5_readLine : Room := { frames := 181, cells := 0, slots := 0, locals := 3924 }
def B_X5_readLine_59   (tape_size : Int32) (tape_bytes : Nat → Int32) (lr_size : Int32) (lr_at : Int32) (lr_fault : Int32) (lr_code : Nat → Int32) : Option (Int32 × Int32 × Int32 × (Nat → Int32)) :=
  (some (lr_size, lr_at, lr_fault, lr_code))
def B_X5_readLine_0   (tape_size : Int32) (tape_bytes : Nat → Int32) (lr_size : Int32) (lr_at : Int32) (lr_fault : Int32) (lr_code : Nat → Int32) : Option (Int32 × Int32 × Int32 × (Nat → Int32)) :=
  (zk_b4 ((grp_lawgrp 60).1 (0 : Int32) (0 : Int32) tape_size tape_bytes lr_size lr_at lr_fault lr_code) (fun u_1 u_2 u_3 u_4 => (zk_b2 (f_X5_accept (63 : Int32) tape_size tape_bytes u_1 u_2 u_3) (fun r_6 u_7 => (if r_6 = 0 then (zk_b2 (f_X5_emit (2 : Int32) u_1 u_7 u_3 u_4) (fun u_10 u_11 => (some (u_10, u_7, u_3, u_11)))) else (zk_b2 (f_X5_emit (3 : Int32) u_1 u_7 u_3 u_4) (fun u_13 u_14 => (zk_b4 ((grp_lawgrp 60).1 (0 : Int32) (0 : Int32) tape_size tape_bytes u_13 u_7 u_3 u_14) (fun u_16 u_17 u_18 u_19 => (zk_b2 (f_X5_emit (2 : Int32) u_16 u_17 u_18 u_19) (fun u_21 u_22 => (if (121 : Int32) ≤ u_1 then (B_X5_readLine_59 tape_size tape_bytes u_21 u_17 u_18 u_22) else (zk_let ((u_21 <<< ((5 : Int32) &&& 31)) ||| (3 : Int32)) (fun v_25 => (if (u_1 < 0 ∨ 121 ≤ u_1.toNatClampNeg) then none else (zk_let (upd u_22 u_1.toNatClampNeg v_25) (fun f_27 => (B_X5_readLine_59 tape_size tape_bytes u_21 u_17 u_18 f_27))))))))))))))))))
def f_X5_readLine   (tape_size : Int32) (tape_bytes : Nat → Int32) (lr_size : Int32) (lr_at : Int32) (lr_fault : Int32) (lr_code : Nat → Int32) : Option (Int32 × Int32 × Int32 × (Nat → Int32)) := B_X5_readLine_0  tape_size tape_bytes  lr_size lr_at lr_fault lr_code
set_option maxHeartbeats 4000000 in
set_option maxRecDepth 100000 in
theorem L_X5_readLine_59 {p : Program} {l : Launch} {e : Env} {s : State} {m : MethodId} {args : Array Value} {below : List Frame} {meth : Method} {c : Code} {A : Nat → Prop} {D : va_G} {cs : Nat → ClassId} {ad : Nat → Nat} {tape_size : Int32} {tape_bytes : Nat → Int32} {R : Int32 × Int32 × Int32 × (Nat → Int32)} (C0 : zC p s m args meth c cX5_readLine 2 none RX5 zW) (hK : va_K D classes (zT cs) s) (hA : ∀ q : Nat, s.heap.size ≤ q → A q) (lr_size : Int32) (lr_at : Int32) (lr_fault : Int32) (lr_code : Nat → Int32) (h : B_X5_readLine_59 tape_size tape_bytes lr_size lr_at lr_fault lr_code = some R) (H : Heap) (locs : List Loc) (ls : Array Slot) (hP : va_P D classes (wl_X5_readLine ad cs tape_size tape_bytes lr_size lr_at lr_fault lr_code) H) (hD : va_D A (wl_X5_readLine ad cs tape_size tape_bytes lr_size lr_at lr_fault lr_code)) (hS : va_S A s.heap H locs) (hl : lv_has ls 2 []) : W p l e rm_X5_readLine s m args below meth c H locs 0 0 (MQ below (Q_X5_readLine D cs ad tape_size tape_bytes A R) args s 0 0 A) (F0 m 59 ls []) := by
  obtain ⟨hx, hb, hr, hml, hown, ht, hlocks⟩ := id C0
  refine lv_goto (tgt := 67) hx hb dX5_readLine_59 (by decide) ?_
  exact W.vret hx hb hr (fun t ht2 hW => ⟨⟨(lr_size, lr_at, lr_fault, lr_code), rfl, Option.some.inj h, by rw [ht2]; exact hP, hD⟩, hS.F ht2⟩) hS.2.2 dX5_readLine_67 hlocks
set_option maxHeartbeats 4000000 in
set_option maxRecDepth 100000 in
theorem L_X5_readLine_0 {p : Program} {l : Launch} {e : Env} {s : State} {m : MethodId} {args : Array Value} {below : List Frame} {meth : Method} {c : Code} {A : Nat → Prop} {D : va_G} {cs : Nat → ClassId} {ad : Nat → Nat} {tape_size : Int32} {tape_bytes : Nat → Int32} {R : Int32 × Int32 × Int32 × (Nat → Int32)} (C0 : zC p s m args meth c cX5_readLine 2 none RX5 zW) (hK : va_K D classes (zT cs) s) (hA : ∀ q : Nat, s.heap.size ≤ q → A q) (lr_size : Int32) (lr_at : Int32) (lr_fault : Int32) (lr_code : Nat → Int32) (h : B_X5_readLine_0 tape_size tape_bytes lr_size lr_at lr_fault lr_code = some R) (H : Heap) (locs : List Loc) (ls : Array Slot) (hP : va_P D classes (wl_X5_readLine ad cs tape_size tape_bytes lr_size lr_at lr_fault lr_code) H) (hD : va_D A (wl_X5_readLine ad cs tape_size tape_bytes lr_size lr_at lr_fault lr_code)) (hS : va_S A s.heap H locs) (hl : lv_has ls 2 [(0, .ref (ad 26))]) : W p l e rm_X5_readLine s m args below meth c H locs 0 0 (MQ below (Q_X5_readLine D cs ad tape_size tape_bytes A R) args s 0 0 A) (F0 m 0 ls []) := by
  obtain ⟨hx, hb, hr, hml, hown, ht, hlocks⟩ := id C0
  refine lv_aload_n hx hb dX5_readLine_0 rfl (lv_at hl 0 rfl) ?_
  refine lv_iconst (v := (0 : Int32)) hx hb dX5_readLine_1 (by decide) ?_
  refine lv_iconst (v := (0 : Int32)) hx hb dX5_readLine_2 (by decide) ?_
  obtain ⟨u_1, u_2, u_3, u_4, hc_5, h⟩ := zk_o4 h
  refine zk_vv (post := (fun u => u = (u_1, u_2, u_3, u_4))) (w1 := fun u => (wl_X5_readLevel ad cs tape_size tape_bytes u.1 u.2.1 u.2.2.1 u.2.2.2)) (As := [.int (0 : Int32), .int (0 : Int32)]) (rest := []) (((cg_lawgrp l 60).1) D cs ad  H.size (0 : Int32) (0 : Int32) tape_size tape_bytes lr_size lr_at lr_fault lr_code _ hc_5) ⟨hx, hb, hml, hown, ht⟩ (cwV 2 ht g_X5_53 rfl rfl rfl (by decide +kernel) ⟨Nat.le_of_ble_eq_true rfl, Nat.le_of_ble_eq_true rfl⟩) (va_recv hK hP (ci := 5) (q0 := 2) rfl rfl) hP hD hS hK hA [0, 1, 2, 3] [] rfl rfl rfl rfl (by decide) rfl hl.1 (Nat.le_of_ble_eq_true rfl) dX5_readLine_3 ⟨Nat.zero_le _, Nat.zero_le _⟩ (fun u H locs hq hP hD hS => ?_)
  cases hq
  have hP : va_P D classes (wl_X5_readLine ad cs tape_size tape_bytes u_1 u_2 u_3 u_4) H := hP.sub [0, 1, 2, 3] rfl
  have hD : va_D A (wl_X5_readLine ad cs tape_size tape_bytes u_1 u_2 u_3 u_4) := hD.sub [0, 1, 2, 3] rfl rfl
  refine lv_aload_n hx hb dX5_readLine_6 rfl (lv_at hl 0 rfl) ?_
  refine lv_bipush (v := (63 : Int32)) hx hb dX5_readLine_7 (by decide) ?_
  obtain ⟨r_6, u_7, hc_8, h⟩ := zk_o2 h
  refine zk_vi (post := (fun r u => (r, u) = (r_6, u_7))) (w1 := fun u => (wl_X5_accept ad cs tape_size tape_bytes u_1 u u_3)) (As := [.int (63 : Int32)]) (rest := []) (c_X5_accept l D cs ad  H.size (63 : Int32) tape_size tape_bytes u_1 u_2 u_3 _ hc_8) ⟨hx, hb, hml, hown, ht⟩ (cwV 1 ht g_X5_32 rfl rfl rfl (by decide +kernel) ⟨Nat.le_of_ble_eq_true rfl, Nat.le_of_ble_eq_true rfl⟩) (va_recv hK hP (ci := 5) (q0 := 2) rfl rfl) hP hD hS hK hA [0, 1, 2] [3] rfl rfl rfl rfl (by decide) rfl hl.1 (Nat.le_of_ble_eq_true rfl) dX5_readLine_9 ⟨Nat.zero_le _, Nat.zero_le _⟩ (fun r u H locs hq hP hD hS => ?_)
  cases hq
  have hP : va_P D classes (wl_X5_readLine ad cs tape_size tape_bytes u_1 u_7 u_3 u_4) H := hP.sub [1, 2, 3, 0] rfl
  have hD : va_D A (wl_X5_readLine ad cs tape_size tape_bytes u_1 u_7 u_3 u_4) := hD.sub [1, 2, 3, 0] rfl rfl
  refine lv_if_eq (tgt := 62) hx hb dX5_readLine_12 (by decide) (fun c_9 => ?_) (fun c_9 => ?_)
  · have h := zk_t c_9 h
    refine lv_aload_n hx hb dX5_readLine_62 rfl (lv_at hl 0 rfl) ?_
    refine lv_iconst (v := (2 : Int32)) hx hb dX5_readLine_63 (by decide) ?_
    obtain ⟨u_10, u_11, hc_12, h⟩ := zk_o2 h
    refine zk_vv (post := (fun u => u = (u_10, u_11))) (w1 := fun u => (wl_X5_emit ad cs u.1 u_7 u_3 u.2)) (As := [.int (2 : Int32)]) (rest := []) (c_X5_emit l D cs ad  H.size (2 : Int32) u_1 u_7 u_3 u_4 _ hc_12) ⟨hx, hb, hml, hown, ht⟩ (cwV 1 ht g_X5_57 rfl rfl rfl (by decide +kernel) ⟨Nat.le_of_ble_eq_true rfl, Nat.le_of_ble_eq_true rfl⟩) (va_recv hK hP (ci := 5) (q0 := 2) rfl rfl) hP hD hS hK hA [2, 3] [0, 1] rfl rfl rfl rfl (by decide) rfl hl.1 (Nat.le_of_ble_eq_true rfl) dX5_readLine_64 ⟨Nat.zero_le _, Nat.zero_le _⟩ (fun u H locs hq hP hD hS => ?_)
    cases hq
    have hP : va_P D classes (wl_X5_readLine ad cs tape_size tape_bytes u_10 u_7 u_3 u_11) H := hP.sub [0, 1, 2, 3] rfl
    have hD : va_D A (wl_X5_readLine ad cs tape_size tape_bytes u_10 u_7 u_3 u_11) := hD.sub [0, 1, 2, 3] rfl rfl
    exact W.vret hx hb hr (fun t ht2 hW => ⟨⟨(u_10, u_7, u_3, u_11), rfl, Option.some.inj h, by rw [ht2]; exact hP, hD⟩, hS.F ht2⟩) hS.2.2 dX5_readLine_67 hlocks
  · have h := zk_f c_9 h
    refine lv_aload_n hx hb dX5_readLine_15 rfl (lv_at hl 0 rfl) ?_
    refine va_get (D := D) (ci := 5) (v := .int u_1) (C := RX5) (T := TX5) (N := 5) hx hb ht iX5 hown hK hP 2 rfl rfl 2 (by decide) (ht _ kw_276) (fun _ h9 => h9) rfl dX5_readLine_16 ?_
    refine lv_istore_n (lv' := [(1, .int u_1), (0, .ref (ad 26))]) hx hb dX5_readLine_19 rfl hl (by decide) rfl (fun ls hl => ?_)
    refine lv_aload_n hx hb dX5_readLine_20 rfl (lv_at hl 1 rfl) ?_
    refine lv_iconst (v := (3 : Int32)) hx hb dX5_readLine_21 (by decide) ?_
    obtain ⟨u_13, u_14, hc_15, h⟩ := zk_o2 h
    refine zk_vv (post := (fun u => u = (u_13, u_14))) (w1 := fun u => (wl_X5_emit ad cs u.1 u_7 u_3 u.2)) (As := [.int (3 : Int32)]) (rest := []) (c_X5_emit l D cs ad  H.size (3 : Int32) u_1 u_7 u_3 u_4 _ hc_15) ⟨hx, hb, hml, hown, ht⟩ (cwV 1 ht g_X5_57 rfl rfl rfl (by decide +kernel) ⟨Nat.le_of_ble_eq_true rfl, Nat.le_of_ble_eq_true rfl⟩) (va_recv hK hP (ci := 5) (q0 := 2) rfl rfl) hP hD hS hK hA [2, 3] [0, 1] rfl rfl rfl rfl (by decide) rfl hl.1 (Nat.le_of_ble_eq_true rfl) dX5_readLine_22 ⟨Nat.zero_le _, Nat.zero_le _⟩ (fun u H locs hq hP hD hS => ?_)
    cases hq
    have hP : va_P D classes (wl_X5_readLine ad cs tape_size tape_bytes u_13 u_7 u_3 u_14) H := hP.sub [0, 1, 2, 3] rfl
    have hD : va_D A (wl_X5_readLine ad cs tape_size tape_bytes u_13 u_7 u_3 u_14) := hD.sub [0, 1, 2, 3] rfl rfl
    refine lv_aload_n hx hb dX5_readLine_25 rfl (lv_at hl 1 rfl) ?_
    refine lv_iconst (v := (0 : Int32)) hx hb dX5_readLine_26 (by decide) ?_
    refine lv_iconst (v := (0 : Int32)) hx hb dX5_readLine_27 (by decide) ?_
    obtain ⟨u_16, u_17, u_18, u_19, hc_20, h⟩ := zk_o4 h
    refine zk_vv (post := (fun u => u = (u_16, u_17, u_18, u_19))) (w1 := fun u => (wl_X5_readLevel ad cs tape_size tape_bytes u.1 u.2.1 u.2.2.1 u.2.2.2)) (As := [.int (0 : Int32), .int (0 : Int32)]) (rest := []) (((cg_lawgrp l 60).1) D cs ad  H.size (0 : Int32) (0 : Int32) tape_size tape_bytes u_13 u_7 u_3 u_14 _ hc_20) ⟨hx, hb, hml, hown, ht⟩ (cwV 2 ht g_X5_53 rfl rfl rfl (by decide +kernel) ⟨Nat.le_of_ble_eq_true rfl, Nat.le_of_ble_eq_true rfl⟩) (va_recv hK hP (ci := 5) (q0 := 2) rfl rfl) hP hD hS hK hA [0, 1, 2, 3] [] rfl rfl rfl rfl (by decide) rfl hl.1 (Nat.le_of_ble_eq_true rfl) dX5_readLine_28 ⟨Nat.zero_le _, Nat.zero_le _⟩ (fun u H locs hq hP hD hS => ?_)
    cases hq
    have hP : va_P D classes (wl_X5_readLine ad cs tape_size tape_bytes u_16 u_17 u_18 u_19) H := hP.sub [0, 1, 2, 3] rfl
    have hD : va_D A (wl_X5_readLine ad cs tape_size tape_bytes u_16 u_17 u_18 u_19) := hD.sub [0, 1, 2, 3] rfl rfl
    refine lv_aload_n hx hb dX5_readLine_31 rfl (lv_at hl 1 rfl) ?_
    refine lv_iconst (v := (2 : Int32)) hx hb dX5_readLine_32 (by decide) ?_
    obtain ⟨u_21, u_22, hc_23, h⟩ := zk_o2 h
    refine zk_vv (post := (fun u => u = (u_21, u_22))) (w1 := fun u => (wl_X5_emit ad cs u.1 u_17 u_18 u.2)) (As := [.int (2 : Int32)]) (rest := []) (c_X5_emit l D cs ad  H.size (2 : Int32) u_16 u_17 u_18 u_19 _ hc_23) ⟨hx, hb, hml, hown, ht⟩ (cwV 1 ht g_X5_57 rfl rfl rfl (by decide +kernel) ⟨Nat.le_of_ble_eq_true rfl, Nat.le_of_ble_eq_true rfl⟩) (va_recv hK hP (ci := 5) (q0 := 2) rfl rfl) hP hD hS hK hA [2, 3] [0, 1] rfl rfl rfl rfl (by decide) rfl hl.1 (Nat.le_of_ble_eq_true rfl) dX5_readLine_33 ⟨Nat.zero_le _, Nat.zero_le _⟩ (fun u H locs hq hP hD hS => ?_)
    cases hq
    have hP : va_P D classes (wl_X5_readLine ad cs tape_size tape_bytes u_21 u_17 u_18 u_22) H := hP.sub [0, 1, 2, 3] rfl
    have hD : va_D A (wl_X5_readLine ad cs tape_size tape_bytes u_21 u_17 u_18 u_22) := hD.sub [0, 1, 2, 3] rfl rfl
    refine lv_iload_n hx hb dX5_readLine_36 rfl (lv_at hl 0 rfl) ?_
    refine lv_aload_n hx hb dX5_readLine_37 rfl (lv_at hl 1 rfl) ?_
    refine va_get (D := D) (ci := 5) (v := .ref (ad 27)) (C := RX5) (T := TX5) (N := 5) hx hb ht iX5 hown hK hP 2 rfl rfl 1 (by decide) (ht _ kw_275) (fun _ h9 => h9) rfl dX5_readLine_38 ?_
    refine va_alen (v := (121 : Int32)) hx hb hK hP 3 0 rfl rfl rfl dX5_readLine_41 ?_
    refine lv_icmp_ge (tgt := 59) hx hb dX5_readLine_42 (by decide) (fun c_24 => ?_) (fun c_24 => ?_)
    · have h := zk_t c_24 h
      exact L_X5_readLine_59 C0 hK hA   u_21 u_17 u_18 u_22 h H locs ls hP hD hS (lv_sub hl [] rfl)
    · have h := zk_f c_24 h
      refine lv_aload_n hx hb dX5_readLine_45 rfl (lv_at hl 1 rfl) ?_
      refine va_get (D := D) (ci := 5) (v := .ref (ad 27)) (C := RX5) (T := TX5) (N := 5) hx hb ht iX5 hown hK hP 2 rfl rfl 1 (by decide) (ht _ kw_275) (fun _ h9 => h9) rfl dX5_readLine_46 ?_
      refine lv_iload_n hx hb dX5_readLine_49 rfl (lv_at hl 0 rfl) ?_
      refine lv_aload_n hx hb dX5_readLine_50 rfl (lv_at hl 1 rfl) ?_
      refine va_get (D := D) (ci := 5) (v := .int u_21) (C := RX5) (T := TX5) (N := 5) hx hb ht iX5 hown hK hP 2 rfl rfl 2 (by decide) (ht _ kw_276) (fun _ h9 => h9) rfl dX5_readLine_51 ?_
      refine lv_iconst (v := (5 : Int32)) hx hb dX5_readLine_54 (by decide) ?_
      refine lv_ishl hx hb dX5_readLine_55 ?_
      refine lv_iconst (v := (3 : Int32)) hx hb dX5_readLine_56 (by decide) ?_
      refine lv_ior hx hb dX5_readLine_57 ?_
      obtain ⟨v_25, ev_25, h⟩ := zk_lt h
      refine W.eq (g2 := F0 m 58 ls [.int v_25, .int u_1, .ref (ad 27)]) (by rw [ev_25]) ?_
      obtain ⟨g_26, h⟩ := zk_gd h
      obtain ⟨f_27, ef_27, h⟩ := zk_lt h
      refine va_iast hx hb hK hP hD hS 3 0 rfl rfl g_26 dX5_readLine_58 (fun H locs hP hD hS => ?_)
      have hP : va_P D classes (wl_X5_readLine ad cs tape_size tape_bytes u_21 u_17 u_18 f_27) H := by rw [ef_27]; exact hP
      have hD : va_D A (wl_X5_readLine ad cs tape_size tape_bytes u_21 u_17 u_18 f_27) := by rw [ef_27]; exact hD
      exact L_X5_readLine_59 C0 hK hA   u_21 u_17 u_18 f_27 h H locs ls hP hD hS (lv_sub hl [] rfl)
set_option maxHeartbeats 4000000 in
set_option maxRecDepth 100000 in
theorem c_X5_readLine (l : Launch) (D : va_G) (cs : Nat → ClassId) (ad : Nat → Nat) (sz : Nat)  (tape_size : Int32) (tape_bytes : Nat → Int32) (lr_size : Int32) (lr_at : Int32) (lr_fault : Int32) (lr_code : Nat → Int32) (R : Int32 × Int32 × Int32 × (Nat → Int32)) (h : f_X5_readLine   tape_size tape_bytes lr_size lr_at lr_fault lr_code = some R) : Met l yX5_readLine (z_X5_readLine) rm_X5_readLine (va_Pc [.ref (ad 26)] (zPre D cs (wl_X5_readLine ad cs tape_size tape_bytes lr_size lr_at lr_fault lr_code) sz)) (Q_X5_readLine D cs ad tape_size tape_bytes (va_A (wl_X5_readLine ad cs tape_size tape_bytes lr_size lr_at lr_fault lr_code) sz) R) 0 0 (va_A (wl_X5_readLine ad cs tape_size tape_bytes lr_size lr_at lr_fault lr_code) sz) := by
  refine Met.ofW (cc := cX5_readLine) (maxL := 2) (ret := none) (by decide) rfl ?_
  intro p e s m args below meth c s₁ B hml hv
  obtain ⟨rfl, hsz, hP, hK, hD0⟩ := hv
  subst hsz
  have hD := hD0.self (sz := s.heap.size)
  have C0 : zC p s m _ meth c cX5_readLine 2 none RX5 zW := ⟨B.exec, B.bytes, B.returns, hml, findClass_of_methodNamed B.named, fun w hw => atoms_spec (ws := z_X5_readLine) B.pre w (List.mem_cons_of_mem _ hw), B.notSynchronized⟩
  have hA : ∀ q : Nat, s.heap.size ≤ q → va_A (wl_X5_readLine ad cs tape_size tape_bytes lr_size lr_at lr_fault lr_code) s.heap.size q := fun q h => Or.inr h
  have hl := lv_entry ([.ref (ad 26)]) (n := 2) (Nat.le_of_ble_eq_true rfl)
  rw [lg_entry_eq]
  generalize (lg_sl ([.ref (ad 26)]) ++ List.replicate (2 - (lg_sl ([.ref (ad 26)])).length) Slot.unset).toArray = ls at hl ⊢
  exact L_X5_readLine_0 C0 hK hA    lr_size lr_at lr_fault lr_code h s.heap [] ls hP hD va_S.rf hl
