theorem zo_26 {c : ByteArray} {s : Nat} {K : List Nat} (h : zck K (zdu s c.data.toList) = true) (k : Nat) (hk : zt1 K k 26 = true) : decode c (s + k) = .ok (.iload_n 0, 1) := zde ((zbd (zu1 (zh1 h hk))).trans rfl)
theorem zh_cX12_in_0 : zck [26, 27, 161, 0, 12, 26, 28, 163, 0, 7, 4, 167, 0, 4, 3, 172] (zdu 0 cX12_in.data.toList) = true := by decide +kernel
theorem dX12_in_0 : decode cX12_in 0 = .ok (.iload_n 0, 1) := zo_26 zh_cX12_in_0 0 rfl
theorem zo_27 {c : ByteArray} {s : Nat} {K : List Nat} (h : zck K (zdu s c.data.toList) = true) (k : Nat) (hk : zt1 K k 27 = true) : decode c (s + k) = .ok (.iload_n 1, 1) := zde ((zbd (zu1 (zh1 h hk))).trans rfl)
theorem dX12_in_1 : decode cX12_in 1 = .ok (.iload_n 1, 1) := zo_27 zh_cX12_in_0 1 rfl
theorem zo_p161 {c : ByteArray} {s : Nat} {K : List Nat} (h : zck K (zdu s c.data.toList) = true) (k : Nat) (v : Nat) (hk : zt3 K k 161 v = true) (hv : Nat.ble v 32767 = true) : decode c (s + k) = .ok (.if_icmp .lt (Int.ofNat v), 3) := by
  rw [← zsg16 hv]
  exact zde ((zbd (zu1 (zh3 h hk).1)).trans ((zbd (f := fun x => pure (Instr.if_icmp .lt x)) (zdmp (zh3 h hk).2)).trans rfl))
theorem dX12_in_2 : decode cX12_in 2 = .ok (.if_icmp .lt 12, 3) := zo_p161 zh_cX12_in_0 2 12 rfl rfl
theorem dX12_in_5 : decode cX12_in 5 = .ok (.iload_n 0, 1) := zo_26 zh_cX12_in_0 5 rfl
theorem zo_28 {c : ByteArray} {s : Nat} {K : List Nat} (h : zck K (zdu s c.data.toList) = true) (k : Nat) (hk : zt1 K k 28 = true) : decode c (s + k) = .ok (.iload_n 2, 1) := zde ((zbd (zu1 (zh1 h hk))).trans rfl)
theorem dX12_in_6 : decode cX12_in 6 = .ok (.iload_n 2, 1) := zo_28 zh_cX12_in_0 6 rfl
theorem zo_p163 {c : ByteArray} {s : Nat} {K : List Nat} (h : zck K (zdu s c.data.toList) = true) (k : Nat) (v : Nat) (hk : zt3 K k 163 v = true) (hv : Nat.ble v 32767 = true) : decode c (s + k) = .ok (.if_icmp .gt (Int.ofNat v), 3) := by
  rw [← zsg16 hv]
  exact zde ((zbd (zu1 (zh3 h hk).1)).trans ((zbd (f := fun x => pure (Instr.if_icmp .gt x)) (zdmp (zh3 h hk).2)).trans rfl))
theorem dX12_in_7 : decode cX12_in 7 = .ok (.if_icmp .gt 7, 3) := zo_p163 zh_cX12_in_0 7 7 rfl rfl
theorem zo_4 {c : ByteArray} {s : Nat} {K : List Nat} (h : zck K (zdu s c.data.toList) = true) (k : Nat) (hk : zt1 K k 4 = true) : decode c (s + k) = .ok (.iconst 1, 1) := zde ((zbd (zu1 (zh1 h hk))).trans rfl)
theorem dX12_in_10 : decode cX12_in 10 = .ok (.iconst 1, 1) := zo_4 zh_cX12_in_0 10 rfl
theorem zo_p167 {c : ByteArray} {s : Nat} {K : List Nat} (h : zck K (zdu s c.data.toList) = true) (k : Nat) (v : Nat) (hk : zt3 K k 167 v = true) (hv : Nat.ble v 32767 = true) : decode c (s + k) = .ok (.goto (Int.ofNat v), 3) := by
  rw [← zsg16 hv]
  exact zde ((zbd (zu1 (zh3 h hk).1)).trans ((zbd (f := fun x => pure (Instr.goto x)) (zdmp (zh3 h hk).2)).trans rfl))
theorem dX12_in_11 : decode cX12_in 11 = .ok (.goto 4, 3) := zo_p167 zh_cX12_in_0 11 4 rfl rfl
theorem zo_3 {c : ByteArray} {s : Nat} {K : List Nat} (h : zck K (zdu s c.data.toList) = true) (k : Nat) (hk : zt1 K k 3 = true) : decode c (s + k) = .ok (.iconst 0, 1) := zde ((zbd (zu1 (zh1 h hk))).trans rfl)
theorem dX12_in_14 : decode cX12_in 14 = .ok (.iconst 0, 1) := zo_3 zh_cX12_in_0 14 rfl
theorem zo_172 {c : ByteArray} {s : Nat} {K : List Nat} (h : zck K (zdu s c.data.toList) = true) (k : Nat) (hk : zt1 K k 172 = true) : decode c (s + k) = .ok (.ireturn, 1) := zde ((zbd (zu1 (zh1 h hk))).trans rfl)
theorem dX12_in_15 : decode cX12_in 15 = .ok (.ireturn, 1) := zo_172 zh_cX12_in_0 15 rfl
abbrev z_X12_in : List Cond := .code yX12_in cX12_in 3 (some .boolean) :: zW
abbrev wl_X12_in (ad : Nat → Nat) (cs : Nat → ClassId)   : va_W := []
def Q_X12_in (D : va_G) (cs : Nat → ClassId) (ad : Nat → Nat)   (A : Nat → Prop) (R : Int32 × Unit) : Array Value → State → Outcome → State → Prop :=
  va_Qi (fun (r : Int32) (u : Unit) => (r, u) = R) (fun (u : Unit) (t : State) => va_P D classes (wl_X12_in ad cs ) t.heap ∧ va_D A (wl_X12_in ad cs )) A
abbrev rm_X12_in : Room := { frames := 0, cells := 0, slots := 0, locals := 0 }
def B_X12_in_0     (x0 : Int32) (x1 : Int32) (x2 : Int32) : Option (Int32 × Unit) :=
  (if x0 < x1 then (some ((0 : Int32), ())) else (if x2 < x0 then (some ((0 : Int32), ())) else (some ((1 : Int32), ()))))
def f_X12_in   (x0 : Int32) (x1 : Int32) (x2 : Int32)  : Option (Int32 × Unit) := B_X12_in_0    x0 x1 x2 
set_option maxHeartbeats 4000000 in
set_option maxRecDepth 100000 in
theorem L_X12_in_0 {p : Program} {l : Launch} {e : Env} {s : State} {m : MethodId} {args : Array Value} {below : List Frame} {meth : Method} {c : Code} {A : Nat → Prop} {D : va_G} {cs : Nat → ClassId} {ad : Nat → Nat} {R : Int32 × Unit} (C0 : zC p s m args meth c cX12_in 3 (some .boolean) RX12 zW) (hK : va_K D classes (zT cs) s) (hA : ∀ q : Nat, s.heap.size ≤ q → A q) (x0 : Int32) (x1 : Int32) (x2 : Int32) (h : B_X12_in_0 x0 x1 x2 = some R) (H : Heap) (locs : List Loc) (ls : Array Slot) (hP : va_P D classes (wl_X12_in ad cs ) H) (hD : va_D A (wl_X12_in ad cs )) (hS : va_S A s.heap H locs) (hl : lv_has ls 3 [(0, .int x0), (1, .int x1), (2, .int x2)]) : W p l e rm_X12_in s m args below meth c H locs 0 0 (MQ below (Q_X12_in D cs ad  A R) args s 0 0 A) (F0 m 0 ls []) := by
  obtain ⟨hx, hb, hr, hml, hown, ht, hlocks⟩ := id C0
  refine lv_iload_n hx hb dX12_in_0 rfl (lv_at hl 0 rfl) ?_
  refine lv_iload_n hx hb dX12_in_1 rfl (lv_at hl 1 rfl) ?_
  refine lv_icmp_lt (tgt := 14) hx hb dX12_in_2 (by decide) (fun c_1 => ?_) (fun c_1 => ?_)
  · have h := zk_t c_1 h
    refine lv_iconst (v := (0 : Int32)) hx hb dX12_in_14 (by decide) ?_
    exact W.zret (ty := .boolean) (v := (0 : Int32)) hx hb hr rfl (fun t ht2 hW => ⟨⟨(0 : Int32), (), rfl, Option.some.inj h, by rw [ht2]; exact hP, hD⟩, hS.F ht2⟩) hS.2.2 dX12_in_15 hlocks
  · have h := zk_f c_1 h
    refine lv_iload_n hx hb dX12_in_5 rfl (lv_at hl 0 rfl) ?_
    refine lv_iload_n hx hb dX12_in_6 rfl (lv_at hl 2 rfl) ?_
    refine lv_icmp_gt (tgt := 14) hx hb dX12_in_7 (by decide) (fun c_2 => ?_) (fun c_2 => ?_)
    · have h := zk_t c_2 h
      refine lv_iconst (v := (0 : Int32)) hx hb dX12_in_14 (by decide) ?_
      exact W.zret (ty := .boolean) (v := (0 : Int32)) hx hb hr rfl (fun t ht2 hW => ⟨⟨(0 : Int32), (), rfl, Option.some.inj h, by rw [ht2]; exact hP, hD⟩, hS.F ht2⟩) hS.2.2 dX12_in_15 hlocks
    · have h := zk_f c_2 h
      refine lv_iconst (v := (1 : Int32)) hx hb dX12_in_10 (by decide) ?_
      refine lv_goto (tgt := 15) hx hb dX12_in_11 (by decide) ?_
      exact W.zret (ty := .boolean) (v := (1 : Int32)) hx hb hr rfl (fun t ht2 hW => ⟨⟨(1 : Int32), (), rfl, Option.some.inj h, by rw [ht2]; exact hP, hD⟩, hS.F ht2⟩) hS.2.2 dX12_in_15 hlocks
set_option maxHeartbeats 4000000 in
set_option maxRecDepth 100000 in
theorem c_X12_in (l : Launch) (D : va_G) (cs : Nat → ClassId) (ad : Nat → Nat) (sz : Nat) (x0 : Int32) (x1 : Int32) (x2 : Int32)  (R : Int32 × Unit) (h : f_X12_in   x0 x1 x2  = some R) : Met l yX12_in (z_X12_in) rm_X12_in (va_Pc [.int x0, .int x1, .int x2] (zPre D cs (wl_X12_in ad cs ) sz)) (Q_X12_in D cs ad  (va_A (wl_X12_in ad cs ) sz) R) 0 0 (va_A (wl_X12_in ad cs ) sz) := by
  refine Met.ofW (cc := cX12_in) (maxL := 3) (ret := (some .boolean)) (by decide) rfl ?_
  intro p e s m args below meth c s₁ B hml hv
  obtain ⟨rfl, hsz, hP, hK, hD0⟩ := hv
  subst hsz
  have hD := hD0.self (sz := s.heap.size)
  have C0 : zC p s m _ meth c cX12_in 3 (some .boolean) RX12 zW := ⟨B.exec, B.bytes, B.returns, hml, findClass_of_methodNamed B.named, fun w hw => atoms_spec (ws := z_X12_in) B.pre w (List.mem_cons_of_mem _ hw), B.notSynchronized⟩
  have hA : ∀ q : Nat, s.heap.size ≤ q → va_A (wl_X12_in ad cs ) s.heap.size q := fun q h => Or.inr h
  have hl := lv_entry ([.int x0, .int x1, .int x2]) (n := 3) (Nat.le_of_ble_eq_true rfl)
  rw [lg_entry_eq]
  generalize (lg_sl ([.int x0, .int x1, .int x2]) ++ List.replicate (3 - (lg_sl ([.int x0, .int x1, .int x2])).length) Slot.unset).toArray = ls at hl ⊢
  exact L_X12_in_0 C0 hK hA   x0 x1 x2  h s.heap [] ls hP hD va_S.rf hl
theorem kw_95 : Cond.initialized RX12 ∈ zW := zwC (i := 21) zc_1 rfl rfl
theorem kw_1485 : Cond.methodLink RX12 147 yX12_in ∈ zW := zwC (i := 211) zc_6 rfl rfl
theorem kw_1486 : Cond.static yX12_in ∈ zW := zwC (i := 212) zc_6 rfl rfl
theorem kw_1487 : Cond.code yX12_in cX12_in 3 (some .boolean) ∈ zW := zwC (i := 213) zc_6 rfl rfl
theorem zh_cX12_isDay_0 : zck [26, 3, 17, 39, 15, 184, 0, 147, 172] (zdu 0 cX12_isDay.data.toList) = true := by decide +kernel
theorem dX12_isDay_0 : decode cX12_isDay 0 = .ok (.iload_n 0, 1) := zo_26 zh_cX12_isDay_0 0 rfl
theorem dX12_isDay_1 : decode cX12_isDay 1 = .ok (.iconst 0, 1) := zo_3 zh_cX12_isDay_0 1 rfl
theorem zo_p17 {c : ByteArray} {s : Nat} {K : List Nat} (h : zck K (zdu s c.data.toList) = true) (k : Nat) (v : Nat) (hk : zt3 K k 17 v = true) (hv : Nat.ble v 32767 = true) : decode c (s + k) = .ok (.sipush (Int.ofNat v), 3) := by
  rw [← zsg16 hv]
  exact zde ((zbd (zu1 (zh3 h hk).1)).trans ((zbd (f := fun x => pure (Instr.sipush x)) (zdmp (zh3 h hk).2)).trans rfl))
theorem dX12_isDay_2 : decode cX12_isDay 2 = .ok (.sipush 9999, 3) := zo_p17 zh_cX12_isDay_0 2 9999 rfl rfl
theorem zo_184 {c : ByteArray} {s : Nat} {K : List Nat} (h : zck K (zdu s c.data.toList) = true) (k : Nat) {v : Nat} (hk : zt3 K k 184 v = true) : decode c (s + k) = .ok (.invokestatic v, 3) := zde ((zbd (zu1 (zh3 h hk).1)).trans ((zbd (f := fun x => pure (Instr.invokestatic x)) (zh3 h hk).2).trans rfl))
theorem dX12_isDay_5 : decode cX12_isDay 5 = .ok (.invokestatic 147, 3) := zo_184 zh_cX12_isDay_0 5 rfl
theorem dX12_isDay_8 : decode cX12_isDay 8 = .ok (.ireturn, 1) := zo_172 zh_cX12_isDay_0 8 rfl
abbrev z_X12_isDay : List Cond := .code yX12_isDay cX12_isDay 1 (some .boolean) :: zW
abbrev wl_X12_isDay (ad : Nat → Nat) (cs : Nat → ClassId)   : va_W := []
def Q_X12_isDay (D : va_G) (cs : Nat → ClassId) (ad : Nat → Nat)   (A : Nat → Prop) (R : Int32 × Unit) : Array Value → State → Outcome → State → Prop :=
  va_Qi (fun (r : Int32) (u : Unit) => (r, u) = R) (fun (u : Unit) (t : State) => va_P D classes (wl_X12_isDay ad cs ) t.heap ∧ va_D A (wl_X12_isDay ad cs )) A
abbrev rm_X12_isDay : Room := { frames := 1, cells := 0, slots := 0, locals := 22 }
theorem g_X12_147 : GoodIn zW (va_wsS RX12 147 yX12_in z_X12_in) := zGS kw_1485 kw_1486 kw_95 kw_1487
theorem hd_X12_in : yX12_in.cls ≠ "java/lang/invoke/MethodHandle" ∧ yX12_in.cls ≠ "java/lang/invoke/VarHandle" ∧ (parseMethodDescriptor yX12_in.desc).map (fun d => d.parameters.length) = some 3 := by decide +kernel
def B_X12_isDay_0     (x0 : Int32) : Option (Int32 × Unit) :=
  (zk_b2 (f_X12_in x0 (0 : Int32) (9999 : Int32)) (fun r_1 u_2 => (if ¬ (r_1 = 0 ∨ r_1 = 1) then none else (some (r_1, ())))))
def f_X12_isDay   (x0 : Int32)  : Option (Int32 × Unit) := B_X12_isDay_0    x0 
set_option maxHeartbeats 4000000 in
set_option maxRecDepth 100000 in
theorem L_X12_isDay_0 {p : Program} {l : Launch} {e : Env} {s : State} {m : MethodId} {args : Array Value} {below : List Frame} {meth : Method} {c : Code} {A : Nat → Prop} {D : va_G} {cs : Nat → ClassId} {ad : Nat → Nat} {R : Int32 × Unit} (C0 : zC p s m args meth c cX12_isDay 1 (some .boolean) RX12 zW) (hK : va_K D classes (zT cs) s) (hA : ∀ q : Nat, s.heap.size ≤ q → A q) (x0 : Int32) (h : B_X12_isDay_0 x0 = some R) (H : Heap) (locs : List Loc) (ls : Array Slot) (hP : va_P D classes (wl_X12_isDay ad cs ) H) (hD : va_D A (wl_X12_isDay ad cs )) (hS : va_S A s.heap H locs) (hl : lv_has ls 1 [(0, .int x0)]) : W p l e rm_X12_isDay s m args below meth c H locs 0 0 (MQ below (Q_X12_isDay D cs ad  A R) args s 0 0 A) (F0 m 0 ls []) := by
  obtain ⟨hx, hb, hr, hml, hown, ht, hlocks⟩ := id C0
  refine lv_iload_n hx hb dX12_isDay_0 rfl (lv_at hl 0 rfl) ?_
  refine lv_iconst (v := (0 : Int32)) hx hb dX12_isDay_1 (by decide) ?_
  refine lv_sipush (v := (9999 : Int32)) hx hb dX12_isDay_2 (by decide) ?_
  obtain ⟨r_1, u_2, hc_3, h⟩ := zk_o2 h
  refine zz_si (post := (fun r u => (r, u) = (r_1, u_2))) (w1 := fun u => (wl_X12_in ad cs )) (As := [.int x0, .int (0 : Int32), .int (9999 : Int32)]) (rest := []) (c_X12_in l D cs ad  H.size x0 (0 : Int32) (9999 : Int32) (r_1, u_2) hc_3) ⟨hx, hb, hml, hown, ht⟩ (va_cwS 3 ht g_X12_147 rfl rfl rfl hd_X12_in ⟨Nat.le_of_ble_eq_true rfl, Nat.le_of_ble_eq_true rfl⟩) hP hD hS hK hA [] rfl rfl [] rfl (fun _ => rfl) rfl hl.1 (Nat.le_of_ble_eq_true rfl) dX12_isDay_5 ⟨Nat.zero_le _, Nat.zero_le _⟩ (fun r u H locs hq hP hS => ?_)
  cases hq
  have hP : va_P D classes (wl_X12_isDay ad cs ) H := hP
  obtain ⟨g_4, h⟩ := zk_gd h
  exact W.zret (ty := .boolean) (v := r_1) hx hb hr (zk_nz g_4) (fun t ht2 hW => ⟨⟨r_1, (), rfl, Option.some.inj h, by rw [ht2]; exact hP, hD⟩, hS.F ht2⟩) hS.2.2 dX12_isDay_8 hlocks
set_option maxHeartbeats 4000000 in
set_option maxRecDepth 100000 in
theorem c_X12_isDay (l : Launch) (D : va_G) (cs : Nat → ClassId) (ad : Nat → Nat) (sz : Nat) (x0 : Int32)  (R : Int32 × Unit) (h : f_X12_isDay   x0  = some R) : Met l yX12_isDay (z_X12_isDay) rm_X12_isDay (va_Pc [.int x0] (zPre D cs (wl_X12_isDay ad cs ) sz)) (Q_X12_isDay D cs ad  (va_A (wl_X12_isDay ad cs ) sz) R) 0 0 (va_A (wl_X12_isDay ad cs ) sz) := by
  refine Met.ofW (cc := cX12_isDay) (maxL := 1) (ret := (some .boolean)) (by decide) rfl ?_
  intro p e s m args below meth c s₁ B hml hv
  obtain ⟨rfl, hsz, hP, hK, hD0⟩ := hv
  subst hsz
  have hD := hD0.self (sz := s.heap.size)
  have C0 : zC p s m _ meth c cX12_isDay 1 (some .boolean) RX12 zW := ⟨B.exec, B.bytes, B.returns, hml, findClass_of_methodNamed B.named, fun w hw => atoms_spec (ws := z_X12_isDay) B.pre w (List.mem_cons_of_mem _ hw), B.notSynchronized⟩
  have hA : ∀ q : Nat, s.heap.size ≤ q → va_A (wl_X12_isDay ad cs ) s.heap.size q := fun q h => Or.inr h
  have hl := lv_entry ([.int x0]) (n := 1) (Nat.le_of_ble_eq_true rfl)
  rw [lg_entry_eq]
  generalize (lg_sl ([.int x0]) ++ List.replicate (1 - (lg_sl ([.int x0])).length) Slot.unset).toArray = ls at hl ⊢
  exact L_X12_isDay_0 C0 hK hA   x0  h s.heap [] ls hP hD va_S.rf hl
theorem zh_cX12_isLand_0 : zck [26, 3, 16, 7, 184, 0, 147, 172] (zdu 0 cX12_isLand.data.toList) = true := by decide +kernel
theorem dX12_isLand_0 : decode cX12_isLand 0 = .ok (.iload_n 0, 1) := zo_26 zh_cX12_isLand_0 0 rfl
theorem dX12_isLand_1 : decode cX12_isLand 1 = .ok (.iconst 0, 1) := zo_3 zh_cX12_isLand_0 1 rfl
theorem zo_p16 {c : ByteArray} {s : Nat} {K : List Nat} (h : zck K (zdu s c.data.toList) = true) (k : Nat) (v : Nat) (hk : zt2 K k 16 v = true) (hv : Nat.ble v 127 = true) : decode c (s + k) = .ok (.bipush (Int.ofNat v), 2) := by
  rw [← zsg8 hv]
  exact zde ((zbd (zu1 (zh2 h hk).1)).trans ((zbd (f := fun x => pure (Instr.bipush x)) (zdmp (zh2 h hk).2)).trans rfl))
theorem dX12_isLand_2 : decode cX12_isLand 2 = .ok (.bipush 7, 2) := zo_p16 zh_cX12_isLand_0 2 7 rfl rfl
theorem dX12_isLand_4 : decode cX12_isLand 4 = .ok (.invokestatic 147, 3) := zo_184 zh_cX12_isLand_0 4 rfl
theorem dX12_isLand_7 : decode cX12_isLand 7 = .ok (.ireturn, 1) := zo_172 zh_cX12_isLand_0 7 rfl
abbrev z_X12_isLand : List Cond := .code yX12_isLand cX12_isLand 1 (some .boolean) :: zW
abbrev wl_X12_isLand (ad : Nat → Nat) (cs : Nat → ClassId)   : va_W := []
def Q_X12_isLand (D : va_G) (cs : Nat → ClassId) (ad : Nat → Nat)   (A : Nat → Prop) (R : Int32 × Unit) : Array Value → State → Outcome → State → Prop :=
  va_Qi (fun (r : Int32) (u : Unit) => (r, u) = R) (fun (u : Unit) (t : State) => va_P D classes (wl_X12_isLand ad cs ) t.heap ∧ va_D A (wl_X12_isLand ad cs )) A
abbrev rm_X12_isLand : Room := { frames := 1, cells := 0, slots := 0, locals := 22 }
def B_X12_isLand_0     (x0 : Int32) : Option (Int32 × Unit) :=
  (zk_b2 (f_X12_in x0 (0 : Int32) (7 : Int32)) (fun r_1 u_2 => (if ¬ (r_1 = 0 ∨ r_1 = 1) then none else (some (r_1, ())))))
def f_X12_isLand   (x0 : Int32)  : Option (Int32 × Unit) := B_X12_isLand_0    x0 
set_option maxHeartbeats 4000000 in
set_option maxRecDepth 100000 in
theorem L_X12_isLand_0 {p : Program} {l : Launch} {e : Env} {s : State} {m : MethodId} {args : Array Value} {below : List Frame} {meth : Method} {c : Code} {A : Nat → Prop} {D : va_G} {cs : Nat → ClassId} {ad : Nat → Nat} {R : Int32 × Unit} (C0 : zC p s m args meth c cX12_isLand 1 (some .boolean) RX12 zW) (hK : va_K D classes (zT cs) s) (hA : ∀ q : Nat, s.heap.size ≤ q → A q) (x0 : Int32) (h : B_X12_isLand_0 x0 = some R) (H : Heap) (locs : List Loc) (ls : Array Slot) (hP : va_P D classes (wl_X12_isLand ad cs ) H) (hD : va_D A (wl_X12_isLand ad cs )) (hS : va_S A s.heap H locs) (hl : lv_has ls 1 [(0, .int x0)]) : W p l e rm_X12_isLand s m args below meth c H locs 0 0 (MQ below (Q_X12_isLand D cs ad  A R) args s 0 0 A) (F0 m 0 ls []) := by
  obtain ⟨hx, hb, hr, hml, hown, ht, hlocks⟩ := id C0
  refine lv_iload_n hx hb dX12_isLand_0 rfl (lv_at hl 0 rfl) ?_
  refine lv_iconst (v := (0 : Int32)) hx hb dX12_isLand_1 (by decide) ?_
  refine lv_bipush (v := (7 : Int32)) hx hb dX12_isLand_2 (by decide) ?_
  obtain ⟨r_1, u_2, hc_3, h⟩ := zk_o2 h
  refine zz_si (post := (fun r u => (r, u) = (r_1, u_2))) (w1 := fun u => (wl_X12_in ad cs )) (As := [.int x0, .int (0 : Int32), .int (7 : Int32)]) (rest := []) (c_X12_in l D cs ad  H.size x0 (0 : Int32) (7 : Int32) (r_1, u_2) hc_3) ⟨hx, hb, hml, hown, ht⟩ (va_cwS 3 ht g_X12_147 rfl rfl rfl hd_X12_in ⟨Nat.le_of_ble_eq_true rfl, Nat.le_of_ble_eq_true rfl⟩) hP hD hS hK hA [] rfl rfl [] rfl (fun _ => rfl) rfl hl.1 (Nat.le_of_ble_eq_true rfl) dX12_isLand_4 ⟨Nat.zero_le _, Nat.zero_le _⟩ (fun r u H locs hq hP hS => ?_)
  cases hq
  have hP : va_P D classes (wl_X12_isLand ad cs ) H := hP
  obtain ⟨g_4, h⟩ := zk_gd h
  exact W.zret (ty := .boolean) (v := r_1) hx hb hr (zk_nz g_4) (fun t ht2 hW => ⟨⟨r_1, (), rfl, Option.some.inj h, by rw [ht2]; exact hP, hD⟩, hS.F ht2⟩) hS.2.2 dX12_isLand_7 hlocks
set_option maxHeartbeats 4000000 in
set_option maxRecDepth 100000 in
theorem c_X12_isLand (l : Launch) (D : va_G) (cs : Nat → ClassId) (ad : Nat → Nat) (sz : Nat) (x0 : Int32)  (R : Int32 × Unit) (h : f_X12_isLand   x0  = some R) : Met l yX12_isLand (z_X12_isLand) rm_X12_isLand (va_Pc [.int x0] (zPre D cs (wl_X12_isLand ad cs ) sz)) (Q_X12_isLand D cs ad  (va_A (wl_X12_isLand ad cs ) sz) R) 0 0 (va_A (wl_X12_isLand ad cs ) sz) := by
  refine Met.ofW (cc := cX12_isLand) (maxL := 1) (ret := (some .boolean)) (by decide) rfl ?_
  intro p e s m args below meth c s₁ B hml hv
  obtain ⟨rfl, hsz, hP, hK, hD0⟩ := hv
  subst hsz
  have hD := hD0.self (sz := s.heap.size)
  have C0 : zC p s m _ meth c cX12_isLand 1 (some .boolean) RX12 zW := ⟨B.exec, B.bytes, B.returns, hml, findClass_of_methodNamed B.named, fun w hw => atoms_spec (ws := z_X12_isLand) B.pre w (List.mem_cons_of_mem _ hw), B.notSynchronized⟩
  have hA : ∀ q : Nat, s.heap.size ≤ q → va_A (wl_X12_isLand ad cs ) s.heap.size q := fun q h => Or.inr h
  have hl := lv_entry ([.int x0]) (n := 1) (Nat.le_of_ble_eq_true rfl)
  rw [lg_entry_eq]
  generalize (lg_sl ([.int x0]) ++ List.replicate (1 - (lg_sl ([.int x0])).length) Slot.unset).toArray = ls at hl ⊢
  exact L_X12_isLand_0 C0 hK hA   x0  h s.heap [] ls hP hD va_S.rf hl
theorem zh_cX12_isPair_0 : zck [26, 155, 0, 25, 26, 16, 100, 108, 16, 20, 162, 0, 16, 26, 16, 100, 112, 16, 20, 162, 0, 7] (zdu 0 cX12_isPair.data.toList) = true := by decide +kernel
theorem dX12_isPair_0 : decode cX12_isPair 0 = .ok (.iload_n 0, 1) := zo_26 zh_cX12_isPair_0 0 rfl
theorem zo_p155 {c : ByteArray} {s : Nat} {K : List Nat} (h : zck K (zdu s c.data.toList) = true) (k : Nat) (v : Nat) (hk : zt3 K k 155 v = true) (hv : Nat.ble v 32767 = true) : decode c (s + k) = .ok (.ifCond .lt (Int.ofNat v), 3) := by
  rw [← zsg16 hv]
  exact zde ((zbd (zu1 (zh3 h hk).1)).trans ((zbd (f := fun x => pure (Instr.ifCond .lt x)) (zdmp (zh3 h hk).2)).trans rfl))
theorem dX12_isPair_1 : decode cX12_isPair 1 = .ok (.ifCond .lt 25, 3) := zo_p155 zh_cX12_isPair_0 1 25 rfl rfl
theorem dX12_isPair_4 : decode cX12_isPair 4 = .ok (.iload_n 0, 1) := zo_26 zh_cX12_isPair_0 4 rfl
theorem dX12_isPair_5 : decode cX12_isPair 5 = .ok (.bipush 100, 2) := zo_p16 zh_cX12_isPair_0 5 100 rfl rfl
theorem zo_108 {c : ByteArray} {s : Nat} {K : List Nat} (h : zck K (zdu s c.data.toList) = true) (k : Nat) (hk : zt1 K k 108 = true) : decode c (s + k) = .ok (.idiv, 1) := zde ((zbd (zu1 (zh1 h hk))).trans rfl)
theorem dX12_isPair_7 : decode cX12_isPair 7 = .ok (.idiv, 1) := zo_108 zh_cX12_isPair_0 7 rfl
theorem dX12_isPair_8 : decode cX12_isPair 8 = .ok (.bipush 20, 2) := zo_p16 zh_cX12_isPair_0 8 20 rfl rfl
theorem zo_p162 {c : ByteArray} {s : Nat} {K : List Nat} (h : zck K (zdu s c.data.toList) = true) (k : Nat) (v : Nat) (hk : zt3 K k 162 v = true) (hv : Nat.ble v 32767 = true) : decode c (s + k) = .ok (.if_icmp .ge (Int.ofNat v), 3) := by
  rw [← zsg16 hv]
  exact zde ((zbd (zu1 (zh3 h hk).1)).trans ((zbd (f := fun x => pure (Instr.if_icmp .ge x)) (zdmp (zh3 h hk).2)).trans rfl))
theorem dX12_isPair_10 : decode cX12_isPair 10 = .ok (.if_icmp .ge 16, 3) := zo_p162 zh_cX12_isPair_0 10 16 rfl rfl
theorem dX12_isPair_13 : decode cX12_isPair 13 = .ok (.iload_n 0, 1) := zo_26 zh_cX12_isPair_0 13 rfl
theorem dX12_isPair_14 : decode cX12_isPair 14 = .ok (.bipush 100, 2) := zo_p16 zh_cX12_isPair_0 14 100 rfl rfl
theorem zo_112 {c : ByteArray} {s : Nat} {K : List Nat} (h : zck K (zdu s c.data.toList) = true) (k : Nat) (hk : zt1 K k 112 = true) : decode c (s + k) = .ok (.irem, 1) := zde ((zbd (zu1 (zh1 h hk))).trans rfl)
theorem dX12_isPair_16 : decode cX12_isPair 16 = .ok (.irem, 1) := zo_112 zh_cX12_isPair_0 16 rfl
theorem dX12_isPair_17 : decode cX12_isPair 17 = .ok (.bipush 20, 2) := zo_p16 zh_cX12_isPair_0 17 20 rfl rfl
theorem dX12_isPair_19 : decode cX12_isPair 19 = .ok (.if_icmp .ge 7, 3) := zo_p162 zh_cX12_isPair_0 19 7 rfl rfl
theorem zh_cX12_isPair_1 : zck [0, 7, 4, 167, 0, 4, 3, 172] (zdu 20 cX12_isPair.data.toList) = true := by decide +kernel
theorem dX12_isPair_22 : decode cX12_isPair 22 = .ok (.iconst 1, 1) := zo_4 zh_cX12_isPair_1 2 rfl
theorem dX12_isPair_23 : decode cX12_isPair 23 = .ok (.goto 4, 3) := zo_p167 zh_cX12_isPair_1 3 4 rfl rfl
theorem dX12_isPair_26 : decode cX12_isPair 26 = .ok (.iconst 0, 1) := zo_3 zh_cX12_isPair_1 6 rfl
theorem dX12_isPair_27 : decode cX12_isPair 27 = .ok (.ireturn, 1) := zo_172 zh_cX12_isPair_1 7 rfl
abbrev z_X12_isPair : List Cond := .code yX12_isPair cX12_isPair 1 (some .boolean) :: zW
abbrev wl_X12_isPair (ad : Nat → Nat) (cs : Nat → ClassId)   : va_W := []
def Q_X12_isPair (D : va_G) (cs : Nat → ClassId) (ad : Nat → Nat)   (A : Nat → Prop) (R : Int32 × Unit) : Array Value → State → Outcome → State → Prop :=
  va_Qi (fun (r : Int32) (u : Unit) => (r, u) = R) (fun (u : Unit) (t : State) => va_P D classes (wl_X12_isPair ad cs ) t.heap ∧ va_D A (wl_X12_isPair ad cs )) A
abbrev rm_X12_isPair : Room := { frames := 0, cells := 0, slots := 0, locals := 0 }
def B_X12_isPair_0     (x0 : Int32) : Option (Int32 × Unit) :=
  (if x0 < 0 then (some ((0 : Int32), ())) else (if (20 : Int32) ≤ (x0 / (100 : Int32)) then (some ((0 : Int32), ())) else (if (20 : Int32) ≤ (x0 - x0 / (100 : Int32) * (100 : Int32)) then (some ((0 : Int32), ())) else (some ((1 : Int32), ())))))
def f_X12_isPair   (x0 : Int32)  : Option (Int32 × Unit) := B_X12_isPair_0    x0 
set_option maxHeartbeats 4000000 in
set_option maxRecDepth 100000 in
theorem L_X12_isPair_0 {p : Program} {l : Launch} {e : Env} {s : State} {m : MethodId} {args : Array Value} {below : List Frame} {meth : Method} {c : Code} {A : Nat → Prop} {D : va_G} {cs : Nat → ClassId} {ad : Nat → Nat} {R : Int32 × Unit} (C0 : zC p s m args meth c cX12_isPair 1 (some .boolean) RX12 zW) (hK : va_K D classes (zT cs) s) (hA : ∀ q : Nat, s.heap.size ≤ q → A q) (x0 : Int32) (h : B_X12_isPair_0 x0 = some R) (H : Heap) (locs : List Loc) (ls : Array Slot) (hP : va_P D classes (wl_X12_isPair ad cs ) H) (hD : va_D A (wl_X12_isPair ad cs )) (hS : va_S A s.heap H locs) (hl : lv_has ls 1 [(0, .int x0)]) : W p l e rm_X12_isPair s m args below meth c H locs 0 0 (MQ below (Q_X12_isPair D cs ad  A R) args s 0 0 A) (F0 m 0 ls []) := by
  obtain ⟨hx, hb, hr, hml, hown, ht, hlocks⟩ := id C0
  refine lv_iload_n hx hb dX12_isPair_0 rfl (lv_at hl 0 rfl) ?_
  refine lv_if_lt (tgt := 26) hx hb dX12_isPair_1 (by decide) (fun c_1 => ?_) (fun c_1 => ?_)
  · have h := zk_t c_1 h
    refine lv_iconst (v := (0 : Int32)) hx hb dX12_isPair_26 (by decide) ?_
    exact W.zret (ty := .boolean) (v := (0 : Int32)) hx hb hr rfl (fun t ht2 hW => ⟨⟨(0 : Int32), (), rfl, Option.some.inj h, by rw [ht2]; exact hP, hD⟩, hS.F ht2⟩) hS.2.2 dX12_isPair_27 hlocks
  · have h := zk_f c_1 h
    refine lv_iload_n hx hb dX12_isPair_4 rfl (lv_at hl 0 rfl) ?_
    refine lv_bipush (v := (100 : Int32)) hx hb dX12_isPair_5 (by decide) ?_
    refine lv_idiv hx hb dX12_isPair_7 (by decide) ?_
    refine lv_bipush (v := (20 : Int32)) hx hb dX12_isPair_8 (by decide) ?_
    refine lv_icmp_ge (tgt := 26) hx hb dX12_isPair_10 (by decide) (fun c_2 => ?_) (fun c_2 => ?_)
    · have h := zk_t c_2 h
      refine lv_iconst (v := (0 : Int32)) hx hb dX12_isPair_26 (by decide) ?_
      exact W.zret (ty := .boolean) (v := (0 : Int32)) hx hb hr rfl (fun t ht2 hW => ⟨⟨(0 : Int32), (), rfl, Option.some.inj h, by rw [ht2]; exact hP, hD⟩, hS.F ht2⟩) hS.2.2 dX12_isPair_27 hlocks
    · have h := zk_f c_2 h
      refine lv_iload_n hx hb dX12_isPair_13 rfl (lv_at hl 0 rfl) ?_
      refine lv_bipush (v := (100 : Int32)) hx hb dX12_isPair_14 (by decide) ?_
      refine lv_irem hx hb dX12_isPair_16 (by decide) ?_
      refine lv_bipush (v := (20 : Int32)) hx hb dX12_isPair_17 (by decide) ?_
      refine lv_icmp_ge (tgt := 26) hx hb dX12_isPair_19 (by decide) (fun c_3 => ?_) (fun c_3 => ?_)
      · have h := zk_t c_3 h
        refine lv_iconst (v := (0 : Int32)) hx hb dX12_isPair_26 (by decide) ?_
        exact W.zret (ty := .boolean) (v := (0 : Int32)) hx hb hr rfl (fun t ht2 hW => ⟨⟨(0 : Int32), (), rfl, Option.some.inj h, by rw [ht2]; exact hP, hD⟩, hS.F ht2⟩) hS.2.2 dX12_isPair_27 hlocks
      · have h := zk_f c_3 h
        refine lv_iconst (v := (1 : Int32)) hx hb dX12_isPair_22 (by decide) ?_
        refine lv_goto (tgt := 27) hx hb dX12_isPair_23 (by decide) ?_
        exact W.zret (ty := .boolean) (v := (1 : Int32)) hx hb hr rfl (fun t ht2 hW => ⟨⟨(1 : Int32), (), rfl, Option.some.inj h, by rw [ht2]; exact hP, hD⟩, hS.F ht2⟩) hS.2.2 dX12_isPair_27 hlocks
set_option maxHeartbeats 4000000 in
set_option maxRecDepth 100000 in
theorem c_X12_isPair (l : Launch) (D : va_G) (cs : Nat → ClassId) (ad : Nat → Nat) (sz : Nat) (x0 : Int32)  (R : Int32 × Unit) (h : f_X12_isPair   x0  = some R) : Met l yX12_isPair (z_X12_isPair) rm_X12_isPair (va_Pc [.int x0] (zPre D cs (wl_X12_isPair ad cs ) sz)) (Q_X12_isPair D cs ad  (va_A (wl_X12_isPair ad cs ) sz) R) 0 0 (va_A (wl_X12_isPair ad cs ) sz) := by
  refine Met.ofW (cc := cX12_isPair) (maxL := 1) (ret := (some .boolean)) (by decide) rfl ?_
  intro p e s m args below meth c s₁ B hml hv
  obtain ⟨rfl, hsz, hP, hK, hD0⟩ := hv
  subst hsz
  have hD := hD0.self (sz := s.heap.size)
  have C0 : zC p s m _ meth c cX12_isPair 1 (some .boolean) RX12 zW := ⟨B.exec, B.bytes, B.returns, hml, findClass_of_methodNamed B.named, fun w hw => atoms_spec (ws := z_X12_isPair) B.pre w (List.mem_cons_of_mem _ hw), B.notSynchronized⟩
  have hA : ∀ q : Nat, s.heap.size ≤ q → va_A (wl_X12_isPair ad cs ) s.heap.size q := fun q h => Or.inr h
  have hl := lv_entry ([.int x0]) (n := 1) (Nat.le_of_ble_eq_true rfl)
  rw [lg_entry_eq]
  generalize (lg_sl ([.int x0]) ++ List.replicate (1 - (lg_sl ([.int x0])).length) Slot.unset).toArray = ls at hl ⊢
  exact L_X12_isPair_0 C0 hK hA   x0  h s.heap [] ls hP hD va_S.rf hl
theorem kw_1488 : Cond.methodLink RX12 151 yX12_isDay ∈ zW := zwC (i := 214) zc_6 rfl rfl
theorem kw_1489 : Cond.static yX12_isDay ∈ zW := zwC (i := 215) zc_6 rfl rfl
theorem kw_1490 : Cond.code yX12_isDay cX12_isDay 1 (some .boolean) ∈ zW := zwC (i := 216) zc_6 rfl rfl
theorem kw_1619 : Cond.methodLink RX12 155 yX12_isLand ∈ zW := zwC (i := 105) zc_7 rfl rfl
theorem kw_1620 : Cond.static yX12_isLand ∈ zW := zwC (i := 106) zc_7 rfl rfl
theorem kw_1621 : Cond.code yX12_isLand cX12_isLand 1 (some .boolean) ∈ zW := zwC (i := 107) zc_7 rfl rfl
theorem zh_cX12_isWhen_0 : zck [26, 155, 0, 27, 26, 16, 10, 108, 184, 0, 151, 153, 0, 17, 26, 16, 10, 112, 184, 0, 155, 153] (zdu 0 cX12_isWhen.data.toList) = true := by decide +kernel
theorem dX12_isWhen_0 : decode cX12_isWhen 0 = .ok (.iload_n 0, 1) := zo_26 zh_cX12_isWhen_0 0 rfl
theorem dX12_isWhen_1 : decode cX12_isWhen 1 = .ok (.ifCond .lt 27, 3) := zo_p155 zh_cX12_isWhen_0 1 27 rfl rfl
theorem dX12_isWhen_4 : decode cX12_isWhen 4 = .ok (.iload_n 0, 1) := zo_26 zh_cX12_isWhen_0 4 rfl
theorem dX12_isWhen_5 : decode cX12_isWhen 5 = .ok (.bipush 10, 2) := zo_p16 zh_cX12_isWhen_0 5 10 rfl rfl
theorem dX12_isWhen_7 : decode cX12_isWhen 7 = .ok (.idiv, 1) := zo_108 zh_cX12_isWhen_0 7 rfl
theorem dX12_isWhen_8 : decode cX12_isWhen 8 = .ok (.invokestatic 151, 3) := zo_184 zh_cX12_isWhen_0 8 rfl
theorem zo_p153 {c : ByteArray} {s : Nat} {K : List Nat} (h : zck K (zdu s c.data.toList) = true) (k : Nat) (v : Nat) (hk : zt3 K k 153 v = true) (hv : Nat.ble v 32767 = true) : decode c (s + k) = .ok (.ifCond .eq (Int.ofNat v), 3) := by
  rw [← zsg16 hv]
  exact zde ((zbd (zu1 (zh3 h hk).1)).trans ((zbd (f := fun x => pure (Instr.ifCond .eq x)) (zdmp (zh3 h hk).2)).trans rfl))
theorem dX12_isWhen_11 : decode cX12_isWhen 11 = .ok (.ifCond .eq 17, 3) := zo_p153 zh_cX12_isWhen_0 11 17 rfl rfl
theorem dX12_isWhen_14 : decode cX12_isWhen 14 = .ok (.iload_n 0, 1) := zo_26 zh_cX12_isWhen_0 14 rfl
theorem dX12_isWhen_15 : decode cX12_isWhen 15 = .ok (.bipush 10, 2) := zo_p16 zh_cX12_isWhen_0 15 10 rfl rfl
theorem dX12_isWhen_17 : decode cX12_isWhen 17 = .ok (.irem, 1) := zo_112 zh_cX12_isWhen_0 17 rfl
theorem dX12_isWhen_18 : decode cX12_isWhen 18 = .ok (.invokestatic 155, 3) := zo_184 zh_cX12_isWhen_0 18 rfl
theorem zh_cX12_isWhen_1 : zck [155, 153, 0, 7, 4, 167, 0, 4, 3, 172] (zdu 20 cX12_isWhen.data.toList) = true := by decide +kernel
theorem dX12_isWhen_21 : decode cX12_isWhen 21 = .ok (.ifCond .eq 7, 3) := zo_p153 zh_cX12_isWhen_1 1 7 rfl rfl
theorem dX12_isWhen_24 : decode cX12_isWhen 24 = .ok (.iconst 1, 1) := zo_4 zh_cX12_isWhen_1 4 rfl
theorem dX12_isWhen_25 : decode cX12_isWhen 25 = .ok (.goto 4, 3) := zo_p167 zh_cX12_isWhen_1 5 4 rfl rfl
theorem dX12_isWhen_28 : decode cX12_isWhen 28 = .ok (.iconst 0, 1) := zo_3 zh_cX12_isWhen_1 8 rfl
theorem dX12_isWhen_29 : decode cX12_isWhen 29 = .ok (.ireturn, 1) := zo_172 zh_cX12_isWhen_1 9 rfl
abbrev z_X12_isWhen : List Cond := .code yX12_isWhen cX12_isWhen 1 (some .boolean) :: zW
abbrev wl_X12_isWhen (ad : Nat → Nat) (cs : Nat → ClassId)   : va_W := []
def Q_X12_isWhen (D : va_G) (cs : Nat → ClassId) (ad : Nat → Nat)   (A : Nat → Prop) (R : Int32 × Unit) : Array Value → State → Outcome → State → Prop :=
  va_Qi (fun (r : Int32) (u : Unit) => (r, u) = R) (fun (u : Unit) (t : State) => va_P D classes (wl_X12_isWhen ad cs ) t.heap ∧ va_D A (wl_X12_isWhen ad cs )) A
abbrev rm_X12_isWhen : Room := { frames := 2, cells := 0, slots := 0, locals := 42 }
theorem g_X12_151 : GoodIn zW (va_wsS RX12 151 yX12_isDay z_X12_isDay) := zGS kw_1488 kw_1489 kw_95 kw_1490
theorem g_X12_155 : GoodIn zW (va_wsS RX12 155 yX12_isLand z_X12_isLand) := zGS kw_1619 kw_1620 kw_95 kw_1621
theorem hd_X12_isDay : yX12_isDay.cls ≠ "java/lang/invoke/MethodHandle" ∧ yX12_isDay.cls ≠ "java/lang/invoke/VarHandle" ∧ (parseMethodDescriptor yX12_isDay.desc).map (fun d => d.parameters.length) = some 1 := by decide +kernel
theorem hd_X12_isLand : yX12_isLand.cls ≠ "java/lang/invoke/MethodHandle" ∧ yX12_isLand.cls ≠ "java/lang/invoke/VarHandle" ∧ (parseMethodDescriptor yX12_isLand.desc).map (fun d => d.parameters.length) = some 1 := by decide +kernel
def B_X12_isWhen_0     (x0 : Int32) : Option (Int32 × Unit) :=
  (if x0 < 0 then (some ((0 : Int32), ())) else (zk_b2 (f_X12_isDay (x0 / (10 : Int32))) (fun r_2 u_3 => (if r_2 = 0 then (some ((0 : Int32), ())) else (zk_b2 (f_X12_isLand (x0 - x0 / (10 : Int32) * (10 : Int32))) (fun r_6 u_7 => (if r_6 = 0 then (some ((0 : Int32), ())) else (some ((1 : Int32), ())))))))))
def f_X12_isWhen   (x0 : Int32)  : Option (Int32 × Unit) := B_X12_isWhen_0    x0 
set_option maxHeartbeats 4000000 in
set_option maxRecDepth 100000 in
theorem L_X12_isWhen_0 {p : Program} {l : Launch} {e : Env} {s : State} {m : MethodId} {args : Array Value} {below : List Frame} {meth : Method} {c : Code} {A : Nat → Prop} {D : va_G} {cs : Nat → ClassId} {ad : Nat → Nat} {R : Int32 × Unit} (C0 : zC p s m args meth c cX12_isWhen 1 (some .boolean) RX12 zW) (hK : va_K D classes (zT cs) s) (hA : ∀ q : Nat, s.heap.size ≤ q → A q) (x0 : Int32) (h : B_X12_isWhen_0 x0 = some R) (H : Heap) (locs : List Loc) (ls : Array Slot) (hP : va_P D classes (wl_X12_isWhen ad cs ) H) (hD : va_D A (wl_X12_isWhen ad cs )) (hS : va_S A s.heap H locs) (hl : lv_has ls 1 [(0, .int x0)]) : W p l e rm_X12_isWhen s m args below meth c H locs 0 0 (MQ below (Q_X12_isWhen D cs ad  A R) args s 0 0 A) (F0 m 0 ls []) := by
  obtain ⟨hx, hb, hr, hml, hown, ht, hlocks⟩ := id C0
  refine lv_iload_n hx hb dX12_isWhen_0 rfl (lv_at hl 0 rfl) ?_
  refine lv_if_lt (tgt := 28) hx hb dX12_isWhen_1 (by decide) (fun c_1 => ?_) (fun c_1 => ?_)
  · have h := zk_t c_1 h
    refine lv_iconst (v := (0 : Int32)) hx hb dX12_isWhen_28 (by decide) ?_
    exact W.zret (ty := .boolean) (v := (0 : Int32)) hx hb hr rfl (fun t ht2 hW => ⟨⟨(0 : Int32), (), rfl, Option.some.inj h, by rw [ht2]; exact hP, hD⟩, hS.F ht2⟩) hS.2.2 dX12_isWhen_29 hlocks
  · have h := zk_f c_1 h
    refine lv_iload_n hx hb dX12_isWhen_4 rfl (lv_at hl 0 rfl) ?_
    refine lv_bipush (v := (10 : Int32)) hx hb dX12_isWhen_5 (by decide) ?_
    refine lv_idiv hx hb dX12_isWhen_7 (by decide) ?_
    obtain ⟨r_2, u_3, hc_4, h⟩ := zk_o2 h
    refine zz_si (post := (fun r u => (r, u) = (r_2, u_3))) (w1 := fun u => (wl_X12_isDay ad cs )) (As := [.int (x0 / (10 : Int32))]) (rest := []) (c_X12_isDay l D cs ad  H.size (x0 / (10 : Int32)) (r_2, u_3) hc_4) ⟨hx, hb, hml, hown, ht⟩ (va_cwS 1 ht g_X12_151 rfl rfl rfl hd_X12_isDay ⟨Nat.le_of_ble_eq_true rfl, Nat.le_of_ble_eq_true rfl⟩) hP hD hS hK hA [] rfl rfl [] rfl (fun _ => rfl) rfl hl.1 (Nat.le_of_ble_eq_true rfl) dX12_isWhen_8 ⟨Nat.zero_le _, Nat.zero_le _⟩ (fun r u H locs hq hP hS => ?_)
    cases hq
    have hP : va_P D classes (wl_X12_isWhen ad cs ) H := hP
    refine lv_if_eq (tgt := 28) hx hb dX12_isWhen_11 (by decide) (fun c_5 => ?_) (fun c_5 => ?_)
    · have h := zk_t c_5 h
      refine lv_iconst (v := (0 : Int32)) hx hb dX12_isWhen_28 (by decide) ?_
      exact W.zret (ty := .boolean) (v := (0 : Int32)) hx hb hr rfl (fun t ht2 hW => ⟨⟨(0 : Int32), (), rfl, Option.some.inj h, by rw [ht2]; exact hP, hD⟩, hS.F ht2⟩) hS.2.2 dX12_isWhen_29 hlocks
    · have h := zk_f c_5 h
      refine lv_iload_n hx hb dX12_isWhen_14 rfl (lv_at hl 0 rfl) ?_
      refine lv_bipush (v := (10 : Int32)) hx hb dX12_isWhen_15 (by decide) ?_
      refine lv_irem hx hb dX12_isWhen_17 (by decide) ?_
      obtain ⟨r_6, u_7, hc_8, h⟩ := zk_o2 h
      refine zz_si (post := (fun r u => (r, u) = (r_6, u_7))) (w1 := fun u => (wl_X12_isLand ad cs )) (As := [.int (x0 - x0 / (10 : Int32) * (10 : Int32))]) (rest := []) (c_X12_isLand l D cs ad  H.size (x0 - x0 / (10 : Int32) * (10 : Int32)) (r_6, u_7) hc_8) ⟨hx, hb, hml, hown, ht⟩ (va_cwS 1 ht g_X12_155 rfl rfl rfl hd_X12_isLand ⟨Nat.le_of_ble_eq_true rfl, Nat.le_of_ble_eq_true rfl⟩) hP hD hS hK hA [] rfl rfl [] rfl (fun _ => rfl) rfl hl.1 (Nat.le_of_ble_eq_true rfl) dX12_isWhen_18 ⟨Nat.zero_le _, Nat.zero_le _⟩ (fun r u H locs hq hP hS => ?_)
      cases hq
      have hP : va_P D classes (wl_X12_isWhen ad cs ) H := hP
      refine lv_if_eq (tgt := 28) hx hb dX12_isWhen_21 (by decide) (fun c_9 => ?_) (fun c_9 => ?_)
      · have h := zk_t c_9 h
        refine lv_iconst (v := (0 : Int32)) hx hb dX12_isWhen_28 (by decide) ?_
        exact W.zret (ty := .boolean) (v := (0 : Int32)) hx hb hr rfl (fun t ht2 hW => ⟨⟨(0 : Int32), (), rfl, Option.some.inj h, by rw [ht2]; exact hP, hD⟩, hS.F ht2⟩) hS.2.2 dX12_isWhen_29 hlocks
      · have h := zk_f c_9 h
        refine lv_iconst (v := (1 : Int32)) hx hb dX12_isWhen_24 (by decide) ?_
        refine lv_goto (tgt := 29) hx hb dX12_isWhen_25 (by decide) ?_
        exact W.zret (ty := .boolean) (v := (1 : Int32)) hx hb hr rfl (fun t ht2 hW => ⟨⟨(1 : Int32), (), rfl, Option.some.inj h, by rw [ht2]; exact hP, hD⟩, hS.F ht2⟩) hS.2.2 dX12_isWhen_29 hlocks
set_option maxHeartbeats 4000000 in
set_option maxRecDepth 100000 in
theorem c_X12_isWhen (l : Launch) (D : va_G) (cs : Nat → ClassId) (ad : Nat → Nat) (sz : Nat) (x0 : Int32)  (R : Int32 × Unit) (h : f_X12_isWhen   x0  = some R) : Met l yX12_isWhen (z_X12_isWhen) rm_X12_isWhen (va_Pc [.int x0] (zPre D cs (wl_X12_isWhen ad cs ) sz)) (Q_X12_isWhen D cs ad  (va_A (wl_X12_isWhen ad cs ) sz) R) 0 0 (va_A (wl_X12_isWhen ad cs ) sz) := by
  refine Met.ofW (cc := cX12_isWhen) (maxL := 1) (ret := (some .boolean)) (by decide) rfl ?_
  intro p e s m args below meth c s₁ B hml hv
  obtain ⟨rfl, hsz, hP, hK, hD0⟩ := hv
  subst hsz
  have hD := hD0.self (sz := s.heap.size)
  have C0 : zC p s m _ meth c cX12_isWhen 1 (some .boolean) RX12 zW := ⟨B.exec, B.bytes, B.returns, hml, findClass_of_methodNamed B.named, fun w hw => atoms_spec (ws := z_X12_isWhen) B.pre w (List.mem_cons_of_mem _ hw), B.notSynchronized⟩
  have hA : ∀ q : Nat, s.heap.size ≤ q → va_A (wl_X12_isWhen ad cs ) s.heap.size q := fun q h => Or.inr h
  have hl := lv_entry ([.int x0]) (n := 1) (Nat.le_of_ble_eq_true rfl)
  rw [lg_entry_eq]
  generalize (lg_sl ([.int x0]) ++ List.replicate (1 - (lg_sl ([.int x0])).length) Slot.unset).toArray = ls at hl ⊢
  exact L_X12_isWhen_0 C0 hK hA   x0  h s.heap [] ls hP hD va_S.rf hl
theorem kw_1296 : Cond.fieldLink RX12 158 "AlreadyJudgedModel" "shoes" "I" ∈ zW := zwC (i := 22) zc_6 rfl rfl
theorem zh_cX12_isShoe_0 : zck [27, 3, 42, 180, 0, 158, 4, 100, 184, 0, 147, 172] (zdu 0 cX12_isShoe.data.toList) = true := by decide +kernel
theorem dX12_isShoe_0 : decode cX12_isShoe 0 = .ok (.iload_n 1, 1) := zo_27 zh_cX12_isShoe_0 0 rfl
theorem dX12_isShoe_1 : decode cX12_isShoe 1 = .ok (.iconst 0, 1) := zo_3 zh_cX12_isShoe_0 1 rfl
theorem zo_42 {c : ByteArray} {s : Nat} {K : List Nat} (h : zck K (zdu s c.data.toList) = true) (k : Nat) (hk : zt1 K k 42 = true) : decode c (s + k) = .ok (.aload_n 0, 1) := zde ((zbd (zu1 (zh1 h hk))).trans rfl)
theorem dX12_isShoe_2 : decode cX12_isShoe 2 = .ok (.aload_n 0, 1) := zo_42 zh_cX12_isShoe_0 2 rfl
theorem zo_180 {c : ByteArray} {s : Nat} {K : List Nat} (h : zck K (zdu s c.data.toList) = true) (k : Nat) {v : Nat} (hk : zt3 K k 180 v = true) : decode c (s + k) = .ok (.getfield v, 3) := zde ((zbd (zu1 (zh3 h hk).1)).trans ((zbd (f := fun x => pure (Instr.getfield x)) (zh3 h hk).2).trans rfl))
theorem dX12_isShoe_3 : decode cX12_isShoe 3 = .ok (.getfield 158, 3) := zo_180 zh_cX12_isShoe_0 3 rfl
theorem dX12_isShoe_6 : decode cX12_isShoe 6 = .ok (.iconst 1, 1) := zo_4 zh_cX12_isShoe_0 6 rfl
theorem zo_100 {c : ByteArray} {s : Nat} {K : List Nat} (h : zck K (zdu s c.data.toList) = true) (k : Nat) (hk : zt1 K k 100 = true) : decode c (s + k) = .ok (.isub, 1) := zde ((zbd (zu1 (zh1 h hk))).trans rfl)
theorem dX12_isShoe_7 : decode cX12_isShoe 7 = .ok (.isub, 1) := zo_100 zh_cX12_isShoe_0 7 rfl
theorem dX12_isShoe_8 : decode cX12_isShoe 8 = .ok (.invokestatic 147, 3) := zo_184 zh_cX12_isShoe_0 8 rfl
theorem dX12_isShoe_11 : decode cX12_isShoe 11 = .ok (.ireturn, 1) := zo_172 zh_cX12_isShoe_0 11 rfl
abbrev z_X12_isShoe : List Cond := .code yX12_isShoe cX12_isShoe 2 (some .boolean) :: zW
abbrev wl_X12_isShoe (ad : Nat → Nat) (cs : Nat → ClassId)  (mod_code : Int32) (mod_shoes : Int32) (mod_claims : Int32) (mod_taped : Int32) (mod_here : Int32) (mod_fault : Int32) (mod_suits : Int32) (mod_doneMany : Int32) (mod_undoneMany : Int32) (mod_open : Int32) (mod_laid : Int32) (mod_isBoth : Int32) (mod_wished : Int32) (mod_bestMany : Int32) (mod_bestRow : Int32) (mod_ringDigits : Int32) (mod_traces : Int32) : va_W := [((ad 41), .inr (12, [.int mod_code, .int mod_shoes, .ref (ad 42), .ref (ad 43), .ref (ad 44), .ref (ad 45), .int mod_claims, .ref (ad 46), .ref (ad 47), .ref (ad 48), .ref (ad 49), .ref (ad 50), .int mod_taped, .int mod_here, .int mod_fault, .int mod_suits, .ref (ad 51), .ref (ad 52), .ref (ad 53), .ref (ad 54), .ref (ad 55), .ref (ad 56), .ref (ad 57), .ref (ad 58), .ref (ad 59), .ref (ad 60), .ref (ad 61), .int mod_doneMany, .int mod_undoneMany, .ref (ad 62), .ref (ad 63), .ref (ad 64), .ref (ad 65), .int mod_open, .int mod_laid, .ref (ad 66), .ref (ad 67), .ref (ad 68), .ref (ad 69), .ref (ad 70), .ref (ad 71), .ref (ad 72), .ref (ad 73), .ref (ad 74), .ref (ad 75), .int mod_isBoth, .int mod_wished, .ref (ad 76), .ref (ad 77), .int mod_bestMany, .int mod_bestRow, .ref (ad 78), .ref (ad 79), .int mod_ringDigits, .int mod_traces, .ref (ad 80), .ref (ad 81), .ref (ad 82), .ref (ad 83), .ref (ad 84)]))]
def Q_X12_isShoe (D : va_G) (cs : Nat → ClassId) (ad : Nat → Nat)  (mod_code : Int32) (mod_shoes : Int32) (mod_claims : Int32) (mod_taped : Int32) (mod_here : Int32) (mod_fault : Int32) (mod_suits : Int32) (mod_doneMany : Int32) (mod_undoneMany : Int32) (mod_open : Int32) (mod_laid : Int32) (mod_isBoth : Int32) (mod_wished : Int32) (mod_bestMany : Int32) (mod_bestRow : Int32) (mod_ringDigits : Int32) (mod_traces : Int32) (A : Nat → Prop) (R : Int32 × Unit) : Array Value → State → Outcome → State → Prop :=
  va_Qi (fun (r : Int32) (u : Unit) => (r, u) = R) (fun (u : Unit) (t : State) => va_P D classes (wl_X12_isShoe ad cs mod_code mod_shoes mod_claims mod_taped mod_here mod_fault mod_suits mod_doneMany mod_undoneMany mod_open mod_laid mod_isBoth mod_wished mod_bestMany mod_bestRow mod_ringDigits mod_traces) t.heap ∧ va_D A (wl_X12_isShoe ad cs mod_code mod_shoes mod_claims mod_taped mod_here mod_fault mod_suits mod_doneMany mod_undoneMany mod_open mod_laid mod_isBoth mod_wished mod_bestMany mod_bestRow mod_ringDigits mod_traces)) A
abbrev rm_X12_isShoe : Room := { frames := 1, cells := 0, slots := 0, locals := 22 }
def B_X12_isShoe_0    (mod_code : Int32) (mod_shoes : Int32) (mod_claims : Int32) (mod_taped : Int32) (mod_here : Int32) (mod_fault : Int32) (mod_suits : Int32) (mod_doneMany : Int32) (mod_undoneMany : Int32) (mod_open : Int32) (mod_laid : Int32) (mod_isBoth : Int32) (mod_wished : Int32) (mod_bestMany : Int32) (mod_bestRow : Int32) (mod_ringDigits : Int32) (mod_traces : Int32) (x1 : Int32) : Option (Int32 × Unit) :=
  (zk_b2 (f_X12_in x1 (0 : Int32) (mod_shoes - (1 : Int32))) (fun r_1 u_2 => (if ¬ (r_1 = 0 ∨ r_1 = 1) then none else (some (r_1, ())))))
def f_X12_isShoe   (x1 : Int32) (mod_code : Int32) (mod_shoes : Int32) (mod_claims : Int32) (mod_taped : Int32) (mod_here : Int32) (mod_fault : Int32) (mod_suits : Int32) (mod_doneMany : Int32) (mod_undoneMany : Int32) (mod_open : Int32) (mod_laid : Int32) (mod_isBoth : Int32) (mod_wished : Int32) (mod_bestMany : Int32) (mod_bestRow : Int32) (mod_ringDigits : Int32) (mod_traces : Int32) : Option (Int32 × Unit) := B_X12_isShoe_0   mod_code mod_shoes mod_claims mod_taped mod_here mod_fault mod_suits mod_doneMany mod_undoneMany mod_open mod_laid mod_isBoth mod_wished mod_bestMany mod_bestRow mod_ringDigits mod_traces x1 
set_option maxHeartbeats 4000000 in
set_option maxRecDepth 100000 in
theorem L_X12_isShoe_0 {p : Program} {l : Launch} {e : Env} {s : State} {m : MethodId} {args : Array Value} {below : List Frame} {meth : Method} {c : Code} {A : Nat → Prop} {D : va_G} {cs : Nat → ClassId} {ad : Nat → Nat} {mod_code : Int32} {mod_shoes : Int32} {mod_claims : Int32} {mod_taped : Int32} {mod_here : Int32} {mod_fault : Int32} {mod_suits : Int32} {mod_doneMany : Int32} {mod_undoneMany : Int32} {mod_open : Int32} {mod_laid : Int32} {mod_isBoth : Int32} {mod_wished : Int32} {mod_bestMany : Int32} {mod_bestRow : Int32} {mod_ringDigits : Int32} {mod_traces : Int32} {R : Int32 × Unit} (C0 : zC p s m args meth c cX12_isShoe 2 (some .boolean) RX12 zW) (hK : va_K D classes (zT cs) s) (hA : ∀ q : Nat, s.heap.size ≤ q → A q) (x1 : Int32) (h : B_X12_isShoe_0 mod_code mod_shoes mod_claims mod_taped mod_here mod_fault mod_suits mod_doneMany mod_undoneMany mod_open mod_laid mod_isBoth mod_wished mod_bestMany mod_bestRow mod_ringDigits mod_traces x1 = some R) (H : Heap) (locs : List Loc) (ls : Array Slot) (hP : va_P D classes (wl_X12_isShoe ad cs mod_code mod_shoes mod_claims mod_taped mod_here mod_fault mod_suits mod_doneMany mod_undoneMany mod_open mod_laid mod_isBoth mod_wished mod_bestMany mod_bestRow mod_ringDigits mod_traces) H) (hD : va_D A (wl_X12_isShoe ad cs mod_code mod_shoes mod_claims mod_taped mod_here mod_fault mod_suits mod_doneMany mod_undoneMany mod_open mod_laid mod_isBoth mod_wished mod_bestMany mod_bestRow mod_ringDigits mod_traces)) (hS : va_S A s.heap H locs) (hl : lv_has ls 2 [(0, .ref (ad 41)), (1, .int x1)]) : W p l e rm_X12_isShoe s m args below meth c H locs 0 0 (MQ below (Q_X12_isShoe D cs ad mod_code mod_shoes mod_claims mod_taped mod_here mod_fault mod_suits mod_doneMany mod_undoneMany mod_open mod_laid mod_isBoth mod_wished mod_bestMany mod_bestRow mod_ringDigits mod_traces A R) args s 0 0 A) (F0 m 0 ls []) := by
  obtain ⟨hx, hb, hr, hml, hown, ht, hlocks⟩ := id C0
  refine lv_iload_n hx hb dX12_isShoe_0 rfl (lv_at hl 1 rfl) ?_
  refine lv_iconst (v := (0 : Int32)) hx hb dX12_isShoe_1 (by decide) ?_
  refine lv_aload_n hx hb dX12_isShoe_2 rfl (lv_at hl 0 rfl) ?_
  refine va_get (D := D) (ci := 12) (v := .int mod_shoes) (C := RX12) (T := TX12) (N := 60) hx hb ht iX12 hown hK hP 0 rfl rfl 1 (by decide) (ht _ kw_1296) (fun _ h9 => h9) rfl dX12_isShoe_3 ?_
  refine lv_iconst (v := (1 : Int32)) hx hb dX12_isShoe_6 (by decide) ?_
  refine lv_isub hx hb dX12_isShoe_7 ?_
  obtain ⟨r_1, u_2, hc_3, h⟩ := zk_o2 h
  refine zz_si (post := (fun r u => (r, u) = (r_1, u_2))) (w1 := fun u => (wl_X12_in ad cs )) (As := [.int x1, .int (0 : Int32), .int (mod_shoes - (1 : Int32))]) (rest := []) (c_X12_in l D cs ad  H.size x1 (0 : Int32) (mod_shoes - (1 : Int32)) (r_1, u_2) hc_3) ⟨hx, hb, hml, hown, ht⟩ (va_cwS 3 ht g_X12_147 rfl rfl rfl hd_X12_in ⟨Nat.le_of_ble_eq_true rfl, Nat.le_of_ble_eq_true rfl⟩) hP hD hS hK hA [] rfl rfl [] rfl (fun _ => rfl) rfl hl.1 (Nat.le_of_ble_eq_true rfl) dX12_isShoe_8 ⟨Nat.zero_le _, Nat.zero_le _⟩ (fun r u H locs hq hP hS => ?_)
  cases hq
  have hP : va_P D classes (wl_X12_isShoe ad cs mod_code mod_shoes mod_claims mod_taped mod_here mod_fault mod_suits mod_doneMany mod_undoneMany mod_open mod_laid mod_isBoth mod_wished mod_bestMany mod_bestRow mod_ringDigits mod_traces) H := hP
  obtain ⟨g_4, h⟩ := zk_gd h
  exact W.zret (ty := .boolean) (v := r_1) hx hb hr (zk_nz g_4) (fun t ht2 hW => ⟨⟨r_1, (), rfl, Option.some.inj h, by rw [ht2]; exact hP, hD⟩, hS.F ht2⟩) hS.2.2 dX12_isShoe_11 hlocks
set_option maxHeartbeats 4000000 in
set_option maxRecDepth 100000 in
theorem c_X12_isShoe (l : Launch) (D : va_G) (cs : Nat → ClassId) (ad : Nat → Nat) (sz : Nat) (x1 : Int32) (mod_code : Int32) (mod_shoes : Int32) (mod_claims : Int32) (mod_taped : Int32) (mod_here : Int32) (mod_fault : Int32) (mod_suits : Int32) (mod_doneMany : Int32) (mod_undoneMany : Int32) (mod_open : Int32) (mod_laid : Int32) (mod_isBoth : Int32) (mod_wished : Int32) (mod_bestMany : Int32) (mod_bestRow : Int32) (mod_ringDigits : Int32) (mod_traces : Int32) (R : Int32 × Unit) (h : f_X12_isShoe   x1 mod_code mod_shoes mod_claims mod_taped mod_here mod_fault mod_suits mod_doneMany mod_undoneMany mod_open mod_laid mod_isBoth mod_wished mod_bestMany mod_bestRow mod_ringDigits mod_traces = some R) : Met l yX12_isShoe (z_X12_isShoe) rm_X12_isShoe (va_Pc [.ref (ad 41), .int x1] (zPre D cs (wl_X12_isShoe ad cs mod_code mod_shoes mod_claims mod_taped mod_here mod_fault mod_suits mod_doneMany mod_undoneMany mod_open mod_laid mod_isBoth mod_wished mod_bestMany mod_bestRow mod_ringDigits mod_traces) sz)) (Q_X12_isShoe D cs ad mod_code mod_shoes mod_claims mod_taped mod_here mod_fault mod_suits mod_doneMany mod_undoneMany mod_open mod_laid mod_isBoth mod_wished mod_bestMany mod_bestRow mod_ringDigits mod_traces (va_A (wl_X12_isShoe ad cs mod_code mod_shoes mod_claims mod_taped mod_here mod_fault mod_suits mod_doneMany mod_undoneMany mod_open mod_laid mod_isBoth mod_wished mod_bestMany mod_bestRow mod_ringDigits mod_traces) sz) R) 0 0 (va_A (wl_X12_isShoe ad cs mod_code mod_shoes mod_claims mod_taped mod_here mod_fault mod_suits mod_doneMany mod_undoneMany mod_open mod_laid mod_isBoth mod_wished mod_bestMany mod_bestRow mod_ringDigits mod_traces) sz) := by
  refine Met.ofW (cc := cX12_isShoe) (maxL := 2) (ret := (some .boolean)) (by decide) rfl ?_
  intro p e s m args below meth c s₁ B hml hv
  obtain ⟨rfl, hsz, hP, hK, hD0⟩ := hv
  subst hsz
  have hD := hD0.self (sz := s.heap.size)
  have C0 : zC p s m _ meth c cX12_isShoe 2 (some .boolean) RX12 zW := ⟨B.exec, B.bytes, B.returns, hml, findClass_of_methodNamed B.named, fun w hw => atoms_spec (ws := z_X12_isShoe) B.pre w (List.mem_cons_of_mem _ hw), B.notSynchronized⟩
  have hA : ∀ q : Nat, s.heap.size ≤ q → va_A (wl_X12_isShoe ad cs mod_code mod_shoes mod_claims mod_taped mod_here mod_fault mod_suits mod_doneMany mod_undoneMany mod_open mod_laid mod_isBoth mod_wished mod_bestMany mod_bestRow mod_ringDigits mod_traces) s.heap.size q := fun q h => Or.inr h
  have hl := lv_entry ([.ref (ad 41), .int x1]) (n := 2) (Nat.le_of_ble_eq_true rfl)
  rw [lg_entry_eq]
  generalize (lg_sl ([.ref (ad 41), .int x1]) ++ List.replicate (2 - (lg_sl ([.ref (ad 41), .int x1])).length) Slot.unset).toArray = ls at hl ⊢
  exact L_X12_isShoe_0 C0 hK hA   x1  h s.heap [] ls hP hD va_S.rf hl
theorem kw_1301 : Cond.fieldLink RX12 161 "AlreadyJudgedModel" "claims" "I" ∈ zW := zwC (i := 27) zc_6 rfl rfl
theorem zh_cX12_isClaim_0 : zck [27, 3, 42, 180, 0, 161, 4, 100, 184, 0, 147, 172] (zdu 0 cX12_isClaim.data.toList) = true := by decide +kernel
theorem dX12_isClaim_0 : decode cX12_isClaim 0 = .ok (.iload_n 1, 1) := zo_27 zh_cX12_isClaim_0 0 rfl
theorem dX12_isClaim_1 : decode cX12_isClaim 1 = .ok (.iconst 0, 1) := zo_3 zh_cX12_isClaim_0 1 rfl
theorem dX12_isClaim_2 : decode cX12_isClaim 2 = .ok (.aload_n 0, 1) := zo_42 zh_cX12_isClaim_0 2 rfl
theorem dX12_isClaim_3 : decode cX12_isClaim 3 = .ok (.getfield 161, 3) := zo_180 zh_cX12_isClaim_0 3 rfl
theorem dX12_isClaim_6 : decode cX12_isClaim 6 = .ok (.iconst 1, 1) := zo_4 zh_cX12_isClaim_0 6 rfl
theorem dX12_isClaim_7 : decode cX12_isClaim 7 = .ok (.isub, 1) := zo_100 zh_cX12_isClaim_0 7 rfl
theorem dX12_isClaim_8 : decode cX12_isClaim 8 = .ok (.invokestatic 147, 3) := zo_184 zh_cX12_isClaim_0 8 rfl
theorem dX12_isClaim_11 : decode cX12_isClaim 11 = .ok (.ireturn, 1) := zo_172 zh_cX12_isClaim_0 11 rfl
abbrev z_X12_isClaim : List Cond := .code yX12_isClaim cX12_isClaim 2 (some .boolean) :: zW
abbrev wl_X12_isClaim (ad : Nat → Nat) (cs : Nat → ClassId)  (mod_code : Int32) (mod_shoes : Int32) (mod_claims : Int32) (mod_taped : Int32) (mod_here : Int32) (mod_fault : Int32) (mod_suits : Int32) (mod_doneMany : Int32) (mod_undoneMany : Int32) (mod_open : Int32) (mod_laid : Int32) (mod_isBoth : Int32) (mod_wished : Int32) (mod_bestMany : Int32) (mod_bestRow : Int32) (mod_ringDigits : Int32) (mod_traces : Int32) : va_W := [((ad 41), .inr (12, [.int mod_code, .int mod_shoes, .ref (ad 42), .ref (ad 43), .ref (ad 44), .ref (ad 45), .int mod_claims, .ref (ad 46), .ref (ad 47), .ref (ad 48), .ref (ad 49), .ref (ad 50), .int mod_taped, .int mod_here, .int mod_fault, .int mod_suits, .ref (ad 51), .ref (ad 52), .ref (ad 53), .ref (ad 54), .ref (ad 55), .ref (ad 56), .ref (ad 57), .ref (ad 58), .ref (ad 59), .ref (ad 60), .ref (ad 61), .int mod_doneMany, .int mod_undoneMany, .ref (ad 62), .ref (ad 63), .ref (ad 64), .ref (ad 65), .int mod_open, .int mod_laid, .ref (ad 66), .ref (ad 67), .ref (ad 68), .ref (ad 69), .ref (ad 70), .ref (ad 71), .ref (ad 72), .ref (ad 73), .ref (ad 74), .ref (ad 75), .int mod_isBoth, .int mod_wished, .ref (ad 76), .ref (ad 77), .int mod_bestMany, .int mod_bestRow, .ref (ad 78), .ref (ad 79), .int mod_ringDigits, .int mod_traces, .ref (ad 80), .ref (ad 81), .ref (ad 82), .ref (ad 83), .ref (ad 84)]))]
def Q_X12_isClaim (D : va_G) (cs : Nat → ClassId) (ad : Nat → Nat)  (mod_code : Int32) (mod_shoes : Int32) (mod_claims : Int32) (mod_taped : Int32) (mod_here : Int32) (mod_fault : Int32) (mod_suits : Int32) (mod_doneMany : Int32) (mod_undoneMany : Int32) (mod_open : Int32) (mod_laid : Int32) (mod_isBoth : Int32) (mod_wished : Int32) (mod_bestMany : Int32) (mod_bestRow : Int32) (mod_ringDigits : Int32) (mod_traces : Int32) (A : Nat → Prop) (R : Int32 × Unit) : Array Value → State → Outcome → State → Prop :=
  va_Qi (fun (r : Int32) (u : Unit) => (r, u) = R) (fun (u : Unit) (t : State) => va_P D classes (wl_X12_isClaim ad cs mod_code mod_shoes mod_claims mod_taped mod_here mod_fault mod_suits mod_doneMany mod_undoneMany mod_open mod_laid mod_isBoth mod_wished mod_bestMany mod_bestRow mod_ringDigits mod_traces) t.heap ∧ va_D A (wl_X12_isClaim ad cs mod_code mod_shoes mod_claims mod_taped mod_here mod_fault mod_suits mod_doneMany mod_undoneMany mod_open mod_laid mod_isBoth mod_wished mod_bestMany mod_bestRow mod_ringDigits mod_traces)) A
abbrev rm_X12_isClaim : Room := { frames := 1, cells := 0, slots := 0, locals := 22 }
def B_X12_isClaim_0    (mod_code : Int32) (mod_shoes : Int32) (mod_claims : Int32) (mod_taped : Int32) (mod_here : Int32) (mod_fault : Int32) (mod_suits : Int32) (mod_doneMany : Int32) (mod_undoneMany : Int32) (mod_open : Int32) (mod_laid : Int32) (mod_isBoth : Int32) (mod_wished : Int32) (mod_bestMany : Int32) (mod_bestRow : Int32) (mod_ringDigits : Int32) (mod_traces : Int32) (x1 : Int32) : Option (Int32 × Unit) :=
  (zk_b2 (f_X12_in x1 (0 : Int32) (mod_claims - (1 : Int32))) (fun r_1 u_2 => (if ¬ (r_1 = 0 ∨ r_1 = 1) then none else (some (r_1, ())))))
def f_X12_isClaim   (x1 : Int32) (mod_code : Int32) (mod_shoes : Int32) (mod_claims : Int32) (mod_taped : Int32) (mod_here : Int32) (mod_fault : Int32) (mod_suits : Int32) (mod_doneMany : Int32) (mod_undoneMany : Int32) (mod_open : Int32) (mod_laid : Int32) (mod_isBoth : Int32) (mod_wished : Int32) (mod_bestMany : Int32) (mod_bestRow : Int32) (mod_ringDigits : Int32) (mod_traces : Int32) : Option (Int32 × Unit) := B_X12_isClaim_0   mod_code mod_shoes mod_claims mod_taped mod_here mod_fault mod_suits mod_doneMany mod_undoneMany mod_open mod_laid mod_isBoth mod_wished mod_bestMany mod_bestRow mod_ringDigits mod_traces x1 
set_option maxHeartbeats 4000000 in
set_option maxRecDepth 100000 in
theorem L_X12_isClaim_0 {p : Program} {l : Launch} {e : Env} {s : State} {m : MethodId} {args : Array Value} {below : List Frame} {meth : Method} {c : Code} {A : Nat → Prop} {D : va_G} {cs : Nat → ClassId} {ad : Nat → Nat} {mod_code : Int32} {mod_shoes : Int32} {mod_claims : Int32} {mod_taped : Int32} {mod_here : Int32} {mod_fault : Int32} {mod_suits : Int32} {mod_doneMany : Int32} {mod_undoneMany : Int32} {mod_open : Int32} {mod_laid : Int32} {mod_isBoth : Int32} {mod_wished : Int32} {mod_bestMany : Int32} {mod_bestRow : Int32} {mod_ringDigits : Int32} {mod_traces : Int32} {R : Int32 × Unit} (C0 : zC p s m args meth c cX12_isClaim 2 (some .boolean) RX12 zW) (hK : va_K D classes (zT cs) s) (hA : ∀ q : Nat, s.heap.size ≤ q → A q) (x1 : Int32) (h : B_X12_isClaim_0 mod_code mod_shoes mod_claims mod_taped mod_here mod_fault mod_suits mod_doneMany mod_undoneMany mod_open mod_laid mod_isBoth mod_wished mod_bestMany mod_bestRow mod_ringDigits mod_traces x1 = some R) (H : Heap) (locs : List Loc) (ls : Array Slot) (hP : va_P D classes (wl_X12_isClaim ad cs mod_code mod_shoes mod_claims mod_taped mod_here mod_fault mod_suits mod_doneMany mod_undoneMany mod_open mod_laid mod_isBoth mod_wished mod_bestMany mod_bestRow mod_ringDigits mod_traces) H) (hD : va_D A (wl_X12_isClaim ad cs mod_code mod_shoes mod_claims mod_taped mod_here mod_fault mod_suits mod_doneMany mod_undoneMany mod_open mod_laid mod_isBoth mod_wished mod_bestMany mod_bestRow mod_ringDigits mod_traces)) (hS : va_S A s.heap H locs) (hl : lv_has ls 2 [(0, .ref (ad 41)), (1, .int x1)]) : W p l e rm_X12_isClaim s m args below meth c H locs 0 0 (MQ below (Q_X12_isClaim D cs ad mod_code mod_shoes mod_claims mod_taped mod_here mod_fault mod_suits mod_doneMany mod_undoneMany mod_open mod_laid mod_isBoth mod_wished mod_bestMany mod_bestRow mod_ringDigits mod_traces A R) args s 0 0 A) (F0 m 0 ls []) := by
  obtain ⟨hx, hb, hr, hml, hown, ht, hlocks⟩ := id C0
  refine lv_iload_n hx hb dX12_isClaim_0 rfl (lv_at hl 1 rfl) ?_
  refine lv_iconst (v := (0 : Int32)) hx hb dX12_isClaim_1 (by decide) ?_
  refine lv_aload_n hx hb dX12_isClaim_2 rfl (lv_at hl 0 rfl) ?_
  refine va_get (D := D) (ci := 12) (v := .int mod_claims) (C := RX12) (T := TX12) (N := 60) hx hb ht iX12 hown hK hP 0 rfl rfl 6 (by decide) (ht _ kw_1301) (fun _ h9 => h9) rfl dX12_isClaim_3 ?_
  refine lv_iconst (v := (1 : Int32)) hx hb dX12_isClaim_6 (by decide) ?_
  refine lv_isub hx hb dX12_isClaim_7 ?_
  obtain ⟨r_1, u_2, hc_3, h⟩ := zk_o2 h
  refine zz_si (post := (fun r u => (r, u) = (r_1, u_2))) (w1 := fun u => (wl_X12_in ad cs )) (As := [.int x1, .int (0 : Int32), .int (mod_claims - (1 : Int32))]) (rest := []) (c_X12_in l D cs ad  H.size x1 (0 : Int32) (mod_claims - (1 : Int32)) (r_1, u_2) hc_3) ⟨hx, hb, hml, hown, ht⟩ (va_cwS 3 ht g_X12_147 rfl rfl rfl hd_X12_in ⟨Nat.le_of_ble_eq_true rfl, Nat.le_of_ble_eq_true rfl⟩) hP hD hS hK hA [] rfl rfl [] rfl (fun _ => rfl) rfl hl.1 (Nat.le_of_ble_eq_true rfl) dX12_isClaim_8 ⟨Nat.zero_le _, Nat.zero_le _⟩ (fun r u H locs hq hP hS => ?_)
  cases hq
  have hP : va_P D classes (wl_X12_isClaim ad cs mod_code mod_shoes mod_claims mod_taped mod_here mod_fault mod_suits mod_doneMany mod_undoneMany mod_open mod_laid mod_isBoth mod_wished mod_bestMany mod_bestRow mod_ringDigits mod_traces) H := hP
  obtain ⟨g_4, h⟩ := zk_gd h
  exact W.zret (ty := .boolean) (v := r_1) hx hb hr (zk_nz g_4) (fun t ht2 hW => ⟨⟨r_1, (), rfl, Option.some.inj h, by rw [ht2]; exact hP, hD⟩, hS.F ht2⟩) hS.2.2 dX12_isClaim_11 hlocks
set_option maxHeartbeats 4000000 in
set_option maxRecDepth 100000 in
theorem c_X12_isClaim (l : Launch) (D : va_G) (cs : Nat → ClassId) (ad : Nat → Nat) (sz : Nat) (x1 : Int32) (mod_code : Int32) (mod_shoes : Int32) (mod_claims : Int32) (mod_taped : Int32) (mod_here : Int32) (mod_fault : Int32) (mod_suits : Int32) (mod_doneMany : Int32) (mod_undoneMany : Int32) (mod_open : Int32) (mod_laid : Int32) (mod_isBoth : Int32) (mod_wished : Int32) (mod_bestMany : Int32) (mod_bestRow : Int32) (mod_ringDigits : Int32) (mod_traces : Int32) (R : Int32 × Unit) (h : f_X12_isClaim   x1 mod_code mod_shoes mod_claims mod_taped mod_here mod_fault mod_suits mod_doneMany mod_undoneMany mod_open mod_laid mod_isBoth mod_wished mod_bestMany mod_bestRow mod_ringDigits mod_traces = some R) : Met l yX12_isClaim (z_X12_isClaim) rm_X12_isClaim (va_Pc [.ref (ad 41), .int x1] (zPre D cs (wl_X12_isClaim ad cs mod_code mod_shoes mod_claims mod_taped mod_here mod_fault mod_suits mod_doneMany mod_undoneMany mod_open mod_laid mod_isBoth mod_wished mod_bestMany mod_bestRow mod_ringDigits mod_traces) sz)) (Q_X12_isClaim D cs ad mod_code mod_shoes mod_claims mod_taped mod_here mod_fault mod_suits mod_doneMany mod_undoneMany mod_open mod_laid mod_isBoth mod_wished mod_bestMany mod_bestRow mod_ringDigits mod_traces (va_A (wl_X12_isClaim ad cs mod_code mod_shoes mod_claims mod_taped mod_here mod_fault mod_suits mod_doneMany mod_undoneMany mod_open mod_laid mod_isBoth mod_wished mod_bestMany mod_bestRow mod_ringDigits mod_traces) sz) R) 0 0 (va_A (wl_X12_isClaim ad cs mod_code mod_shoes mod_claims mod_taped mod_here mod_fault mod_suits mod_doneMany mod_undoneMany mod_open mod_laid mod_isBoth mod_wished mod_bestMany mod_bestRow mod_ringDigits mod_traces) sz) := by
  refine Met.ofW (cc := cX12_isClaim) (maxL := 2) (ret := (some .boolean)) (by decide) rfl ?_
  intro p e s m args below meth c s₁ B hml hv
  obtain ⟨rfl, hsz, hP, hK, hD0⟩ := hv
  subst hsz
  have hD := hD0.self (sz := s.heap.size)
  have C0 : zC p s m _ meth c cX12_isClaim 2 (some .boolean) RX12 zW := ⟨B.exec, B.bytes, B.returns, hml, findClass_of_methodNamed B.named, fun w hw => atoms_spec (ws := z_X12_isClaim) B.pre w (List.mem_cons_of_mem _ hw), B.notSynchronized⟩
  have hA : ∀ q : Nat, s.heap.size ≤ q → va_A (wl_X12_isClaim ad cs mod_code mod_shoes mod_claims mod_taped mod_here mod_fault mod_suits mod_doneMany mod_undoneMany mod_open mod_laid mod_isBoth mod_wished mod_bestMany mod_bestRow mod_ringDigits mod_traces) s.heap.size q := fun q h => Or.inr h
  have hl := lv_entry ([.ref (ad 41), .int x1]) (n := 2) (Nat.le_of_ble_eq_true rfl)
  rw [lg_entry_eq]
  generalize (lg_sl ([.ref (ad 41), .int x1]) ++ List.replicate (2 - (lg_sl ([.ref (ad 41), .int x1])).length) Slot.unset).toArray = ls at hl ⊢
  exact L_X12_isClaim_0 C0 hK hA   x1  h s.heap [] ls hP hD va_S.rf hl
theorem zh_cX12_isPerson_0 : zck [26, 3, 16, 19, 184, 0, 147, 172] (zdu 0 cX12_isPerson.data.toList) = true := by decide +kernel
theorem dX12_isPerson_0 : decode cX12_isPerson 0 = .ok (.iload_n 0, 1) := zo_26 zh_cX12_isPerson_0 0 rfl
theorem dX12_isPerson_1 : decode cX12_isPerson 1 = .ok (.iconst 0, 1) := zo_3 zh_cX12_isPerson_0 1 rfl
theorem dX12_isPerson_2 : decode cX12_isPerson 2 = .ok (.bipush 19, 2) := zo_p16 zh_cX12_isPerson_0 2 19 rfl rfl
theorem dX12_isPerson_4 : decode cX12_isPerson 4 = .ok (.invokestatic 147, 3) := zo_184 zh_cX12_isPerson_0 4 rfl
theorem dX12_isPerson_7 : decode cX12_isPerson 7 = .ok (.ireturn, 1) := zo_172 zh_cX12_isPerson_0 7 rfl
abbrev z_X12_isPerson : List Cond := .code yX12_isPerson cX12_isPerson 1 (some .boolean) :: zW
abbrev wl_X12_isPerson (ad : Nat → Nat) (cs : Nat → ClassId)   : va_W := []
def Q_X12_isPerson (D : va_G) (cs : Nat → ClassId) (ad : Nat → Nat)   (A : Nat → Prop) (R : Int32 × Unit) : Array Value → State → Outcome → State → Prop :=
  va_Qi (fun (r : Int32) (u : Unit) => (r, u) = R) (fun (u : Unit) (t : State) => va_P D classes (wl_X12_isPerson ad cs ) t.heap ∧ va_D A (wl_X12_isPerson ad cs )) A
abbrev rm_X12_isPerson : Room := { frames := 1, cells := 0, slots := 0, locals := 22 }
def B_X12_isPerson_0     (x0 : Int32) : Option (Int32 × Unit) :=
  (zk_b2 (f_X12_in x0 (0 : Int32) (19 : Int32)) (fun r_1 u_2 => (if ¬ (r_1 = 0 ∨ r_1 = 1) then none else (some (r_1, ())))))
def f_X12_isPerson   (x0 : Int32)  : Option (Int32 × Unit) := B_X12_isPerson_0    x0 
set_option maxHeartbeats 4000000 in
set_option maxRecDepth 100000 in
theorem L_X12_isPerson_0 {p : Program} {l : Launch} {e : Env} {s : State} {m : MethodId} {args : Array Value} {below : List Frame} {meth : Method} {c : Code} {A : Nat → Prop} {D : va_G} {cs : Nat → ClassId} {ad : Nat → Nat} {R : Int32 × Unit} (C0 : zC p s m args meth c cX12_isPerson 1 (some .boolean) RX12 zW) (hK : va_K D classes (zT cs) s) (hA : ∀ q : Nat, s.heap.size ≤ q → A q) (x0 : Int32) (h : B_X12_isPerson_0 x0 = some R) (H : Heap) (locs : List Loc) (ls : Array Slot) (hP : va_P D classes (wl_X12_isPerson ad cs ) H) (hD : va_D A (wl_X12_isPerson ad cs )) (hS : va_S A s.heap H locs) (hl : lv_has ls 1 [(0, .int x0)]) : W p l e rm_X12_isPerson s m args below meth c H locs 0 0 (MQ below (Q_X12_isPerson D cs ad  A R) args s 0 0 A) (F0 m 0 ls []) := by
  obtain ⟨hx, hb, hr, hml, hown, ht, hlocks⟩ := id C0
  refine lv_iload_n hx hb dX12_isPerson_0 rfl (lv_at hl 0 rfl) ?_
  refine lv_iconst (v := (0 : Int32)) hx hb dX12_isPerson_1 (by decide) ?_
  refine lv_bipush (v := (19 : Int32)) hx hb dX12_isPerson_2 (by decide) ?_
  obtain ⟨r_1, u_2, hc_3, h⟩ := zk_o2 h
  refine zz_si (post := (fun r u => (r, u) = (r_1, u_2))) (w1 := fun u => (wl_X12_in ad cs )) (As := [.int x0, .int (0 : Int32), .int (19 : Int32)]) (rest := []) (c_X12_in l D cs ad  H.size x0 (0 : Int32) (19 : Int32) (r_1, u_2) hc_3) ⟨hx, hb, hml, hown, ht⟩ (va_cwS 3 ht g_X12_147 rfl rfl rfl hd_X12_in ⟨Nat.le_of_ble_eq_true rfl, Nat.le_of_ble_eq_true rfl⟩) hP hD hS hK hA [] rfl rfl [] rfl (fun _ => rfl) rfl hl.1 (Nat.le_of_ble_eq_true rfl) dX12_isPerson_4 ⟨Nat.zero_le _, Nat.zero_le _⟩ (fun r u H locs hq hP hS => ?_)
  cases hq
  have hP : va_P D classes (wl_X12_isPerson ad cs ) H := hP
  obtain ⟨g_4, h⟩ := zk_gd h
  exact W.zret (ty := .boolean) (v := r_1) hx hb hr (zk_nz g_4) (fun t ht2 hW => ⟨⟨r_1, (), rfl, Option.some.inj h, by rw [ht2]; exact hP, hD⟩, hS.F ht2⟩) hS.2.2 dX12_isPerson_7 hlocks
set_option maxHeartbeats 4000000 in
set_option maxRecDepth 100000 in
theorem c_X12_isPerson (l : Launch) (D : va_G) (cs : Nat → ClassId) (ad : Nat → Nat) (sz : Nat) (x0 : Int32)  (R : Int32 × Unit) (h : f_X12_isPerson   x0  = some R) : Met l yX12_isPerson (z_X12_isPerson) rm_X12_isPerson (va_Pc [.int x0] (zPre D cs (wl_X12_isPerson ad cs ) sz)) (Q_X12_isPerson D cs ad  (va_A (wl_X12_isPerson ad cs ) sz) R) 0 0 (va_A (wl_X12_isPerson ad cs ) sz) := by
  refine Met.ofW (cc := cX12_isPerson) (maxL := 1) (ret := (some .boolean)) (by decide) rfl ?_
  intro p e s m args below meth c s₁ B hml hv
  obtain ⟨rfl, hsz, hP, hK, hD0⟩ := hv
  subst hsz
  have hD := hD0.self (sz := s.heap.size)
  have C0 : zC p s m _ meth c cX12_isPerson 1 (some .boolean) RX12 zW := ⟨B.exec, B.bytes, B.returns, hml, findClass_of_methodNamed B.named, fun w hw => atoms_spec (ws := z_X12_isPerson) B.pre w (List.mem_cons_of_mem _ hw), B.notSynchronized⟩
  have hA : ∀ q : Nat, s.heap.size ≤ q → va_A (wl_X12_isPerson ad cs ) s.heap.size q := fun q h => Or.inr h
  have hl := lv_entry ([.int x0]) (n := 1) (Nat.le_of_ble_eq_true rfl)
  rw [lg_entry_eq]
  generalize (lg_sl ([.int x0]) ++ List.replicate (1 - (lg_sl ([.int x0])).length) Slot.unset).toArray = ls at hl ⊢
  exact L_X12_isPerson_0 C0 hK hA   x0  h s.heap [] ls hP hD va_S.rf hl
theorem kw_1297 : Cond.fieldLink RX12 7 "AlreadyJudgedModel" "wearer" "[I" ∈ zW := zwC (i := 23) zc_6 rfl rfl
theorem kw_1298 : Cond.fieldLink RX12 13 "AlreadyJudgedModel" "wornFor" "[I" ∈ zW := zwC (i := 24) zc_6 rfl rfl
theorem kw_1299 : Cond.fieldLink RX12 16 "AlreadyJudgedModel" "shoeSort" "[I" ∈ zW := zwC (i := 25) zc_6 rfl rfl
theorem kw_1300 : Cond.fieldLink RX12 19 "AlreadyJudgedModel" "shoeDay" "[I" ∈ zW := zwC (i := 26) zc_6 rfl rfl
theorem kw_1482 : Cond.methodLink RX12 164 yX12_isPerson ∈ zW := zwC (i := 208) zc_6 rfl rfl
theorem kw_1483 : Cond.static yX12_isPerson ∈ zW := zwC (i := 209) zc_6 rfl rfl
theorem kw_1484 : Cond.code yX12_isPerson cX12_isPerson 1 (some .boolean) ∈ zW := zwC (i := 210) zc_6 rfl rfl
theorem zh_cX12_shoe_0 : zck [27, 184, 0, 164, 153, 0, 32, 28, 184, 0, 164, 153, 0, 25, 27, 28, 159, 0, 20, 29, 4, 8] (zdu 0 cX12_shoe.data.toList) = true := by decide +kernel
theorem dX12_shoe_0 : decode cX12_shoe 0 = .ok (.iload_n 1, 1) := zo_27 zh_cX12_shoe_0 0 rfl
theorem dX12_shoe_1 : decode cX12_shoe 1 = .ok (.invokestatic 164, 3) := zo_184 zh_cX12_shoe_0 1 rfl
theorem dX12_shoe_4 : decode cX12_shoe 4 = .ok (.ifCond .eq 32, 3) := zo_p153 zh_cX12_shoe_0 4 32 rfl rfl
theorem dX12_shoe_7 : decode cX12_shoe 7 = .ok (.iload_n 2, 1) := zo_28 zh_cX12_shoe_0 7 rfl
theorem dX12_shoe_8 : decode cX12_shoe 8 = .ok (.invokestatic 164, 3) := zo_184 zh_cX12_shoe_0 8 rfl
theorem dX12_shoe_11 : decode cX12_shoe 11 = .ok (.ifCond .eq 25, 3) := zo_p153 zh_cX12_shoe_0 11 25 rfl rfl
theorem dX12_shoe_14 : decode cX12_shoe 14 = .ok (.iload_n 1, 1) := zo_27 zh_cX12_shoe_0 14 rfl
theorem dX12_shoe_15 : decode cX12_shoe 15 = .ok (.iload_n 2, 1) := zo_28 zh_cX12_shoe_0 15 rfl
theorem zo_p159 {c : ByteArray} {s : Nat} {K : List Nat} (h : zck K (zdu s c.data.toList) = true) (k : Nat) (v : Nat) (hk : zt3 K k 159 v = true) (hv : Nat.ble v 32767 = true) : decode c (s + k) = .ok (.if_icmp .eq (Int.ofNat v), 3) := by
  rw [← zsg16 hv]
  exact zde ((zbd (zu1 (zh3 h hk).1)).trans ((zbd (f := fun x => pure (Instr.if_icmp .eq x)) (zdmp (zh3 h hk).2)).trans rfl))
theorem dX12_shoe_16 : decode cX12_shoe 16 = .ok (.if_icmp .eq 20, 3) := zo_p159 zh_cX12_shoe_0 16 20 rfl rfl
theorem zo_29 {c : ByteArray} {s : Nat} {K : List Nat} (h : zck K (zdu s c.data.toList) = true) (k : Nat) (hk : zt1 K k 29 = true) : decode c (s + k) = .ok (.iload_n 3, 1) := zde ((zbd (zu1 (zh1 h hk))).trans rfl)
theorem dX12_shoe_19 : decode cX12_shoe 19 = .ok (.iload_n 3, 1) := zo_29 zh_cX12_shoe_0 19 rfl
theorem zh_cX12_shoe_1 : zck [4, 8, 184, 0, 147, 153, 0, 11, 21, 4, 184, 0, 151, 154, 0, 5, 2, 172, 42, 180, 0, 158] (zdu 20 cX12_shoe.data.toList) = true := by decide +kernel
theorem dX12_shoe_20 : decode cX12_shoe 20 = .ok (.iconst 1, 1) := zo_4 zh_cX12_shoe_1 0 rfl
theorem zo_8 {c : ByteArray} {s : Nat} {K : List Nat} (h : zck K (zdu s c.data.toList) = true) (k : Nat) (hk : zt1 K k 8 = true) : decode c (s + k) = .ok (.iconst 5, 1) := zde ((zbd (zu1 (zh1 h hk))).trans rfl)
theorem dX12_shoe_21 : decode cX12_shoe 21 = .ok (.iconst 5, 1) := zo_8 zh_cX12_shoe_1 1 rfl
theorem dX12_shoe_22 : decode cX12_shoe 22 = .ok (.invokestatic 147, 3) := zo_184 zh_cX12_shoe_1 2 rfl
theorem dX12_shoe_25 : decode cX12_shoe 25 = .ok (.ifCond .eq 11, 3) := zo_p153 zh_cX12_shoe_1 5 11 rfl rfl
theorem zo_21 {c : ByteArray} {s : Nat} {K : List Nat} (h : zck K (zdu s c.data.toList) = true) (k : Nat) {v : Nat} (hk : zt2 K k 21 v = true) : decode c (s + k) = .ok (.iload v, 2) := zde ((zbd (zu1 (zh2 h hk).1)).trans ((zbd (f := fun x => pure (Instr.iload x)) (zh2 h hk).2).trans rfl))
theorem dX12_shoe_28 : decode cX12_shoe 28 = .ok (.iload 4, 2) := zo_21 zh_cX12_shoe_1 8 rfl
theorem dX12_shoe_30 : decode cX12_shoe 30 = .ok (.invokestatic 151, 3) := zo_184 zh_cX12_shoe_1 10 rfl
theorem zo_p154 {c : ByteArray} {s : Nat} {K : List Nat} (h : zck K (zdu s c.data.toList) = true) (k : Nat) (v : Nat) (hk : zt3 K k 154 v = true) (hv : Nat.ble v 32767 = true) : decode c (s + k) = .ok (.ifCond .ne (Int.ofNat v), 3) := by
  rw [← zsg16 hv]
  exact zde ((zbd (zu1 (zh3 h hk).1)).trans ((zbd (f := fun x => pure (Instr.ifCond .ne x)) (zdmp (zh3 h hk).2)).trans rfl))
theorem dX12_shoe_33 : decode cX12_shoe 33 = .ok (.ifCond .ne 5, 3) := zo_p154 zh_cX12_shoe_1 13 5 rfl rfl
theorem zo_2 {c : ByteArray} {s : Nat} {K : List Nat} (h : zck K (zdu s c.data.toList) = true) (k : Nat) (hk : zt1 K k 2 = true) : decode c (s + k) = .ok (.iconst (-1), 1) := zde ((zbd (zu1 (zh1 h hk))).trans rfl)
theorem dX12_shoe_36 : decode cX12_shoe 36 = .ok (.iconst (-1), 1) := zo_2 zh_cX12_shoe_1 16 rfl
theorem dX12_shoe_37 : decode cX12_shoe 37 = .ok (.ireturn, 1) := zo_172 zh_cX12_shoe_1 17 rfl
theorem dX12_shoe_38 : decode cX12_shoe 38 = .ok (.aload_n 0, 1) := zo_42 zh_cX12_shoe_1 18 rfl
theorem dX12_shoe_39 : decode cX12_shoe 39 = .ok (.getfield 158, 3) := zo_180 zh_cX12_shoe_1 19 rfl
theorem zh_cX12_shoe_2 : zck [0, 158, 16, 40, 160, 0, 6, 16, 253, 172, 42, 180, 0, 7, 42, 180, 0, 158, 27, 79, 42, 180] (zdu 40 cX12_shoe.data.toList) = true := by decide +kernel
theorem dX12_shoe_42 : decode cX12_shoe 42 = .ok (.bipush 40, 2) := zo_p16 zh_cX12_shoe_2 2 40 rfl rfl
theorem zo_p160 {c : ByteArray} {s : Nat} {K : List Nat} (h : zck K (zdu s c.data.toList) = true) (k : Nat) (v : Nat) (hk : zt3 K k 160 v = true) (hv : Nat.ble v 32767 = true) : decode c (s + k) = .ok (.if_icmp .ne (Int.ofNat v), 3) := by
  rw [← zsg16 hv]
  exact zde ((zbd (zu1 (zh3 h hk).1)).trans ((zbd (f := fun x => pure (Instr.if_icmp .ne x)) (zdmp (zh3 h hk).2)).trans rfl))
theorem dX12_shoe_44 : decode cX12_shoe 44 = .ok (.if_icmp .ne 6, 3) := zo_p160 zh_cX12_shoe_2 4 6 rfl rfl
theorem zo_n16 {c : ByteArray} {s : Nat} {K : List Nat} (h : zck K (zdu s c.data.toList) = true) (k : Nat) (m : Nat) (hk : zt2 K k 16 (Nat.sub 255 m) = true) (hv : Nat.ble m 127 = true) : decode c (s + k) = .ok (.bipush (Int.negSucc m), 2) := by
  rw [← zsn8 hv rfl]
  exact zde ((zbd (zu1 (zh2 h hk).1)).trans ((zbd (f := fun x => pure (Instr.bipush x)) (zdmp (zh2 h hk).2)).trans rfl))
theorem dX12_shoe_47 : decode cX12_shoe 47 = .ok (.bipush (-3), 2) := zo_n16 zh_cX12_shoe_2 7 2 rfl rfl
theorem dX12_shoe_49 : decode cX12_shoe 49 = .ok (.ireturn, 1) := zo_172 zh_cX12_shoe_2 9 rfl
theorem dX12_shoe_50 : decode cX12_shoe 50 = .ok (.aload_n 0, 1) := zo_42 zh_cX12_shoe_2 10 rfl
theorem dX12_shoe_51 : decode cX12_shoe 51 = .ok (.getfield 7, 3) := zo_180 zh_cX12_shoe_2 11 rfl
theorem dX12_shoe_54 : decode cX12_shoe 54 = .ok (.aload_n 0, 1) := zo_42 zh_cX12_shoe_2 14 rfl
theorem dX12_shoe_55 : decode cX12_shoe 55 = .ok (.getfield 158, 3) := zo_180 zh_cX12_shoe_2 15 rfl
theorem dX12_shoe_58 : decode cX12_shoe 58 = .ok (.iload_n 1, 1) := zo_27 zh_cX12_shoe_2 18 rfl
theorem zo_79 {c : ByteArray} {s : Nat} {K : List Nat} (h : zck K (zdu s c.data.toList) = true) (k : Nat) (hk : zt1 K k 79 = true) : decode c (s + k) = .ok (.iastore, 1) := zde ((zbd (zu1 (zh1 h hk))).trans rfl)
theorem dX12_shoe_59 : decode cX12_shoe 59 = .ok (.iastore, 1) := zo_79 zh_cX12_shoe_2 19 rfl
theorem zh_cX12_shoe_3 : zck [42, 180, 0, 13, 42, 180, 0, 158, 28, 79, 42, 180, 0, 16, 42, 180, 0, 158, 29, 79, 42, 180] (zdu 60 cX12_shoe.data.toList) = true := by decide +kernel
theorem dX12_shoe_60 : decode cX12_shoe 60 = .ok (.aload_n 0, 1) := zo_42 zh_cX12_shoe_3 0 rfl
theorem dX12_shoe_61 : decode cX12_shoe 61 = .ok (.getfield 13, 3) := zo_180 zh_cX12_shoe_3 1 rfl
theorem dX12_shoe_64 : decode cX12_shoe 64 = .ok (.aload_n 0, 1) := zo_42 zh_cX12_shoe_3 4 rfl
theorem dX12_shoe_65 : decode cX12_shoe 65 = .ok (.getfield 158, 3) := zo_180 zh_cX12_shoe_3 5 rfl
theorem dX12_shoe_68 : decode cX12_shoe 68 = .ok (.iload_n 2, 1) := zo_28 zh_cX12_shoe_3 8 rfl
theorem dX12_shoe_69 : decode cX12_shoe 69 = .ok (.iastore, 1) := zo_79 zh_cX12_shoe_3 9 rfl
theorem dX12_shoe_70 : decode cX12_shoe 70 = .ok (.aload_n 0, 1) := zo_42 zh_cX12_shoe_3 10 rfl
theorem dX12_shoe_71 : decode cX12_shoe 71 = .ok (.getfield 16, 3) := zo_180 zh_cX12_shoe_3 11 rfl
theorem dX12_shoe_74 : decode cX12_shoe 74 = .ok (.aload_n 0, 1) := zo_42 zh_cX12_shoe_3 14 rfl
theorem dX12_shoe_75 : decode cX12_shoe 75 = .ok (.getfield 158, 3) := zo_180 zh_cX12_shoe_3 15 rfl
theorem dX12_shoe_78 : decode cX12_shoe 78 = .ok (.iload_n 3, 1) := zo_29 zh_cX12_shoe_3 18 rfl
theorem dX12_shoe_79 : decode cX12_shoe 79 = .ok (.iastore, 1) := zo_79 zh_cX12_shoe_3 19 rfl
theorem zh_cX12_shoe_4 : zck [42, 180, 0, 19, 42, 180, 0, 158, 21, 4, 79, 42, 89, 180, 0, 158, 4, 96, 181, 0, 158, 42] (zdu 80 cX12_shoe.data.toList) = true := by decide +kernel
theorem dX12_shoe_80 : decode cX12_shoe 80 = .ok (.aload_n 0, 1) := zo_42 zh_cX12_shoe_4 0 rfl
theorem dX12_shoe_81 : decode cX12_shoe 81 = .ok (.getfield 19, 3) := zo_180 zh_cX12_shoe_4 1 rfl
theorem dX12_shoe_84 : decode cX12_shoe 84 = .ok (.aload_n 0, 1) := zo_42 zh_cX12_shoe_4 4 rfl
theorem dX12_shoe_85 : decode cX12_shoe 85 = .ok (.getfield 158, 3) := zo_180 zh_cX12_shoe_4 5 rfl
theorem dX12_shoe_88 : decode cX12_shoe 88 = .ok (.iload 4, 2) := zo_21 zh_cX12_shoe_4 8 rfl
theorem dX12_shoe_90 : decode cX12_shoe 90 = .ok (.iastore, 1) := zo_79 zh_cX12_shoe_4 10 rfl
theorem dX12_shoe_91 : decode cX12_shoe 91 = .ok (.aload_n 0, 1) := zo_42 zh_cX12_shoe_4 11 rfl
theorem zo_89 {c : ByteArray} {s : Nat} {K : List Nat} (h : zck K (zdu s c.data.toList) = true) (k : Nat) (hk : zt1 K k 89 = true) : decode c (s + k) = .ok (.dup, 1) := zde ((zbd (zu1 (zh1 h hk))).trans rfl)
theorem dX12_shoe_92 : decode cX12_shoe 92 = .ok (.dup, 1) := zo_89 zh_cX12_shoe_4 12 rfl
theorem dX12_shoe_93 : decode cX12_shoe 93 = .ok (.getfield 158, 3) := zo_180 zh_cX12_shoe_4 13 rfl
theorem dX12_shoe_96 : decode cX12_shoe 96 = .ok (.iconst 1, 1) := zo_4 zh_cX12_shoe_4 16 rfl
theorem zo_96 {c : ByteArray} {s : Nat} {K : List Nat} (h : zck K (zdu s c.data.toList) = true) (k : Nat) (hk : zt1 K k 96 = true) : decode c (s + k) = .ok (.iadd, 1) := zde ((zbd (zu1 (zh1 h hk))).trans rfl)
theorem dX12_shoe_97 : decode cX12_shoe 97 = .ok (.iadd, 1) := zo_96 zh_cX12_shoe_4 17 rfl
theorem zo_181 {c : ByteArray} {s : Nat} {K : List Nat} (h : zck K (zdu s c.data.toList) = true) (k : Nat) {v : Nat} (hk : zt3 K k 181 v = true) : decode c (s + k) = .ok (.putfield v, 3) := zde ((zbd (zu1 (zh3 h hk).1)).trans ((zbd (f := fun x => pure (Instr.putfield x)) (zh3 h hk).2).trans rfl))
theorem dX12_shoe_98 : decode cX12_shoe 98 = .ok (.putfield 158, 3) := zo_181 zh_cX12_shoe_4 18 rfl
theorem zh_cX12_shoe_5 : zck [158, 42, 180, 0, 158, 4, 100, 172] (zdu 100 cX12_shoe.data.toList) = true := by decide +kernel
theorem dX12_shoe_101 : decode cX12_shoe 101 = .ok (.aload_n 0, 1) := zo_42 zh_cX12_shoe_5 1 rfl
theorem dX12_shoe_102 : decode cX12_shoe 102 = .ok (.getfield 158, 3) := zo_180 zh_cX12_shoe_5 2 rfl
theorem dX12_shoe_105 : decode cX12_shoe 105 = .ok (.iconst 1, 1) := zo_4 zh_cX12_shoe_5 5 rfl
theorem dX12_shoe_106 : decode cX12_shoe 106 = .ok (.isub, 1) := zo_100 zh_cX12_shoe_5 6 rfl
theorem dX12_shoe_107 : decode cX12_shoe 107 = .ok (.ireturn, 1) := zo_172 zh_cX12_shoe_5 7 rfl
abbrev z_X12_shoe : List Cond := .code yX12_shoe cX12_shoe 5 (some .int) :: zW
abbrev wl_X12_shoe (ad : Nat → Nat) (cs : Nat → ClassId)  (mod_code : Int32) (mod_shoes : Int32) (mod_claims : Int32) (mod_taped : Int32) (mod_here : Int32) (mod_fault : Int32) (mod_suits : Int32) (mod_doneMany : Int32) (mod_undoneMany : Int32) (mod_open : Int32) (mod_laid : Int32) (mod_isBoth : Int32) (mod_wished : Int32) (mod_bestMany : Int32) (mod_bestRow : Int32) (mod_ringDigits : Int32) (mod_traces : Int32) (mod_wearer : Nat → Int32) (mod_wornFor : Nat → Int32) (mod_shoeSort : Nat → Int32) (mod_shoeDay : Nat → Int32) : va_W := [((ad 41), .inr (12, [.int mod_code, .int mod_shoes, .ref (ad 42), .ref (ad 43), .ref (ad 44), .ref (ad 45), .int mod_claims, .ref (ad 46), .ref (ad 47), .ref (ad 48), .ref (ad 49), .ref (ad 50), .int mod_taped, .int mod_here, .int mod_fault, .int mod_suits, .ref (ad 51), .ref (ad 52), .ref (ad 53), .ref (ad 54), .ref (ad 55), .ref (ad 56), .ref (ad 57), .ref (ad 58), .ref (ad 59), .ref (ad 60), .ref (ad 61), .int mod_doneMany, .int mod_undoneMany, .ref (ad 62), .ref (ad 63), .ref (ad 64), .ref (ad 65), .int mod_open, .int mod_laid, .ref (ad 66), .ref (ad 67), .ref (ad 68), .ref (ad 69), .ref (ad 70), .ref (ad 71), .ref (ad 72), .ref (ad 73), .ref (ad 74), .ref (ad 75), .int mod_isBoth, .int mod_wished, .ref (ad 76), .ref (ad 77), .int mod_bestMany, .int mod_bestRow, .ref (ad 78), .ref (ad 79), .int mod_ringDigits, .int mod_traces, .ref (ad 80), .ref (ad 81), .ref (ad 82), .ref (ad 83), .ref (ad 84)])), ((ad 42), .inl (cs 0, 40, .inl mod_wearer)), ((ad 43), .inl (cs 0, 40, .inl mod_wornFor)), ((ad 44), .inl (cs 0, 40, .inl mod_shoeSort)), ((ad 45), .inl (cs 0, 40, .inl mod_shoeDay))]
def Q_X12_shoe (D : va_G) (cs : Nat → ClassId) (ad : Nat → Nat)  (mod_code : Int32) (mod_claims : Int32) (mod_taped : Int32) (mod_here : Int32) (mod_fault : Int32) (mod_suits : Int32) (mod_doneMany : Int32) (mod_undoneMany : Int32) (mod_open : Int32) (mod_laid : Int32) (mod_isBoth : Int32) (mod_wished : Int32) (mod_bestMany : Int32) (mod_bestRow : Int32) (mod_ringDigits : Int32) (mod_traces : Int32) (A : Nat → Prop) (R : Int32 × Int32 × (Nat → Int32) × (Nat → Int32) × (Nat → Int32) × (Nat → Int32)) : Array Value → State → Outcome → State → Prop :=
  va_Qi (fun (r : Int32) (u : Int32 × (Nat → Int32) × (Nat → Int32) × (Nat → Int32) × (Nat → Int32)) => (r, u) = R) (fun (u : Int32 × (Nat → Int32) × (Nat → Int32) × (Nat → Int32) × (Nat → Int32)) (t : State) => va_P D classes (wl_X12_shoe ad cs mod_code u.1 mod_claims mod_taped mod_here mod_fault mod_suits mod_doneMany mod_undoneMany mod_open mod_laid mod_isBoth mod_wished mod_bestMany mod_bestRow mod_ringDigits mod_traces u.2.1 u.2.2.1 u.2.2.2.1 u.2.2.2.2) t.heap ∧ va_D A (wl_X12_shoe ad cs mod_code u.1 mod_claims mod_taped mod_here mod_fault mod_suits mod_doneMany mod_undoneMany mod_open mod_laid mod_isBoth mod_wished mod_bestMany mod_bestRow mod_ringDigits mod_traces u.2.1 u.2.2.1 u.2.2.2.1 u.2.2.2.2)) A
abbrev rm_X12_shoe : Room := { frames := 2, cells := 0, slots := 0, locals := 42 }
theorem g_X12_164 : GoodIn zW (va_wsS RX12 164 yX12_isPerson z_X12_isPerson) := zGS kw_1482 kw_1483 kw_95 kw_1484
theorem hd_X12_isPerson : yX12_isPerson.cls ≠ "java/lang/invoke/MethodHandle" ∧ yX12_isPerson.cls ≠ "java/lang/invoke/VarHandle" ∧ (parseMethodDescriptor yX12_isPerson.desc).map (fun d => d.parameters.length) = some 1 := by decide +kernel
def B_X12_shoe_0    (mod_code : Int32) (mod_claims : Int32) (mod_taped : Int32) (mod_here : Int32) (mod_fault : Int32) (mod_suits : Int32) (mod_doneMany : Int32) (mod_undoneMany : Int32) (mod_open : Int32) (mod_laid : Int32) (mod_isBoth : Int32) (mod_wished : Int32) (mod_bestMany : Int32) (mod_bestRow : Int32) (mod_ringDigits : Int32) (mod_traces : Int32) (x1 : Int32) (x2 : Int32) (x3 : Int32) (x4 : Int32) (mod_shoes : Int32) (mod_wearer : Nat → Int32) (mod_wornFor : Nat → Int32) (mod_shoeSort : Nat → Int32) (mod_shoeDay : Nat → Int32) : Option (Int32 × Int32 × (Nat → Int32) × (Nat → Int32) × (Nat → Int32) × (Nat → Int32)) :=
  (zk_b2 (f_X12_isPerson x1) (fun r_1 u_2 => (if r_1 = 0 then (some ((-1 : Int32), mod_shoes, mod_wearer, mod_wornFor, mod_shoeSort, mod_shoeDay)) else (zk_b2 (f_X12_isPerson x2) (fun r_5 u_6 => (if r_5 = 0 then (some ((-1 : Int32), mod_shoes, mod_wearer, mod_wornFor, mod_shoeSort, mod_shoeDay)) else (if x1 = x2 then (some ((-1 : Int32), mod_shoes, mod_wearer, mod_wornFor, mod_shoeSort, mod_shoeDay)) else (zk_b2 (f_X12_in x3 (1 : Int32) (5 : Int32)) (fun r_10 u_11 => (if r_10 = 0 then (some ((-1 : Int32), mod_shoes, mod_wearer, mod_wornFor, mod_shoeSort, mod_shoeDay)) else (zk_b2 (f_X12_isDay x4) (fun r_14 u_15 => (if r_14 = 0 then (some ((-1 : Int32), mod_shoes, mod_wearer, mod_wornFor, mod_shoeSort, mod_shoeDay)) else (if mod_shoes = (40 : Int32) then (some ((-3 : Int32), mod_shoes, mod_wearer, mod_wornFor, mod_shoeSort, mod_shoeDay)) else (if (mod_shoes < 0 ∨ 40 ≤ mod_shoes.toNatClampNeg) then none else (zk_let (upd mod_wearer mod_shoes.toNatClampNeg x1) (fun f_20 => (if (mod_shoes < 0 ∨ 40 ≤ mod_shoes.toNatClampNeg) then none else (zk_let (upd mod_wornFor mod_shoes.toNatClampNeg x2) (fun f_22 => (if (mod_shoes < 0 ∨ 40 ≤ mod_shoes.toNatClampNeg) then none else (zk_let (upd mod_shoeSort mod_shoes.toNatClampNeg x3) (fun f_24 => (if (mod_shoes < 0 ∨ 40 ≤ mod_shoes.toNatClampNeg) then none else (zk_let (upd mod_shoeDay mod_shoes.toNatClampNeg x4) (fun f_26 => (zk_let (mod_shoes + (1 : Int32)) (fun v_27 => (some (v_27 - (1 : Int32), v_27, f_20, f_22, f_24, f_26))))))))))))))))))))))))))))))
def f_X12_shoe   (x1 : Int32) (x2 : Int32) (x3 : Int32) (x4 : Int32) (mod_code : Int32) (mod_shoes : Int32) (mod_claims : Int32) (mod_taped : Int32) (mod_here : Int32) (mod_fault : Int32) (mod_suits : Int32) (mod_doneMany : Int32) (mod_undoneMany : Int32) (mod_open : Int32) (mod_laid : Int32) (mod_isBoth : Int32) (mod_wished : Int32) (mod_bestMany : Int32) (mod_bestRow : Int32) (mod_ringDigits : Int32) (mod_traces : Int32) (mod_wearer : Nat → Int32) (mod_wornFor : Nat → Int32) (mod_shoeSort : Nat → Int32) (mod_shoeDay : Nat → Int32) : Option (Int32 × Int32 × (Nat → Int32) × (Nat → Int32) × (Nat → Int32) × (Nat → Int32)) := B_X12_shoe_0   mod_code mod_claims mod_taped mod_here mod_fault mod_suits mod_doneMany mod_undoneMany mod_open mod_laid mod_isBoth mod_wished mod_bestMany mod_bestRow mod_ringDigits mod_traces x1 x2 x3 x4 mod_shoes mod_wearer mod_wornFor mod_shoeSort mod_shoeDay
set_option maxHeartbeats 4000000 in
set_option maxRecDepth 100000 in
theorem L_X12_shoe_0 {p : Program} {l : Launch} {e : Env} {s : State} {m : MethodId} {args : Array Value} {below : List Frame} {meth : Method} {c : Code} {A : Nat → Prop} {D : va_G} {cs : Nat → ClassId} {ad : Nat → Nat} {mod_code : Int32} {mod_claims : Int32} {mod_taped : Int32} {mod_here : Int32} {mod_fault : Int32} {mod_suits : Int32} {mod_doneMany : Int32} {mod_undoneMany : Int32} {mod_open : Int32} {mod_laid : Int32} {mod_isBoth : Int32} {mod_wished : Int32} {mod_bestMany : Int32} {mod_bestRow : Int32} {mod_ringDigits : Int32} {mod_traces : Int32} {R : Int32 × Int32 × (Nat → Int32) × (Nat → Int32) × (Nat → Int32) × (Nat → Int32)} (C0 : zC p s m args meth c cX12_shoe 5 (some .int) RX12 zW) (hK : va_K D classes (zT cs) s) (hA : ∀ q : Nat, s.heap.size ≤ q → A q) (x1 : Int32) (x2 : Int32) (x3 : Int32) (x4 : Int32) (mod_shoes : Int32) (mod_wearer : Nat → Int32) (mod_wornFor : Nat → Int32) (mod_shoeSort : Nat → Int32) (mod_shoeDay : Nat → Int32) (h : B_X12_shoe_0 mod_code mod_claims mod_taped mod_here mod_fault mod_suits mod_doneMany mod_undoneMany mod_open mod_laid mod_isBoth mod_wished mod_bestMany mod_bestRow mod_ringDigits mod_traces x1 x2 x3 x4 mod_shoes mod_wearer mod_wornFor mod_shoeSort mod_shoeDay = some R) (H : Heap) (locs : List Loc) (ls : Array Slot) (hP : va_P D classes (wl_X12_shoe ad cs mod_code mod_shoes mod_claims mod_taped mod_here mod_fault mod_suits mod_doneMany mod_undoneMany mod_open mod_laid mod_isBoth mod_wished mod_bestMany mod_bestRow mod_ringDigits mod_traces mod_wearer mod_wornFor mod_shoeSort mod_shoeDay) H) (hD : va_D A (wl_X12_shoe ad cs mod_code mod_shoes mod_claims mod_taped mod_here mod_fault mod_suits mod_doneMany mod_undoneMany mod_open mod_laid mod_isBoth mod_wished mod_bestMany mod_bestRow mod_ringDigits mod_traces mod_wearer mod_wornFor mod_shoeSort mod_shoeDay)) (hS : va_S A s.heap H locs) (hl : lv_has ls 5 [(0, .ref (ad 41)), (1, .int x1), (2, .int x2), (3, .int x3), (4, .int x4)]) : W p l e rm_X12_shoe s m args below meth c H locs 0 0 (MQ below (Q_X12_shoe D cs ad mod_code mod_claims mod_taped mod_here mod_fault mod_suits mod_doneMany mod_undoneMany mod_open mod_laid mod_isBoth mod_wished mod_bestMany mod_bestRow mod_ringDigits mod_traces A R) args s 0 0 A) (F0 m 0 ls []) := by
  obtain ⟨hx, hb, hr, hml, hown, ht, hlocks⟩ := id C0
  refine lv_iload_n hx hb dX12_shoe_0 rfl (lv_at hl 1 rfl) ?_
  obtain ⟨r_1, u_2, hc_3, h⟩ := zk_o2 h
  refine zz_si (post := (fun r u => (r, u) = (r_1, u_2))) (w1 := fun u => (wl_X12_isPerson ad cs )) (As := [.int x1]) (rest := []) (c_X12_isPerson l D cs ad  H.size x1 (r_1, u_2) hc_3) ⟨hx, hb, hml, hown, ht⟩ (va_cwS 1 ht g_X12_164 rfl rfl rfl hd_X12_isPerson ⟨Nat.le_of_ble_eq_true rfl, Nat.le_of_ble_eq_true rfl⟩) hP hD hS hK hA [] rfl rfl [] rfl (fun _ => rfl) rfl hl.1 (Nat.le_of_ble_eq_true rfl) dX12_shoe_1 ⟨Nat.zero_le _, Nat.zero_le _⟩ (fun r u H locs hq hP hS => ?_)
  cases hq
  have hP : va_P D classes (wl_X12_shoe ad cs mod_code mod_shoes mod_claims mod_taped mod_here mod_fault mod_suits mod_doneMany mod_undoneMany mod_open mod_laid mod_isBoth mod_wished mod_bestMany mod_bestRow mod_ringDigits mod_traces mod_wearer mod_wornFor mod_shoeSort mod_shoeDay) H := hP
  refine lv_if_eq (tgt := 36) hx hb dX12_shoe_4 (by decide) (fun c_4 => ?_) (fun c_4 => ?_)
  · have h := zk_t c_4 h
    refine lv_iconst (v := (-1 : Int32)) hx hb dX12_shoe_36 (by decide) ?_
    exact W.iret (v := (-1 : Int32)) hx hb hr (fun t ht2 hW => ⟨⟨(-1 : Int32), (mod_shoes, mod_wearer, mod_wornFor, mod_shoeSort, mod_shoeDay), rfl, Option.some.inj h, by rw [ht2]; exact hP, hD⟩, hS.F ht2⟩) hS.2.2 dX12_shoe_37 hlocks
  · have h := zk_f c_4 h
    refine lv_iload_n hx hb dX12_shoe_7 rfl (lv_at hl 2 rfl) ?_
    obtain ⟨r_5, u_6, hc_7, h⟩ := zk_o2 h
    refine zz_si (post := (fun r u => (r, u) = (r_5, u_6))) (w1 := fun u => (wl_X12_isPerson ad cs )) (As := [.int x2]) (rest := []) (c_X12_isPerson l D cs ad  H.size x2 (r_5, u_6) hc_7) ⟨hx, hb, hml, hown, ht⟩ (va_cwS 1 ht g_X12_164 rfl rfl rfl hd_X12_isPerson ⟨Nat.le_of_ble_eq_true rfl, Nat.le_of_ble_eq_true rfl⟩) hP hD hS hK hA [] rfl rfl [] rfl (fun _ => rfl) rfl hl.1 (Nat.le_of_ble_eq_true rfl) dX12_shoe_8 ⟨Nat.zero_le _, Nat.zero_le _⟩ (fun r u H locs hq hP hS => ?_)
    cases hq
    have hP : va_P D classes (wl_X12_shoe ad cs mod_code mod_shoes mod_claims mod_taped mod_here mod_fault mod_suits mod_doneMany mod_undoneMany mod_open mod_laid mod_isBoth mod_wished mod_bestMany mod_bestRow mod_ringDigits mod_traces mod_wearer mod_wornFor mod_shoeSort mod_shoeDay) H := hP
    refine lv_if_eq (tgt := 36) hx hb dX12_shoe_11 (by decide) (fun c_8 => ?_) (fun c_8 => ?_)
    · have h := zk_t c_8 h
      refine lv_iconst (v := (-1 : Int32)) hx hb dX12_shoe_36 (by decide) ?_
      exact W.iret (v := (-1 : Int32)) hx hb hr (fun t ht2 hW => ⟨⟨(-1 : Int32), (mod_shoes, mod_wearer, mod_wornFor, mod_shoeSort, mod_shoeDay), rfl, Option.some.inj h, by rw [ht2]; exact hP, hD⟩, hS.F ht2⟩) hS.2.2 dX12_shoe_37 hlocks
    · have h := zk_f c_8 h
      refine lv_iload_n hx hb dX12_shoe_14 rfl (lv_at hl 1 rfl) ?_
      refine lv_iload_n hx hb dX12_shoe_15 rfl (lv_at hl 2 rfl) ?_
      refine lv_icmp_eq (tgt := 36) hx hb dX12_shoe_16 (by decide) (fun c_9 => ?_) (fun c_9 => ?_)
      · have h := zk_t c_9 h
        refine lv_iconst (v := (-1 : Int32)) hx hb dX12_shoe_36 (by decide) ?_
        exact W.iret (v := (-1 : Int32)) hx hb hr (fun t ht2 hW => ⟨⟨(-1 : Int32), (mod_shoes, mod_wearer, mod_wornFor, mod_shoeSort, mod_shoeDay), rfl, Option.some.inj h, by rw [ht2]; exact hP, hD⟩, hS.F ht2⟩) hS.2.2 dX12_shoe_37 hlocks
      · have h := zk_f c_9 h
        refine lv_iload_n hx hb dX12_shoe_19 rfl (lv_at hl 3 rfl) ?_
        refine lv_iconst (v := (1 : Int32)) hx hb dX12_shoe_20 (by decide) ?_
        refine lv_iconst (v := (5 : Int32)) hx hb dX12_shoe_21 (by decide) ?_
        obtain ⟨r_10, u_11, hc_12, h⟩ := zk_o2 h
        refine zz_si (post := (fun r u => (r, u) = (r_10, u_11))) (w1 := fun u => (wl_X12_in ad cs )) (As := [.int x3, .int (1 : Int32), .int (5 : Int32)]) (rest := []) (c_X12_in l D cs ad  H.size x3 (1 : Int32) (5 : Int32) (r_10, u_11) hc_12) ⟨hx, hb, hml, hown, ht⟩ (va_cwS 3 ht g_X12_147 rfl rfl rfl hd_X12_in ⟨Nat.le_of_ble_eq_true rfl, Nat.le_of_ble_eq_true rfl⟩) hP hD hS hK hA [] rfl rfl [] rfl (fun _ => rfl) rfl hl.1 (Nat.le_of_ble_eq_true rfl) dX12_shoe_22 ⟨Nat.zero_le _, Nat.zero_le _⟩ (fun r u H locs hq hP hS => ?_)
        cases hq
        have hP : va_P D classes (wl_X12_shoe ad cs mod_code mod_shoes mod_claims mod_taped mod_here mod_fault mod_suits mod_doneMany mod_undoneMany mod_open mod_laid mod_isBoth mod_wished mod_bestMany mod_bestRow mod_ringDigits mod_traces mod_wearer mod_wornFor mod_shoeSort mod_shoeDay) H := hP
        refine lv_if_eq (tgt := 36) hx hb dX12_shoe_25 (by decide) (fun c_13 => ?_) (fun c_13 => ?_)
        · have h := zk_t c_13 h
          refine lv_iconst (v := (-1 : Int32)) hx hb dX12_shoe_36 (by decide) ?_
          exact W.iret (v := (-1 : Int32)) hx hb hr (fun t ht2 hW => ⟨⟨(-1 : Int32), (mod_shoes, mod_wearer, mod_wornFor, mod_shoeSort, mod_shoeDay), rfl, Option.some.inj h, by rw [ht2]; exact hP, hD⟩, hS.F ht2⟩) hS.2.2 dX12_shoe_37 hlocks
        · have h := zk_f c_13 h
          refine lv_iload hx hb dX12_shoe_28 (lv_at hl 4 rfl) ?_
          obtain ⟨r_14, u_15, hc_16, h⟩ := zk_o2 h
          refine zz_si (post := (fun r u => (r, u) = (r_14, u_15))) (w1 := fun u => (wl_X12_isDay ad cs )) (As := [.int x4]) (rest := []) (c_X12_isDay l D cs ad  H.size x4 (r_14, u_15) hc_16) ⟨hx, hb, hml, hown, ht⟩ (va_cwS 1 ht g_X12_151 rfl rfl rfl hd_X12_isDay ⟨Nat.le_of_ble_eq_true rfl, Nat.le_of_ble_eq_true rfl⟩) hP hD hS hK hA [] rfl rfl [] rfl (fun _ => rfl) rfl hl.1 (Nat.le_of_ble_eq_true rfl) dX12_shoe_30 ⟨Nat.zero_le _, Nat.zero_le _⟩ (fun r u H locs hq hP hS => ?_)
          cases hq
          have hP : va_P D classes (wl_X12_shoe ad cs mod_code mod_shoes mod_claims mod_taped mod_here mod_fault mod_suits mod_doneMany mod_undoneMany mod_open mod_laid mod_isBoth mod_wished mod_bestMany mod_bestRow mod_ringDigits mod_traces mod_wearer mod_wornFor mod_shoeSort mod_shoeDay) H := hP
          refine lv_if_ne (tgt := 38) hx hb dX12_shoe_33 (by decide) (fun c_17 => ?_) (fun c_17 => ?_)
          · have h := zk_f c_17 h
            refine lv_aload_n hx hb dX12_shoe_38 rfl (lv_at hl 0 rfl) ?_
            refine va_get (D := D) (ci := 12) (v := .int mod_shoes) (C := RX12) (T := TX12) (N := 60) hx hb ht iX12 hown hK hP 0 rfl rfl 1 (by decide) (ht _ kw_1296) (fun _ h9 => h9) rfl dX12_shoe_39 ?_
            refine lv_bipush (v := (40 : Int32)) hx hb dX12_shoe_42 (by decide) ?_
            refine lv_icmp_ne (tgt := 50) hx hb dX12_shoe_44 (by decide) (fun c_18 => ?_) (fun c_18 => ?_)
            · have h := zk_f c_18 h
              refine lv_aload_n hx hb dX12_shoe_50 rfl (lv_at hl 0 rfl) ?_
              refine va_get (D := D) (ci := 12) (v := .ref (ad 42)) (C := RX12) (T := TX12) (N := 60) hx hb ht iX12 hown hK hP 0 rfl rfl 2 (by decide) (ht _ kw_1297) (fun _ h9 => h9) rfl dX12_shoe_51 ?_
              refine lv_aload_n hx hb dX12_shoe_54 rfl (lv_at hl 0 rfl) ?_
              refine va_get (D := D) (ci := 12) (v := .int mod_shoes) (C := RX12) (T := TX12) (N := 60) hx hb ht iX12 hown hK hP 0 rfl rfl 1 (by decide) (ht _ kw_1296) (fun _ h9 => h9) rfl dX12_shoe_55 ?_
              refine lv_iload_n hx hb dX12_shoe_58 rfl (lv_at hl 1 rfl) ?_
              obtain ⟨g_19, h⟩ := zk_gd h
              obtain ⟨f_20, ef_20, h⟩ := zk_lt h
              refine va_iast hx hb hK hP hD hS 1 0 rfl rfl g_19 dX12_shoe_59 (fun H locs hP hD hS => ?_)
              have hP : va_P D classes (wl_X12_shoe ad cs mod_code mod_shoes mod_claims mod_taped mod_here mod_fault mod_suits mod_doneMany mod_undoneMany mod_open mod_laid mod_isBoth mod_wished mod_bestMany mod_bestRow mod_ringDigits mod_traces f_20 mod_wornFor mod_shoeSort mod_shoeDay) H := by rw [ef_20]; exact hP
              have hD : va_D A (wl_X12_shoe ad cs mod_code mod_shoes mod_claims mod_taped mod_here mod_fault mod_suits mod_doneMany mod_undoneMany mod_open mod_laid mod_isBoth mod_wished mod_bestMany mod_bestRow mod_ringDigits mod_traces f_20 mod_wornFor mod_shoeSort mod_shoeDay) := by rw [ef_20]; exact hD
              refine lv_aload_n hx hb dX12_shoe_60 rfl (lv_at hl 0 rfl) ?_
              refine va_get (D := D) (ci := 12) (v := .ref (ad 43)) (C := RX12) (T := TX12) (N := 60) hx hb ht iX12 hown hK hP 0 rfl rfl 3 (by decide) (ht _ kw_1298) (fun _ h9 => h9) rfl dX12_shoe_61 ?_
              refine lv_aload_n hx hb dX12_shoe_64 rfl (lv_at hl 0 rfl) ?_
              refine va_get (D := D) (ci := 12) (v := .int mod_shoes) (C := RX12) (T := TX12) (N := 60) hx hb ht iX12 hown hK hP 0 rfl rfl 1 (by decide) (ht _ kw_1296) (fun _ h9 => h9) rfl dX12_shoe_65 ?_
              refine lv_iload_n hx hb dX12_shoe_68 rfl (lv_at hl 2 rfl) ?_
              obtain ⟨g_21, h⟩ := zk_gd h
              obtain ⟨f_22, ef_22, h⟩ := zk_lt h
              refine va_iast hx hb hK hP hD hS 2 0 rfl rfl g_21 dX12_shoe_69 (fun H locs hP hD hS => ?_)
              have hP : va_P D classes (wl_X12_shoe ad cs mod_code mod_shoes mod_claims mod_taped mod_here mod_fault mod_suits mod_doneMany mod_undoneMany mod_open mod_laid mod_isBoth mod_wished mod_bestMany mod_bestRow mod_ringDigits mod_traces f_20 f_22 mod_shoeSort mod_shoeDay) H := by rw [ef_22]; exact hP
              have hD : va_D A (wl_X12_shoe ad cs mod_code mod_shoes mod_claims mod_taped mod_here mod_fault mod_suits mod_doneMany mod_undoneMany mod_open mod_laid mod_isBoth mod_wished mod_bestMany mod_bestRow mod_ringDigits mod_traces f_20 f_22 mod_shoeSort mod_shoeDay) := by rw [ef_22]; exact hD
              refine lv_aload_n hx hb dX12_shoe_70 rfl (lv_at hl 0 rfl) ?_
              refine va_get (D := D) (ci := 12) (v := .ref (ad 44)) (C := RX12) (T := TX12) (N := 60) hx hb ht iX12 hown hK hP 0 rfl rfl 4 (by decide) (ht _ kw_1299) (fun _ h9 => h9) rfl dX12_shoe_71 ?_
              refine lv_aload_n hx hb dX12_shoe_74 rfl (lv_at hl 0 rfl) ?_
              refine va_get (D := D) (ci := 12) (v := .int mod_shoes) (C := RX12) (T := TX12) (N := 60) hx hb ht iX12 hown hK hP 0 rfl rfl 1 (by decide) (ht _ kw_1296) (fun _ h9 => h9) rfl dX12_shoe_75 ?_
              refine lv_iload_n hx hb dX12_shoe_78 rfl (lv_at hl 3 rfl) ?_
              obtain ⟨g_23, h⟩ := zk_gd h
              obtain ⟨f_24, ef_24, h⟩ := zk_lt h
              refine va_iast hx hb hK hP hD hS 3 0 rfl rfl g_23 dX12_shoe_79 (fun H locs hP hD hS => ?_)
              have hP : va_P D classes (wl_X12_shoe ad cs mod_code mod_shoes mod_claims mod_taped mod_here mod_fault mod_suits mod_doneMany mod_undoneMany mod_open mod_laid mod_isBoth mod_wished mod_bestMany mod_bestRow mod_ringDigits mod_traces f_20 f_22 f_24 mod_shoeDay) H := by rw [ef_24]; exact hP
              have hD : va_D A (wl_X12_shoe ad cs mod_code mod_shoes mod_claims mod_taped mod_here mod_fault mod_suits mod_doneMany mod_undoneMany mod_open mod_laid mod_isBoth mod_wished mod_bestMany mod_bestRow mod_ringDigits mod_traces f_20 f_22 f_24 mod_shoeDay) := by rw [ef_24]; exact hD
              refine lv_aload_n hx hb dX12_shoe_80 rfl (lv_at hl 0 rfl) ?_
              refine va_get (D := D) (ci := 12) (v := .ref (ad 45)) (C := RX12) (T := TX12) (N := 60) hx hb ht iX12 hown hK hP 0 rfl rfl 5 (by decide) (ht _ kw_1300) (fun _ h9 => h9) rfl dX12_shoe_81 ?_
              refine lv_aload_n hx hb dX12_shoe_84 rfl (lv_at hl 0 rfl) ?_
              refine va_get (D := D) (ci := 12) (v := .int mod_shoes) (C := RX12) (T := TX12) (N := 60) hx hb ht iX12 hown hK hP 0 rfl rfl 1 (by decide) (ht _ kw_1296) (fun _ h9 => h9) rfl dX12_shoe_85 ?_
              refine lv_iload hx hb dX12_shoe_88 (lv_at hl 4 rfl) ?_
              obtain ⟨g_25, h⟩ := zk_gd h
              obtain ⟨f_26, ef_26, h⟩ := zk_lt h
              refine va_iast hx hb hK hP hD hS 4 0 rfl rfl g_25 dX12_shoe_90 (fun H locs hP hD hS => ?_)
              have hP : va_P D classes (wl_X12_shoe ad cs mod_code mod_shoes mod_claims mod_taped mod_here mod_fault mod_suits mod_doneMany mod_undoneMany mod_open mod_laid mod_isBoth mod_wished mod_bestMany mod_bestRow mod_ringDigits mod_traces f_20 f_22 f_24 f_26) H := by rw [ef_26]; exact hP
              have hD : va_D A (wl_X12_shoe ad cs mod_code mod_shoes mod_claims mod_taped mod_here mod_fault mod_suits mod_doneMany mod_undoneMany mod_open mod_laid mod_isBoth mod_wished mod_bestMany mod_bestRow mod_ringDigits mod_traces f_20 f_22 f_24 f_26) := by rw [ef_26]; exact hD
              refine lv_aload_n hx hb dX12_shoe_91 rfl (lv_at hl 0 rfl) ?_
              refine lv_dup hx hb dX12_shoe_92 rfl ?_
              refine va_get (D := D) (ci := 12) (v := .int mod_shoes) (C := RX12) (T := TX12) (N := 60) hx hb ht iX12 hown hK hP 0 rfl rfl 1 (by decide) (ht _ kw_1296) (fun _ h9 => h9) rfl dX12_shoe_93 ?_
              refine lv_iconst (v := (1 : Int32)) hx hb dX12_shoe_96 (by decide) ?_
              refine lv_iadd hx hb dX12_shoe_97 ?_
              obtain ⟨v_27, ev_27, h⟩ := zk_lt h
              refine W.eq (g2 := F0 m 98 ls [.int v_27, .ref (ad 41)]) (by rw [ev_27]) ?_
              refine va_put (D := D) (ci := 12) (v := .int v_27) (ty := .int) (C := RX12) (T := TX12) (N := 60) hx hb ht iX12 tyX12 tyX12_ok nmX12 hown hK hP hD hS 0 rfl rfl 1 (by decide) (ht _ kw_1296) (fun _ h9 => h9) rfl (by decide +kernel) rfl rfl (Nat.le_of_ble_eq_true rfl) dX12_shoe_98 (fun H locs hP hD hS => ?_)
              have hP : va_P D classes (wl_X12_shoe ad cs mod_code v_27 mod_claims mod_taped mod_here mod_fault mod_suits mod_doneMany mod_undoneMany mod_open mod_laid mod_isBoth mod_wished mod_bestMany mod_bestRow mod_ringDigits mod_traces f_20 f_22 f_24 f_26) H := hP
              have hD : va_D A (wl_X12_shoe ad cs mod_code v_27 mod_claims mod_taped mod_here mod_fault mod_suits mod_doneMany mod_undoneMany mod_open mod_laid mod_isBoth mod_wished mod_bestMany mod_bestRow mod_ringDigits mod_traces f_20 f_22 f_24 f_26) := hD
              refine lv_aload_n hx hb dX12_shoe_101 rfl (lv_at hl 0 rfl) ?_
              refine va_get (D := D) (ci := 12) (v := .int v_27) (C := RX12) (T := TX12) (N := 60) hx hb ht iX12 hown hK hP 0 rfl rfl 1 (by decide) (ht _ kw_1296) (fun _ h9 => h9) rfl dX12_shoe_102 ?_
              refine lv_iconst (v := (1 : Int32)) hx hb dX12_shoe_105 (by decide) ?_
              refine lv_isub hx hb dX12_shoe_106 ?_
              exact W.iret (v := v_27 - (1 : Int32)) hx hb hr (fun t ht2 hW => ⟨⟨v_27 - (1 : Int32), (v_27, f_20, f_22, f_24, f_26), rfl, Option.some.inj h, by rw [ht2]; exact hP, hD⟩, hS.F ht2⟩) hS.2.2 dX12_shoe_107 hlocks
            · have h := zk_t c_18 h
              refine lv_bipush (v := (-3 : Int32)) hx hb dX12_shoe_47 (by decide) ?_
              exact W.iret (v := (-3 : Int32)) hx hb hr (fun t ht2 hW => ⟨⟨(-3 : Int32), (mod_shoes, mod_wearer, mod_wornFor, mod_shoeSort, mod_shoeDay), rfl, Option.some.inj h, by rw [ht2]; exact hP, hD⟩, hS.F ht2⟩) hS.2.2 dX12_shoe_49 hlocks
          · have h := zk_t c_17 h
            refine lv_iconst (v := (-1 : Int32)) hx hb dX12_shoe_36 (by decide) ?_
            exact W.iret (v := (-1 : Int32)) hx hb hr (fun t ht2 hW => ⟨⟨(-1 : Int32), (mod_shoes, mod_wearer, mod_wornFor, mod_shoeSort, mod_shoeDay), rfl, Option.some.inj h, by rw [ht2]; exact hP, hD⟩, hS.F ht2⟩) hS.2.2 dX12_shoe_37 hlocks
set_option maxHeartbeats 4000000 in
set_option maxRecDepth 100000 in
theorem c_X12_shoe (l : Launch) (D : va_G) (cs : Nat → ClassId) (ad : Nat → Nat) (sz : Nat) (x1 : Int32) (x2 : Int32) (x3 : Int32) (x4 : Int32) (mod_code : Int32) (mod_shoes : Int32) (mod_claims : Int32) (mod_taped : Int32) (mod_here : Int32) (mod_fault : Int32) (mod_suits : Int32) (mod_doneMany : Int32) (mod_undoneMany : Int32) (mod_open : Int32) (mod_laid : Int32) (mod_isBoth : Int32) (mod_wished : Int32) (mod_bestMany : Int32) (mod_bestRow : Int32) (mod_ringDigits : Int32) (mod_traces : Int32) (mod_wearer : Nat → Int32) (mod_wornFor : Nat → Int32) (mod_shoeSort : Nat → Int32) (mod_shoeDay : Nat → Int32) (R : Int32 × Int32 × (Nat → Int32) × (Nat → Int32) × (Nat → Int32) × (Nat → Int32)) (h : f_X12_shoe   x1 x2 x3 x4 mod_code mod_shoes mod_claims mod_taped mod_here mod_fault mod_suits mod_doneMany mod_undoneMany mod_open mod_laid mod_isBoth mod_wished mod_bestMany mod_bestRow mod_ringDigits mod_traces mod_wearer mod_wornFor mod_shoeSort mod_shoeDay = some R) : Met l yX12_shoe (z_X12_shoe) rm_X12_shoe (va_Pc [.ref (ad 41), .int x1, .int x2, .int x3, .int x4] (zPre D cs (wl_X12_shoe ad cs mod_code mod_shoes mod_claims mod_taped mod_here mod_fault mod_suits mod_doneMany mod_undoneMany mod_open mod_laid mod_isBoth mod_wished mod_bestMany mod_bestRow mod_ringDigits mod_traces mod_wearer mod_wornFor mod_shoeSort mod_shoeDay) sz)) (Q_X12_shoe D cs ad mod_code mod_claims mod_taped mod_here mod_fault mod_suits mod_doneMany mod_undoneMany mod_open mod_laid mod_isBoth mod_wished mod_bestMany mod_bestRow mod_ringDigits mod_traces (va_A (wl_X12_shoe ad cs mod_code mod_shoes mod_claims mod_taped mod_here mod_fault mod_suits mod_doneMany mod_undoneMany mod_open mod_laid mod_isBoth mod_wished mod_bestMany mod_bestRow mod_ringDigits mod_traces mod_wearer mod_wornFor mod_shoeSort mod_shoeDay) sz) R) 0 0 (va_A (wl_X12_shoe ad cs mod_code mod_shoes mod_claims mod_taped mod_here mod_fault mod_suits mod_doneMany mod_undoneMany mod_open mod_laid mod_isBoth mod_wished mod_bestMany mod_bestRow mod_ringDigits mod_traces mod_wearer mod_wornFor mod_shoeSort mod_shoeDay) sz) := by
  refine Met.ofW (cc := cX12_shoe) (maxL := 5) (ret := (some .int)) (by decide) rfl ?_
  intro p e s m args below meth c s₁ B hml hv
  obtain ⟨rfl, hsz, hP, hK, hD0⟩ := hv
  subst hsz
  have hD := hD0.self (sz := s.heap.size)
  have C0 : zC p s m _ meth c cX12_shoe 5 (some .int) RX12 zW := ⟨B.exec, B.bytes, B.returns, hml, findClass_of_methodNamed B.named, fun w hw => atoms_spec (ws := z_X12_shoe) B.pre w (List.mem_cons_of_mem _ hw), B.notSynchronized⟩
  have hA : ∀ q : Nat, s.heap.size ≤ q → va_A (wl_X12_shoe ad cs mod_code mod_shoes mod_claims mod_taped mod_here mod_fault mod_suits mod_doneMany mod_undoneMany mod_open mod_laid mod_isBoth mod_wished mod_bestMany mod_bestRow mod_ringDigits mod_traces mod_wearer mod_wornFor mod_shoeSort mod_shoeDay) s.heap.size q := fun q h => Or.inr h
  have hl := lv_entry ([.ref (ad 41), .int x1, .int x2, .int x3, .int x4]) (n := 5) (Nat.le_of_ble_eq_true rfl)
  rw [lg_entry_eq]
  generalize (lg_sl ([.ref (ad 41), .int x1, .int x2, .int x3, .int x4]) ++ List.replicate (5 - (lg_sl ([.ref (ad 41), .int x1, .int x2, .int x3, .int x4])).length) Slot.unset).toArray = ls at hl ⊢
  exact L_X12_shoe_0 C0 hK hA   x1 x2 x3 x4 mod_shoes mod_wearer mod_wornFor mod_shoeSort mod_shoeDay h s.heap [] ls hP hD va_S.rf hl
theorem zh_cX12_isShelf_0 : zck [26, 3, 8, 184, 0, 147, 172] (zdu 0 cX12_isShelf.data.toList) = true := by decide +kernel
theorem dX12_isShelf_0 : decode cX12_isShelf 0 = .ok (.iload_n 0, 1) := zo_26 zh_cX12_isShelf_0 0 rfl
theorem dX12_isShelf_1 : decode cX12_isShelf 1 = .ok (.iconst 0, 1) := zo_3 zh_cX12_isShelf_0 1 rfl
theorem dX12_isShelf_2 : decode cX12_isShelf 2 = .ok (.iconst 5, 1) := zo_8 zh_cX12_isShelf_0 2 rfl
theorem dX12_isShelf_3 : decode cX12_isShelf 3 = .ok (.invokestatic 147, 3) := zo_184 zh_cX12_isShelf_0 3 rfl
theorem dX12_isShelf_6 : decode cX12_isShelf 6 = .ok (.ireturn, 1) := zo_172 zh_cX12_isShelf_0 6 rfl
abbrev z_X12_isShelf : List Cond := .code yX12_isShelf cX12_isShelf 1 (some .boolean) :: zW
abbrev wl_X12_isShelf (ad : Nat → Nat) (cs : Nat → ClassId)   : va_W := []
def Q_X12_isShelf (D : va_G) (cs : Nat → ClassId) (ad : Nat → Nat)   (A : Nat → Prop) (R : Int32 × Unit) : Array Value → State → Outcome → State → Prop :=
  va_Qi (fun (r : Int32) (u : Unit) => (r, u) = R) (fun (u : Unit) (t : State) => va_P D classes (wl_X12_isShelf ad cs ) t.heap ∧ va_D A (wl_X12_isShelf ad cs )) A
abbrev rm_X12_isShelf : Room := { frames := 1, cells := 0, slots := 0, locals := 22 }
def B_X12_isShelf_0     (x0 : Int32) : Option (Int32 × Unit) :=
  (zk_b2 (f_X12_in x0 (0 : Int32) (5 : Int32)) (fun r_1 u_2 => (if ¬ (r_1 = 0 ∨ r_1 = 1) then none else (some (r_1, ())))))
def f_X12_isShelf   (x0 : Int32)  : Option (Int32 × Unit) := B_X12_isShelf_0    x0 
set_option maxHeartbeats 4000000 in
set_option maxRecDepth 100000 in
theorem L_X12_isShelf_0 {p : Program} {l : Launch} {e : Env} {s : State} {m : MethodId} {args : Array Value} {below : List Frame} {meth : Method} {c : Code} {A : Nat → Prop} {D : va_G} {cs : Nat → ClassId} {ad : Nat → Nat} {R : Int32 × Unit} (C0 : zC p s m args meth c cX12_isShelf 1 (some .boolean) RX12 zW) (hK : va_K D classes (zT cs) s) (hA : ∀ q : Nat, s.heap.size ≤ q → A q) (x0 : Int32) (h : B_X12_isShelf_0 x0 = some R) (H : Heap) (locs : List Loc) (ls : Array Slot) (hP : va_P D classes (wl_X12_isShelf ad cs ) H) (hD : va_D A (wl_X12_isShelf ad cs )) (hS : va_S A s.heap H locs) (hl : lv_has ls 1 [(0, .int x0)]) : W p l e rm_X12_isShelf s m args below meth c H locs 0 0 (MQ below (Q_X12_isShelf D cs ad  A R) args s 0 0 A) (F0 m 0 ls []) := by
  obtain ⟨hx, hb, hr, hml, hown, ht, hlocks⟩ := id C0
  refine lv_iload_n hx hb dX12_isShelf_0 rfl (lv_at hl 0 rfl) ?_
  refine lv_iconst (v := (0 : Int32)) hx hb dX12_isShelf_1 (by decide) ?_
  refine lv_iconst (v := (5 : Int32)) hx hb dX12_isShelf_2 (by decide) ?_
  obtain ⟨r_1, u_2, hc_3, h⟩ := zk_o2 h
  refine zz_si (post := (fun r u => (r, u) = (r_1, u_2))) (w1 := fun u => (wl_X12_in ad cs )) (As := [.int x0, .int (0 : Int32), .int (5 : Int32)]) (rest := []) (c_X12_in l D cs ad  H.size x0 (0 : Int32) (5 : Int32) (r_1, u_2) hc_3) ⟨hx, hb, hml, hown, ht⟩ (va_cwS 3 ht g_X12_147 rfl rfl rfl hd_X12_in ⟨Nat.le_of_ble_eq_true rfl, Nat.le_of_ble_eq_true rfl⟩) hP hD hS hK hA [] rfl rfl [] rfl (fun _ => rfl) rfl hl.1 (Nat.le_of_ble_eq_true rfl) dX12_isShelf_3 ⟨Nat.zero_le _, Nat.zero_le _⟩ (fun r u H locs hq hP hS => ?_)
  cases hq
  have hP : va_P D classes (wl_X12_isShelf ad cs ) H := hP
  obtain ⟨g_4, h⟩ := zk_gd h
  exact W.zret (ty := .boolean) (v := r_1) hx hb hr (zk_nz g_4) (fun t ht2 hW => ⟨⟨r_1, (), rfl, Option.some.inj h, by rw [ht2]; exact hP, hD⟩, hS.F ht2⟩) hS.2.2 dX12_isShelf_6 hlocks
set_option maxHeartbeats 4000000 in
set_option maxRecDepth 100000 in
theorem c_X12_isShelf (l : Launch) (D : va_G) (cs : Nat → ClassId) (ad : Nat → Nat) (sz : Nat) (x0 : Int32)  (R : Int32 × Unit) (h : f_X12_isShelf   x0  = some R) : Met l yX12_isShelf (z_X12_isShelf) rm_X12_isShelf (va_Pc [.int x0] (zPre D cs (wl_X12_isShelf ad cs ) sz)) (Q_X12_isShelf D cs ad  (va_A (wl_X12_isShelf ad cs ) sz) R) 0 0 (va_A (wl_X12_isShelf ad cs ) sz) := by
  refine Met.ofW (cc := cX12_isShelf) (maxL := 1) (ret := (some .boolean)) (by decide) rfl ?_
  intro p e s m args below meth c s₁ B hml hv
  obtain ⟨rfl, hsz, hP, hK, hD0⟩ := hv
  subst hsz
  have hD := hD0.self (sz := s.heap.size)
  have C0 : zC p s m _ meth c cX12_isShelf 1 (some .boolean) RX12 zW := ⟨B.exec, B.bytes, B.returns, hml, findClass_of_methodNamed B.named, fun w hw => atoms_spec (ws := z_X12_isShelf) B.pre w (List.mem_cons_of_mem _ hw), B.notSynchronized⟩
  have hA : ∀ q : Nat, s.heap.size ≤ q → va_A (wl_X12_isShelf ad cs ) s.heap.size q := fun q h => Or.inr h
  have hl := lv_entry ([.int x0]) (n := 1) (Nat.le_of_ble_eq_true rfl)
  rw [lg_entry_eq]
  generalize (lg_sl ([.int x0]) ++ List.replicate (1 - (lg_sl ([.int x0])).length) Slot.unset).toArray = ls at hl ⊢
  exact L_X12_isShelf_0 C0 hK hA   x0  h s.heap [] ls hP hD va_S.rf hl
theorem kw_1351 : Cond.fieldLink RX12 130 "AlreadyJudgedModel" "holds" "[I" ∈ zW := zwC (i := 77) zc_6 rfl rfl
theorem kw_1352 : Cond.fieldLink RX12 133 "AlreadyJudgedModel" "size" "[I" ∈ zW := zwC (i := 78) zc_6 rfl rfl
theorem kw_1353 : Cond.fieldLink RX12 136 "AlreadyJudgedModel" "elements" "[J" ∈ zW := zwC (i := 79) zc_6 rfl rfl
theorem kw_1479 : Cond.instanceMethod yX12_shoe ∈ zW := zwC (i := 205) zc_6 rfl rfl
theorem kw_1480 : Cond.selects RX12 yX12_shoe yX12_shoe ∈ zW := zwC (i := 206) zc_6 rfl rfl
theorem kw_1481 : Cond.code yX12_shoe cX12_shoe 5 (some .int) ∈ zW := zwC (i := 207) zc_6 rfl rfl
theorem kw_1495 : Cond.methodLink RX12 167 yX12_isShelf ∈ zW := zwC (i := 221) zc_6 rfl rfl
theorem kw_1496 : Cond.static yX12_isShelf ∈ zW := zwC (i := 222) zc_6 rfl rfl
theorem kw_1497 : Cond.code yX12_isShelf cX12_isShelf 1 (some .boolean) ∈ zW := zwC (i := 223) zc_6 rfl rfl
theorem kw_1498 : Cond.constantLong RX12 170 (3 : Int64) ∈ zW := zwC (i := 224) zc_6 rfl rfl
theorem kw_1499 : Cond.methodLink RX12 172 yX12_shoe ∈ zW := zwC (i := 225) zc_6 rfl rfl
theorem zh_cX12_shoes_0 : zck [27, 184, 0, 167, 153, 0, 13, 29, 4, 16, 15, 184, 0, 147, 154, 0, 5, 2, 172, 42, 180, 0] (zdu 0 cX12_shoes.data.toList) = true := by decide +kernel
theorem dX12_shoes_0 : decode cX12_shoes 0 = .ok (.iload_n 1, 1) := zo_27 zh_cX12_shoes_0 0 rfl
theorem dX12_shoes_1 : decode cX12_shoes 1 = .ok (.invokestatic 167, 3) := zo_184 zh_cX12_shoes_0 1 rfl
theorem dX12_shoes_4 : decode cX12_shoes 4 = .ok (.ifCond .eq 13, 3) := zo_p153 zh_cX12_shoes_0 4 13 rfl rfl
theorem dX12_shoes_7 : decode cX12_shoes 7 = .ok (.iload_n 3, 1) := zo_29 zh_cX12_shoes_0 7 rfl
theorem dX12_shoes_8 : decode cX12_shoes 8 = .ok (.iconst 1, 1) := zo_4 zh_cX12_shoes_0 8 rfl
theorem dX12_shoes_9 : decode cX12_shoes 9 = .ok (.bipush 15, 2) := zo_p16 zh_cX12_shoes_0 9 15 rfl rfl
theorem dX12_shoes_11 : decode cX12_shoes 11 = .ok (.invokestatic 147, 3) := zo_184 zh_cX12_shoes_0 11 rfl
theorem dX12_shoes_14 : decode cX12_shoes 14 = .ok (.ifCond .ne 5, 3) := zo_p154 zh_cX12_shoes_0 14 5 rfl rfl
theorem dX12_shoes_17 : decode cX12_shoes 17 = .ok (.iconst (-1), 1) := zo_2 zh_cX12_shoes_0 17 rfl
theorem dX12_shoes_18 : decode cX12_shoes 18 = .ok (.ireturn, 1) := zo_172 zh_cX12_shoes_0 18 rfl
theorem dX12_shoes_19 : decode cX12_shoes 19 = .ok (.aload_n 0, 1) := zo_42 zh_cX12_shoes_0 19 rfl
theorem zh_cX12_shoes_1 : zck [180, 0, 130, 27, 46, 2, 159, 0, 17, 42, 180, 0, 130, 27, 46, 16, 253, 159, 0, 6, 16, 244] (zdu 20 cX12_shoes.data.toList) = true := by decide +kernel
theorem dX12_shoes_20 : decode cX12_shoes 20 = .ok (.getfield 130, 3) := zo_180 zh_cX12_shoes_1 0 rfl
theorem dX12_shoes_23 : decode cX12_shoes 23 = .ok (.iload_n 1, 1) := zo_27 zh_cX12_shoes_1 3 rfl
theorem zo_46 {c : ByteArray} {s : Nat} {K : List Nat} (h : zck K (zdu s c.data.toList) = true) (k : Nat) (hk : zt1 K k 46 = true) : decode c (s + k) = .ok (.iaload, 1) := zde ((zbd (zu1 (zh1 h hk))).trans rfl)
theorem dX12_shoes_24 : decode cX12_shoes 24 = .ok (.iaload, 1) := zo_46 zh_cX12_shoes_1 4 rfl
theorem dX12_shoes_25 : decode cX12_shoes 25 = .ok (.iconst (-1), 1) := zo_2 zh_cX12_shoes_1 5 rfl
theorem dX12_shoes_26 : decode cX12_shoes 26 = .ok (.if_icmp .eq 17, 3) := zo_p159 zh_cX12_shoes_1 6 17 rfl rfl
theorem dX12_shoes_29 : decode cX12_shoes 29 = .ok (.aload_n 0, 1) := zo_42 zh_cX12_shoes_1 9 rfl
theorem dX12_shoes_30 : decode cX12_shoes 30 = .ok (.getfield 130, 3) := zo_180 zh_cX12_shoes_1 10 rfl
theorem dX12_shoes_33 : decode cX12_shoes 33 = .ok (.iload_n 1, 1) := zo_27 zh_cX12_shoes_1 13 rfl
theorem dX12_shoes_34 : decode cX12_shoes 34 = .ok (.iaload, 1) := zo_46 zh_cX12_shoes_1 14 rfl
theorem dX12_shoes_35 : decode cX12_shoes 35 = .ok (.bipush (-3), 2) := zo_n16 zh_cX12_shoes_1 15 2 rfl rfl
theorem dX12_shoes_37 : decode cX12_shoes 37 = .ok (.if_icmp .eq 6, 3) := zo_p159 zh_cX12_shoes_1 17 6 rfl rfl
theorem zh_cX12_shoes_2 : zck [16, 244, 172, 42, 180, 0, 130, 27, 46, 2, 160, 0, 5, 3, 172, 3, 54, 4, 21, 4, 29, 162] (zdu 40 cX12_shoes.data.toList) = true := by decide +kernel
theorem dX12_shoes_40 : decode cX12_shoes 40 = .ok (.bipush (-12), 2) := zo_n16 zh_cX12_shoes_2 0 11 rfl rfl
theorem dX12_shoes_42 : decode cX12_shoes 42 = .ok (.ireturn, 1) := zo_172 zh_cX12_shoes_2 2 rfl
theorem dX12_shoes_43 : decode cX12_shoes 43 = .ok (.aload_n 0, 1) := zo_42 zh_cX12_shoes_2 3 rfl
theorem dX12_shoes_44 : decode cX12_shoes 44 = .ok (.getfield 130, 3) := zo_180 zh_cX12_shoes_2 4 rfl
theorem dX12_shoes_47 : decode cX12_shoes 47 = .ok (.iload_n 1, 1) := zo_27 zh_cX12_shoes_2 7 rfl
theorem dX12_shoes_48 : decode cX12_shoes 48 = .ok (.iaload, 1) := zo_46 zh_cX12_shoes_2 8 rfl
theorem dX12_shoes_49 : decode cX12_shoes 49 = .ok (.iconst (-1), 1) := zo_2 zh_cX12_shoes_2 9 rfl
theorem dX12_shoes_50 : decode cX12_shoes 50 = .ok (.if_icmp .ne 5, 3) := zo_p160 zh_cX12_shoes_2 10 5 rfl rfl
theorem dX12_shoes_53 : decode cX12_shoes 53 = .ok (.iconst 0, 1) := zo_3 zh_cX12_shoes_2 13 rfl
theorem dX12_shoes_54 : decode cX12_shoes 54 = .ok (.ireturn, 1) := zo_172 zh_cX12_shoes_2 14 rfl
theorem dX12_shoes_55 : decode cX12_shoes 55 = .ok (.iconst 0, 1) := zo_3 zh_cX12_shoes_2 15 rfl
theorem zo_54 {c : ByteArray} {s : Nat} {K : List Nat} (h : zck K (zdu s c.data.toList) = true) (k : Nat) {v : Nat} (hk : zt2 K k 54 v = true) : decode c (s + k) = .ok (.istore v, 2) := zde ((zbd (zu1 (zh2 h hk).1)).trans ((zbd (f := fun x => pure (Instr.istore x)) (zh2 h hk).2).trans rfl))
theorem dX12_shoes_56 : decode cX12_shoes 56 = .ok (.istore 4, 2) := zo_54 zh_cX12_shoes_2 16 rfl
theorem dX12_shoes_58 : decode cX12_shoes 58 = .ok (.iload 4, 2) := zo_21 zh_cX12_shoes_2 18 rfl
theorem zh_cX12_shoes_3 : zck [29, 162, 0, 104, 28, 133, 7, 21, 4, 104, 133, 97, 55, 5, 22, 5, 9, 148, 155, 0, 20, 22] (zdu 60 cX12_shoes.data.toList) = true := by decide +kernel
theorem dX12_shoes_60 : decode cX12_shoes 60 = .ok (.iload_n 3, 1) := zo_29 zh_cX12_shoes_3 0 rfl
theorem dX12_shoes_61 : decode cX12_shoes 61 = .ok (.if_icmp .ge 104, 3) := zo_p162 zh_cX12_shoes_3 1 104 rfl rfl
theorem dX12_shoes_64 : decode cX12_shoes 64 = .ok (.iload_n 2, 1) := zo_28 zh_cX12_shoes_3 4 rfl
theorem zo_133 {c : ByteArray} {s : Nat} {K : List Nat} (h : zck K (zdu s c.data.toList) = true) (k : Nat) (hk : zt1 K k 133 = true) : decode c (s + k) = .ok (.i2l, 1) := zde ((zbd (zu1 (zh1 h hk))).trans rfl)
theorem dX12_shoes_65 : decode cX12_shoes 65 = .ok (.i2l, 1) := zo_133 zh_cX12_shoes_3 5 rfl
theorem zo_7 {c : ByteArray} {s : Nat} {K : List Nat} (h : zck K (zdu s c.data.toList) = true) (k : Nat) (hk : zt1 K k 7 = true) : decode c (s + k) = .ok (.iconst 4, 1) := zde ((zbd (zu1 (zh1 h hk))).trans rfl)
theorem dX12_shoes_66 : decode cX12_shoes 66 = .ok (.iconst 4, 1) := zo_7 zh_cX12_shoes_3 6 rfl
theorem dX12_shoes_67 : decode cX12_shoes 67 = .ok (.iload 4, 2) := zo_21 zh_cX12_shoes_3 7 rfl
theorem zo_104 {c : ByteArray} {s : Nat} {K : List Nat} (h : zck K (zdu s c.data.toList) = true) (k : Nat) (hk : zt1 K k 104 = true) : decode c (s + k) = .ok (.imul, 1) := zde ((zbd (zu1 (zh1 h hk))).trans rfl)
theorem dX12_shoes_69 : decode cX12_shoes 69 = .ok (.imul, 1) := zo_104 zh_cX12_shoes_3 9 rfl
theorem dX12_shoes_70 : decode cX12_shoes 70 = .ok (.i2l, 1) := zo_133 zh_cX12_shoes_3 10 rfl
theorem zo_97 {c : ByteArray} {s : Nat} {K : List Nat} (h : zck K (zdu s c.data.toList) = true) (k : Nat) (hk : zt1 K k 97 = true) : decode c (s + k) = .ok (.ladd, 1) := zde ((zbd (zu1 (zh1 h hk))).trans rfl)
theorem dX12_shoes_71 : decode cX12_shoes 71 = .ok (.ladd, 1) := zo_97 zh_cX12_shoes_3 11 rfl
theorem zo_55 {c : ByteArray} {s : Nat} {K : List Nat} (h : zck K (zdu s c.data.toList) = true) (k : Nat) {v : Nat} (hk : zt2 K k 55 v = true) : decode c (s + k) = .ok (.lstore v, 2) := zde ((zbd (zu1 (zh2 h hk).1)).trans ((zbd (f := fun x => pure (Instr.lstore x)) (zh2 h hk).2).trans rfl))
theorem dX12_shoes_72 : decode cX12_shoes 72 = .ok (.lstore 5, 2) := zo_55 zh_cX12_shoes_3 12 rfl
theorem zo_22 {c : ByteArray} {s : Nat} {K : List Nat} (h : zck K (zdu s c.data.toList) = true) (k : Nat) {v : Nat} (hk : zt2 K k 22 v = true) : decode c (s + k) = .ok (.lload v, 2) := zde ((zbd (zu1 (zh2 h hk).1)).trans ((zbd (f := fun x => pure (Instr.lload x)) (zh2 h hk).2).trans rfl))
theorem dX12_shoes_74 : decode cX12_shoes 74 = .ok (.lload 5, 2) := zo_22 zh_cX12_shoes_3 14 rfl
theorem zo_9 {c : ByteArray} {s : Nat} {K : List Nat} (h : zck K (zdu s c.data.toList) = true) (k : Nat) (hk : zt1 K k 9 = true) : decode c (s + k) = .ok (.lconst 0, 1) := zde ((zbd (zu1 (zh1 h hk))).trans rfl)
theorem dX12_shoes_76 : decode cX12_shoes 76 = .ok (.lconst 0, 1) := zo_9 zh_cX12_shoes_3 16 rfl
theorem zo_148 {c : ByteArray} {s : Nat} {K : List Nat} (h : zck K (zdu s c.data.toList) = true) (k : Nat) (hk : zt1 K k 148 = true) : decode c (s + k) = .ok (.lcmp, 1) := zde ((zbd (zu1 (zh1 h hk))).trans rfl)
theorem dX12_shoes_77 : decode cX12_shoes 77 = .ok (.lcmp, 1) := zo_148 zh_cX12_shoes_3 17 rfl
theorem dX12_shoes_78 : decode cX12_shoes 78 = .ok (.ifCond .lt 20, 3) := zo_p155 zh_cX12_shoes_3 18 20 rfl rfl
theorem zh_cX12_shoes_4 : zck [20, 22, 5, 20, 0, 170, 97, 42, 180, 0, 133, 27, 46, 133, 148, 155, 0, 6, 21, 4, 172, 16] (zdu 80 cX12_shoes.data.toList) = true := by decide +kernel
theorem dX12_shoes_81 : decode cX12_shoes 81 = .ok (.lload 5, 2) := zo_22 zh_cX12_shoes_4 1 rfl
theorem zo_20 {c : ByteArray} {s : Nat} {K : List Nat} (h : zck K (zdu s c.data.toList) = true) (k : Nat) {v : Nat} (hk : zt3 K k 20 v = true) : decode c (s + k) = .ok (.ldc2_w v, 3) := zde ((zbd (zu1 (zh3 h hk).1)).trans ((zbd (f := fun x => pure (Instr.ldc2_w x)) (zh3 h hk).2).trans rfl))
theorem dX12_shoes_83 : decode cX12_shoes 83 = .ok (.ldc2_w 170, 3) := zo_20 zh_cX12_shoes_4 3 rfl
theorem dX12_shoes_86 : decode cX12_shoes 86 = .ok (.ladd, 1) := zo_97 zh_cX12_shoes_4 6 rfl
theorem dX12_shoes_87 : decode cX12_shoes 87 = .ok (.aload_n 0, 1) := zo_42 zh_cX12_shoes_4 7 rfl
theorem dX12_shoes_88 : decode cX12_shoes 88 = .ok (.getfield 133, 3) := zo_180 zh_cX12_shoes_4 8 rfl
theorem dX12_shoes_91 : decode cX12_shoes 91 = .ok (.iload_n 1, 1) := zo_27 zh_cX12_shoes_4 11 rfl
theorem dX12_shoes_92 : decode cX12_shoes 92 = .ok (.iaload, 1) := zo_46 zh_cX12_shoes_4 12 rfl
theorem dX12_shoes_93 : decode cX12_shoes 93 = .ok (.i2l, 1) := zo_133 zh_cX12_shoes_4 13 rfl
theorem dX12_shoes_94 : decode cX12_shoes 94 = .ok (.lcmp, 1) := zo_148 zh_cX12_shoes_4 14 rfl
theorem dX12_shoes_95 : decode cX12_shoes 95 = .ok (.ifCond .lt 6, 3) := zo_p155 zh_cX12_shoes_4 15 6 rfl rfl
theorem dX12_shoes_98 : decode cX12_shoes 98 = .ok (.iload 4, 2) := zo_21 zh_cX12_shoes_4 18 rfl
theorem zh_cX12_shoes_5 : zck [172, 16, 60, 27, 104, 22, 5, 136, 96, 54, 7, 42, 42, 180, 0, 136, 21, 7, 47, 136, 42, 180] (zdu 100 cX12_shoes.data.toList) = true := by decide +kernel
theorem dX12_shoes_100 : decode cX12_shoes 100 = .ok (.ireturn, 1) := zo_172 zh_cX12_shoes_5 0 rfl
theorem dX12_shoes_101 : decode cX12_shoes 101 = .ok (.bipush 60, 2) := zo_p16 zh_cX12_shoes_5 1 60 rfl rfl
theorem dX12_shoes_103 : decode cX12_shoes 103 = .ok (.iload_n 1, 1) := zo_27 zh_cX12_shoes_5 3 rfl
theorem dX12_shoes_104 : decode cX12_shoes 104 = .ok (.imul, 1) := zo_104 zh_cX12_shoes_5 4 rfl
theorem dX12_shoes_105 : decode cX12_shoes 105 = .ok (.lload 5, 2) := zo_22 zh_cX12_shoes_5 5 rfl
theorem zo_136 {c : ByteArray} {s : Nat} {K : List Nat} (h : zck K (zdu s c.data.toList) = true) (k : Nat) (hk : zt1 K k 136 = true) : decode c (s + k) = .ok (.l2i, 1) := zde ((zbd (zu1 (zh1 h hk))).trans rfl)
theorem dX12_shoes_107 : decode cX12_shoes 107 = .ok (.l2i, 1) := zo_136 zh_cX12_shoes_5 7 rfl
theorem dX12_shoes_108 : decode cX12_shoes 108 = .ok (.iadd, 1) := zo_96 zh_cX12_shoes_5 8 rfl
theorem dX12_shoes_109 : decode cX12_shoes 109 = .ok (.istore 7, 2) := zo_54 zh_cX12_shoes_5 9 rfl
theorem dX12_shoes_111 : decode cX12_shoes 111 = .ok (.aload_n 0, 1) := zo_42 zh_cX12_shoes_5 11 rfl
theorem dX12_shoes_112 : decode cX12_shoes 112 = .ok (.aload_n 0, 1) := zo_42 zh_cX12_shoes_5 12 rfl
theorem dX12_shoes_113 : decode cX12_shoes 113 = .ok (.getfield 136, 3) := zo_180 zh_cX12_shoes_5 13 rfl
theorem dX12_shoes_116 : decode cX12_shoes 116 = .ok (.iload 7, 2) := zo_21 zh_cX12_shoes_5 16 rfl
theorem zo_47 {c : ByteArray} {s : Nat} {K : List Nat} (h : zck K (zdu s c.data.toList) = true) (k : Nat) (hk : zt1 K k 47 = true) : decode c (s + k) = .ok (.laload, 1) := zde ((zbd (zu1 (zh1 h hk))).trans rfl)
theorem dX12_shoes_118 : decode cX12_shoes 118 = .ok (.laload, 1) := zo_47 zh_cX12_shoes_5 18 rfl
theorem dX12_shoes_119 : decode cX12_shoes 119 = .ok (.l2i, 1) := zo_136 zh_cX12_shoes_5 19 rfl
theorem zh_cX12_shoes_6 : zck [42, 180, 0, 136, 21, 7, 4, 96, 47, 136, 42, 180, 0, 136, 21, 7, 5, 96, 47, 136, 42, 180] (zdu 120 cX12_shoes.data.toList) = true := by decide +kernel
theorem dX12_shoes_120 : decode cX12_shoes 120 = .ok (.aload_n 0, 1) := zo_42 zh_cX12_shoes_6 0 rfl
theorem dX12_shoes_121 : decode cX12_shoes 121 = .ok (.getfield 136, 3) := zo_180 zh_cX12_shoes_6 1 rfl
theorem dX12_shoes_124 : decode cX12_shoes 124 = .ok (.iload 7, 2) := zo_21 zh_cX12_shoes_6 4 rfl
theorem dX12_shoes_126 : decode cX12_shoes 126 = .ok (.iconst 1, 1) := zo_4 zh_cX12_shoes_6 6 rfl
theorem dX12_shoes_127 : decode cX12_shoes 127 = .ok (.iadd, 1) := zo_96 zh_cX12_shoes_6 7 rfl
theorem dX12_shoes_128 : decode cX12_shoes 128 = .ok (.laload, 1) := zo_47 zh_cX12_shoes_6 8 rfl
theorem dX12_shoes_129 : decode cX12_shoes 129 = .ok (.l2i, 1) := zo_136 zh_cX12_shoes_6 9 rfl
theorem dX12_shoes_130 : decode cX12_shoes 130 = .ok (.aload_n 0, 1) := zo_42 zh_cX12_shoes_6 10 rfl
theorem dX12_shoes_131 : decode cX12_shoes 131 = .ok (.getfield 136, 3) := zo_180 zh_cX12_shoes_6 11 rfl
theorem dX12_shoes_134 : decode cX12_shoes 134 = .ok (.iload 7, 2) := zo_21 zh_cX12_shoes_6 14 rfl
theorem zo_5 {c : ByteArray} {s : Nat} {K : List Nat} (h : zck K (zdu s c.data.toList) = true) (k : Nat) (hk : zt1 K k 5 = true) : decode c (s + k) = .ok (.iconst 2, 1) := zde ((zbd (zu1 (zh1 h hk))).trans rfl)
theorem dX12_shoes_136 : decode cX12_shoes 136 = .ok (.iconst 2, 1) := zo_5 zh_cX12_shoes_6 16 rfl
theorem dX12_shoes_137 : decode cX12_shoes 137 = .ok (.iadd, 1) := zo_96 zh_cX12_shoes_6 17 rfl
theorem dX12_shoes_138 : decode cX12_shoes 138 = .ok (.laload, 1) := zo_47 zh_cX12_shoes_6 18 rfl
theorem dX12_shoes_139 : decode cX12_shoes 139 = .ok (.l2i, 1) := zo_136 zh_cX12_shoes_6 19 rfl
theorem zh_cX12_shoes_7 : zck [42, 180, 0, 136, 21, 7, 6, 96, 47, 136, 182, 0, 172, 156, 0, 6, 21, 4, 172, 132, 4, 1] (zdu 140 cX12_shoes.data.toList) = true := by decide +kernel
theorem dX12_shoes_140 : decode cX12_shoes 140 = .ok (.aload_n 0, 1) := zo_42 zh_cX12_shoes_7 0 rfl
theorem dX12_shoes_141 : decode cX12_shoes 141 = .ok (.getfield 136, 3) := zo_180 zh_cX12_shoes_7 1 rfl
theorem dX12_shoes_144 : decode cX12_shoes 144 = .ok (.iload 7, 2) := zo_21 zh_cX12_shoes_7 4 rfl
theorem zo_6 {c : ByteArray} {s : Nat} {K : List Nat} (h : zck K (zdu s c.data.toList) = true) (k : Nat) (hk : zt1 K k 6 = true) : decode c (s + k) = .ok (.iconst 3, 1) := zde ((zbd (zu1 (zh1 h hk))).trans rfl)
theorem dX12_shoes_146 : decode cX12_shoes 146 = .ok (.iconst 3, 1) := zo_6 zh_cX12_shoes_7 6 rfl
theorem dX12_shoes_147 : decode cX12_shoes 147 = .ok (.iadd, 1) := zo_96 zh_cX12_shoes_7 7 rfl
theorem dX12_shoes_148 : decode cX12_shoes 148 = .ok (.laload, 1) := zo_47 zh_cX12_shoes_7 8 rfl
theorem dX12_shoes_149 : decode cX12_shoes 149 = .ok (.l2i, 1) := zo_136 zh_cX12_shoes_7 9 rfl
theorem zo_182 {c : ByteArray} {s : Nat} {K : List Nat} (h : zck K (zdu s c.data.toList) = true) (k : Nat) {v : Nat} (hk : zt3 K k 182 v = true) : decode c (s + k) = .ok (.invokevirtual v, 3) := zde ((zbd (zu1 (zh3 h hk).1)).trans ((zbd (f := fun x => pure (Instr.invokevirtual x)) (zh3 h hk).2).trans rfl))
theorem dX12_shoes_150 : decode cX12_shoes 150 = .ok (.invokevirtual 172, 3) := zo_182 zh_cX12_shoes_7 10 rfl
theorem zo_p156 {c : ByteArray} {s : Nat} {K : List Nat} (h : zck K (zdu s c.data.toList) = true) (k : Nat) (v : Nat) (hk : zt3 K k 156 v = true) (hv : Nat.ble v 32767 = true) : decode c (s + k) = .ok (.ifCond .ge (Int.ofNat v), 3) := by
  rw [← zsg16 hv]
  exact zde ((zbd (zu1 (zh3 h hk).1)).trans ((zbd (f := fun x => pure (Instr.ifCond .ge x)) (zdmp (zh3 h hk).2)).trans rfl))
theorem dX12_shoes_153 : decode cX12_shoes 153 = .ok (.ifCond .ge 6, 3) := zo_p156 zh_cX12_shoes_7 13 6 rfl rfl
theorem dX12_shoes_156 : decode cX12_shoes 156 = .ok (.iload 4, 2) := zo_21 zh_cX12_shoes_7 16 rfl
theorem dX12_shoes_158 : decode cX12_shoes 158 = .ok (.ireturn, 1) := zo_172 zh_cX12_shoes_7 18 rfl
theorem zo_p132 {c : ByteArray} {s : Nat} {K : List Nat} (h : zck K (zdu s c.data.toList) = true) (k : Nat) {v : Nat} (w : Nat) (hk : zt4 K k 132 v w = true) (hv : Nat.ble w 127 = true) : decode c (s + k) = .ok (.iinc v (Int.ofNat w), 3) := by
  rw [← zsg8 hv]
  exact zde ((zbd (zu1 (zh4 h hk).1)).trans ((zbd (zh4 h hk).2.1).trans ((zbd (zdmp (zh4 h hk).2.2)).trans rfl)))
theorem dX12_shoes_159 : decode cX12_shoes 159 = .ok (.iinc 4 1, 3) := zo_p132 zh_cX12_shoes_7 19 1 rfl rfl
theorem zo_n167 {c : ByteArray} {s : Nat} {K : List Nat} (h : zck K (zdu s c.data.toList) = true) (k : Nat) (m : Nat) (hk : zt3 K k 167 (Nat.sub 65535 m) = true) (hv : Nat.ble m 32767 = true) : decode c (s + k) = .ok (.goto (Int.negSucc m), 3) := by
  rw [← zsn16 hv rfl]
  exact zde ((zbd (zu1 (zh3 h hk).1)).trans ((zbd (f := fun x => pure (Instr.goto x)) (zdmp (zh3 h hk).2)).trans rfl))
theorem zh_cX12_shoes_8 : zck [4, 1, 167, 255, 152, 29, 172] (zdu 160 cX12_shoes.data.toList) = true := by decide +kernel
theorem dX12_shoes_162 : decode cX12_shoes 162 = .ok (.goto (-104), 3) := zo_n167 zh_cX12_shoes_8 2 103 rfl rfl
theorem dX12_shoes_165 : decode cX12_shoes 165 = .ok (.iload_n 3, 1) := zo_29 zh_cX12_shoes_8 5 rfl
theorem dX12_shoes_166 : decode cX12_shoes 166 = .ok (.ireturn, 1) := zo_172 zh_cX12_shoes_8 6 rfl
abbrev z_X12_shoes : List Cond := .code yX12_shoes cX12_shoes 8 (some .int) :: zW
abbrev wl_X12_shoes (ad : Nat → Nat) (cs : Nat → ClassId)  (mod_code : Int32) (mod_shoes : Int32) (mod_claims : Int32) (mod_taped : Int32) (mod_here : Int32) (mod_fault : Int32) (mod_suits : Int32) (mod_doneMany : Int32) (mod_undoneMany : Int32) (mod_open : Int32) (mod_laid : Int32) (mod_isBoth : Int32) (mod_wished : Int32) (mod_bestMany : Int32) (mod_bestRow : Int32) (mod_ringDigits : Int32) (mod_traces : Int32) (mod_wearer : Nat → Int32) (mod_wornFor : Nat → Int32) (mod_shoeSort : Nat → Int32) (mod_shoeDay : Nat → Int32) (mod_holds : Nat → Int32) (mod_size : Nat → Int32) (mod_elements : Nat → Int64) : va_W := [((ad 41), .inr (12, [.int mod_code, .int mod_shoes, .ref (ad 42), .ref (ad 43), .ref (ad 44), .ref (ad 45), .int mod_claims, .ref (ad 46), .ref (ad 47), .ref (ad 48), .ref (ad 49), .ref (ad 50), .int mod_taped, .int mod_here, .int mod_fault, .int mod_suits, .ref (ad 51), .ref (ad 52), .ref (ad 53), .ref (ad 54), .ref (ad 55), .ref (ad 56), .ref (ad 57), .ref (ad 58), .ref (ad 59), .ref (ad 60), .ref (ad 61), .int mod_doneMany, .int mod_undoneMany, .ref (ad 62), .ref (ad 63), .ref (ad 64), .ref (ad 65), .int mod_open, .int mod_laid, .ref (ad 66), .ref (ad 67), .ref (ad 68), .ref (ad 69), .ref (ad 70), .ref (ad 71), .ref (ad 72), .ref (ad 73), .ref (ad 74), .ref (ad 75), .int mod_isBoth, .int mod_wished, .ref (ad 76), .ref (ad 77), .int mod_bestMany, .int mod_bestRow, .ref (ad 78), .ref (ad 79), .int mod_ringDigits, .int mod_traces, .ref (ad 80), .ref (ad 81), .ref (ad 82), .ref (ad 83), .ref (ad 84)])), ((ad 42), .inl (cs 0, 40, .inl mod_wearer)), ((ad 43), .inl (cs 0, 40, .inl mod_wornFor)), ((ad 44), .inl (cs 0, 40, .inl mod_shoeSort)), ((ad 45), .inl (cs 0, 40, .inl mod_shoeDay)), ((ad 81), .inl (cs 0, 6, .inl mod_holds)), ((ad 82), .inl (cs 0, 6, .inl mod_size)), ((ad 83), .inl (cs 1, 360, .inr (.inl mod_elements)))]
def Q_X12_shoes (D : va_G) (cs : Nat → ClassId) (ad : Nat → Nat)  (mod_code : Int32) (mod_claims : Int32) (mod_taped : Int32) (mod_here : Int32) (mod_fault : Int32) (mod_suits : Int32) (mod_doneMany : Int32) (mod_undoneMany : Int32) (mod_open : Int32) (mod_laid : Int32) (mod_isBoth : Int32) (mod_wished : Int32) (mod_bestMany : Int32) (mod_bestRow : Int32) (mod_ringDigits : Int32) (mod_traces : Int32) (mod_holds : Nat → Int32) (mod_size : Nat → Int32) (mod_elements : Nat → Int64) (A : Nat → Prop) (R : Int32 × Int32 × (Nat → Int32) × (Nat → Int32) × (Nat → Int32) × (Nat → Int32)) : Array Value → State → Outcome → State → Prop :=
  va_Qi (fun (r : Int32) (u : Int32 × (Nat → Int32) × (Nat → Int32) × (Nat → Int32) × (Nat → Int32)) => (r, u) = R) (fun (u : Int32 × (Nat → Int32) × (Nat → Int32) × (Nat → Int32) × (Nat → Int32)) (t : State) => va_P D classes (wl_X12_shoes ad cs mod_code u.1 mod_claims mod_taped mod_here mod_fault mod_suits mod_doneMany mod_undoneMany mod_open mod_laid mod_isBoth mod_wished mod_bestMany mod_bestRow mod_ringDigits mod_traces u.2.1 u.2.2.1 u.2.2.2.1 u.2.2.2.2 mod_holds mod_size mod_elements) t.heap ∧ va_D A (wl_X12_shoes ad cs mod_code u.1 mod_claims mod_taped mod_here mod_fault mod_suits mod_doneMany mod_undoneMany mod_open mod_laid mod_isBoth mod_wished mod_bestMany mod_bestRow mod_ringDigits mod_traces u.2.1 u.2.2.1 u.2.2.2.1 u.2.2.2.2 mod_holds mod_size mod_elements)) A
abbrev rm_X12_shoes : Room := { frames := 3, cells := 0, slots := 0, locals := 66 }
theorem g_X12_167 : GoodIn zW (va_wsS RX12 167 yX12_isShelf z_X12_isShelf) := zGS kw_1495 kw_1496 kw_95 kw_1497
theorem g_X12_172 : GoodIn zW (wsV RX12 172 RX12 yX12_shoe z_X12_shoe) := zGV kw_1499 kw_1479 kw_1480 kw_95 kw_1481
theorem hd_X12_isShelf : yX12_isShelf.cls ≠ "java/lang/invoke/MethodHandle" ∧ yX12_isShelf.cls ≠ "java/lang/invoke/VarHandle" ∧ (parseMethodDescriptor yX12_isShelf.desc).map (fun d => d.parameters.length) = some 1 := by decide +kernel
theorem hd_X12_shoe : yX12_shoe.cls ≠ "java/lang/invoke/MethodHandle" ∧ yX12_shoe.cls ≠ "java/lang/invoke/VarHandle" ∧ (parseMethodDescriptor yX12_shoe.desc).map (fun d => d.parameters.length) = some 4 := by decide +kernel
def B_X12_shoes_58   (g58 : Int32 → Int32 → Int32 → Int32 → Int32 → (Nat → Int32) → (Nat → Int32) → (Nat → Int32) → (Nat → Int32) → (Option (Int32 × Int32 × (Nat → Int32) × (Nat → Int32) × (Nat → Int32) × (Nat → Int32)))) (mod_code : Int32) (mod_claims : Int32) (mod_taped : Int32) (mod_here : Int32) (mod_fault : Int32) (mod_suits : Int32) (mod_doneMany : Int32) (mod_undoneMany : Int32) (mod_open : Int32) (mod_laid : Int32) (mod_isBoth : Int32) (mod_wished : Int32) (mod_bestMany : Int32) (mod_bestRow : Int32) (mod_ringDigits : Int32) (mod_traces : Int32) (mod_holds : Nat → Int32) (mod_size : Nat → Int32) (mod_elements : Nat → Int64) (x1 : Int32) (x2 : Int32) (x3 : Int32) (x4 : Int32) (mod_shoes : Int32) (mod_wearer : Nat → Int32) (mod_wornFor : Nat → Int32) (mod_shoeSort : Nat → Int32) (mod_shoeDay : Nat → Int32) : Option (Int32 × Int32 × (Nat → Int32) × (Nat → Int32) × (Nat → Int32) × (Nat → Int32)) :=
  (if x3 ≤ x4 then (some (x3, mod_shoes, mod_wearer, mod_wornFor, mod_shoeSort, mod_shoeDay)) else (zk_let (x2.toInt64 + (((4 : Int32) * x4).toInt64)) (fun v_16 => (if (lg_cmp v_16 (0 : Int64)) < 0 then (some (x4, mod_shoes, mod_wearer, mod_wornFor, mod_shoeSort, mod_shoeDay)) else (if (x1 < 0 ∨ 6 ≤ x1.toNatClampNeg) then none else (if (lg_cmp (v_16 + (3 : Int64)) ((mod_size x1.toNatClampNeg).toInt64)) < 0 then (zk_let (((60 : Int32) * x1) + v_16.toInt32) (fun v_20 => (if (v_20 < 0 ∨ 360 ≤ v_20.toNatClampNeg) then none else (if ((v_20 + (1 : Int32)) < 0 ∨ 360 ≤ (v_20 + (1 : Int32)).toNatClampNeg) then none else (if ((v_20 + (2 : Int32)) < 0 ∨ 360 ≤ (v_20 + (2 : Int32)).toNatClampNeg) then none else (if ((v_20 + (3 : Int32)) < 0 ∨ 360 ≤ (v_20 + (3 : Int32)).toNatClampNeg) then none else (zk_b6 (f_X12_shoe ((mod_elements v_20.toNatClampNeg).toInt32) ((mod_elements (v_20 + (1 : Int32)).toNatClampNeg).toInt32) ((mod_elements (v_20 + (2 : Int32)).toNatClampNeg).toInt32) ((mod_elements (v_20 + (3 : Int32)).toNatClampNeg).toInt32) mod_code mod_shoes mod_claims mod_taped mod_here mod_fault mod_suits mod_doneMany mod_undoneMany mod_open mod_laid mod_isBoth mod_wished mod_bestMany mod_bestRow mod_ringDigits mod_traces mod_wearer mod_wornFor mod_shoeSort mod_shoeDay) (fun r_25 u_26 u_27 u_28 u_29 u_30 => (if 0 ≤ r_25 then (zk_let (x4 + (1 : Int32)) (fun v_33 => (g58 x1 x2 x3 v_33 u_26 u_27 u_28 u_29 u_30))) else (some (x4, u_26, u_27, u_28, u_29, u_30))))))))))) else (some (x4, mod_shoes, mod_wearer, mod_wornFor, mod_shoeSort, mod_shoeDay))))))))
def B_X12_shoes_43   (g58 : Int32 → Int32 → Int32 → Int32 → Int32 → (Nat → Int32) → (Nat → Int32) → (Nat → Int32) → (Nat → Int32) → (Option (Int32 × Int32 × (Nat → Int32) × (Nat → Int32) × (Nat → Int32) × (Nat → Int32)))) (mod_code : Int32) (mod_claims : Int32) (mod_taped : Int32) (mod_here : Int32) (mod_fault : Int32) (mod_suits : Int32) (mod_doneMany : Int32) (mod_undoneMany : Int32) (mod_open : Int32) (mod_laid : Int32) (mod_isBoth : Int32) (mod_wished : Int32) (mod_bestMany : Int32) (mod_bestRow : Int32) (mod_ringDigits : Int32) (mod_traces : Int32) (mod_holds : Nat → Int32) (mod_size : Nat → Int32) (mod_elements : Nat → Int64) (x1 : Int32) (x2 : Int32) (x3 : Int32) (mod_shoes : Int32) (mod_wearer : Nat → Int32) (mod_wornFor : Nat → Int32) (mod_shoeSort : Nat → Int32) (mod_shoeDay : Nat → Int32) : Option (Int32 × Int32 × (Nat → Int32) × (Nat → Int32) × (Nat → Int32) × (Nat → Int32)) :=
  (if (x1 < 0 ∨ 6 ≤ x1.toNatClampNeg) then none else (if (mod_holds x1.toNatClampNeg) = (-1 : Int32) then (some ((0 : Int32), mod_shoes, mod_wearer, mod_wornFor, mod_shoeSort, mod_shoeDay)) else (g58 x1 x2 x3 (0 : Int32) mod_shoes mod_wearer mod_wornFor mod_shoeSort mod_shoeDay)))
def B_X12_shoes_0   (g58 : Int32 → Int32 → Int32 → Int32 → Int32 → (Nat → Int32) → (Nat → Int32) → (Nat → Int32) → (Nat → Int32) → (Option (Int32 × Int32 × (Nat → Int32) × (Nat → Int32) × (Nat → Int32) × (Nat → Int32)))) (mod_code : Int32) (mod_claims : Int32) (mod_taped : Int32) (mod_here : Int32) (mod_fault : Int32) (mod_suits : Int32) (mod_doneMany : Int32) (mod_undoneMany : Int32) (mod_open : Int32) (mod_laid : Int32) (mod_isBoth : Int32) (mod_wished : Int32) (mod_bestMany : Int32) (mod_bestRow : Int32) (mod_ringDigits : Int32) (mod_traces : Int32) (mod_holds : Nat → Int32) (mod_size : Nat → Int32) (mod_elements : Nat → Int64) (x1 : Int32) (x2 : Int32) (x3 : Int32) (mod_shoes : Int32) (mod_wearer : Nat → Int32) (mod_wornFor : Nat → Int32) (mod_shoeSort : Nat → Int32) (mod_shoeDay : Nat → Int32) : Option (Int32 × Int32 × (Nat → Int32) × (Nat → Int32) × (Nat → Int32) × (Nat → Int32)) :=
  (zk_b2 (f_X12_isShelf x1) (fun r_1 u_2 => (if r_1 = 0 then (some ((-1 : Int32), mod_shoes, mod_wearer, mod_wornFor, mod_shoeSort, mod_shoeDay)) else (zk_b2 (f_X12_in x3 (1 : Int32) (15 : Int32)) (fun r_5 u_6 => (if r_5 = 0 then (some ((-1 : Int32), mod_shoes, mod_wearer, mod_wornFor, mod_shoeSort, mod_shoeDay)) else (if (x1 < 0 ∨ 6 ≤ x1.toNatClampNeg) then none else (if (mod_holds x1.toNatClampNeg) = (-1 : Int32) then (B_X12_shoes_43 g58 mod_code mod_claims mod_taped mod_here mod_fault mod_suits mod_doneMany mod_undoneMany mod_open mod_laid mod_isBoth mod_wished mod_bestMany mod_bestRow mod_ringDigits mod_traces mod_holds mod_size mod_elements x1 x2 x3 mod_shoes mod_wearer mod_wornFor mod_shoeSort mod_shoeDay) else (if (x1 < 0 ∨ 6 ≤ x1.toNatClampNeg) then none else (if (mod_holds x1.toNatClampNeg) = (-3 : Int32) then (B_X12_shoes_43 g58 mod_code mod_claims mod_taped mod_here mod_fault mod_suits mod_doneMany mod_undoneMany mod_open mod_laid mod_isBoth mod_wished mod_bestMany mod_bestRow mod_ringDigits mod_traces mod_holds mod_size mod_elements x1 x2 x3 mod_shoes mod_wearer mod_wornFor mod_shoeSort mod_shoeDay) else (some ((-12 : Int32), mod_shoes, mod_wearer, mod_wornFor, mod_shoeSort, mod_shoeDay))))))))))))
def G_X12_shoes   (mod_code : Int32) (mod_claims : Int32) (mod_taped : Int32) (mod_here : Int32) (mod_fault : Int32) (mod_suits : Int32) (mod_doneMany : Int32) (mod_undoneMany : Int32) (mod_open : Int32) (mod_laid : Int32) (mod_isBoth : Int32) (mod_wished : Int32) (mod_bestMany : Int32) (mod_bestRow : Int32) (mod_ringDigits : Int32) (mod_traces : Int32) (mod_holds : Nat → Int32) (mod_size : Nat → Int32) (mod_elements : Nat → Int64) (n : Nat) : (Int32 → Int32 → Int32 → Int32 → Int32 → (Nat → Int32) → (Nat → Int32) → (Nat → Int32) → (Nat → Int32) → (Option (Int32 × Int32 × (Nat → Int32) × (Nat → Int32) × (Nat → Int32) × (Nat → Int32)))) :=
  Nat.rec (motive := fun _ => (Int32 → Int32 → Int32 → Int32 → Int32 → (Nat → Int32) → (Nat → Int32) → (Nat → Int32) → (Nat → Int32) → (Option (Int32 × Int32 × (Nat → Int32) × (Nat → Int32) × (Nat → Int32) × (Nat → Int32))))) ((fun _ _ _ _ _ _ _ _ _ => none)) (fun _ ih => (B_X12_shoes_58   ih mod_code mod_claims mod_taped mod_here mod_fault mod_suits mod_doneMany mod_undoneMany mod_open mod_laid mod_isBoth mod_wished mod_bestMany mod_bestRow mod_ringDigits mod_traces mod_holds mod_size mod_elements)) n
def f_X12_shoes   (n : Nat) (x1 : Int32) (x2 : Int32) (x3 : Int32) (mod_code : Int32) (mod_shoes : Int32) (mod_claims : Int32) (mod_taped : Int32) (mod_here : Int32) (mod_fault : Int32) (mod_suits : Int32) (mod_doneMany : Int32) (mod_undoneMany : Int32) (mod_open : Int32) (mod_laid : Int32) (mod_isBoth : Int32) (mod_wished : Int32) (mod_bestMany : Int32) (mod_bestRow : Int32) (mod_ringDigits : Int32) (mod_traces : Int32) (mod_wearer : Nat → Int32) (mod_wornFor : Nat → Int32) (mod_shoeSort : Nat → Int32) (mod_shoeDay : Nat → Int32) (mod_holds : Nat → Int32) (mod_size : Nat → Int32) (mod_elements : Nat → Int64) : Option (Int32 × Int32 × (Nat → Int32) × (Nat → Int32) × (Nat → Int32) × (Nat → Int32)) := B_X12_shoes_0   ((G_X12_shoes   mod_code mod_claims mod_taped mod_here mod_fault mod_suits mod_doneMany mod_undoneMany mod_open mod_laid mod_isBoth mod_wished mod_bestMany mod_bestRow mod_ringDigits mod_traces mod_holds mod_size mod_elements n)) mod_code mod_claims mod_taped mod_here mod_fault mod_suits mod_doneMany mod_undoneMany mod_open mod_laid mod_isBoth mod_wished mod_bestMany mod_bestRow mod_ringDigits mod_traces mod_holds mod_size mod_elements x1 x2 x3 mod_shoes mod_wearer mod_wornFor mod_shoeSort mod_shoeDay
set_option maxHeartbeats 4000000 in
set_option maxRecDepth 100000 in
theorem L_X12_shoes_58 {p : Program} {l : Launch} {e : Env} {s : State} {m : MethodId} {args : Array Value} {below : List Frame} {meth : Method} {c : Code} {A : Nat → Prop} {D : va_G} {cs : Nat → ClassId} {ad : Nat → Nat} {mod_code : Int32} {mod_claims : Int32} {mod_taped : Int32} {mod_here : Int32} {mod_fault : Int32} {mod_suits : Int32} {mod_doneMany : Int32} {mod_undoneMany : Int32} {mod_open : Int32} {mod_laid : Int32} {mod_isBoth : Int32} {mod_wished : Int32} {mod_bestMany : Int32} {mod_bestRow : Int32} {mod_ringDigits : Int32} {mod_traces : Int32} {mod_holds : Nat → Int32} {mod_size : Nat → Int32} {mod_elements : Nat → Int64} {R : Int32 × Int32 × (Nat → Int32) × (Nat → Int32) × (Nat → Int32) × (Nat → Int32)} {g58 : Int32 → Int32 → Int32 → Int32 → Int32 → (Nat → Int32) → (Nat → Int32) → (Nat → Int32) → (Nat → Int32) → (Option (Int32 × Int32 × (Nat → Int32) × (Nat → Int32) × (Nat → Int32) × (Nat → Int32)))} (C0 : zC p s m args meth c cX12_shoes 8 (some .int) RX12 zW) (hK : va_K D classes (zT cs) s) (hA : ∀ q : Nat, s.heap.size ≤ q → A q) (ih58 : ∀ (x1 : Int32) (x2 : Int32) (x3 : Int32) (x4 : Int32) (mod_shoes : Int32) (mod_wearer : Nat → Int32) (mod_wornFor : Nat → Int32) (mod_shoeSort : Nat → Int32) (mod_shoeDay : Nat → Int32) (h : g58 x1 x2 x3 x4 mod_shoes mod_wearer mod_wornFor mod_shoeSort mod_shoeDay = some R) (H : Heap) (locs : List Loc) (ls : Array Slot) (hP : va_P D classes (wl_X12_shoes ad cs mod_code mod_shoes mod_claims mod_taped mod_here mod_fault mod_suits mod_doneMany mod_undoneMany mod_open mod_laid mod_isBoth mod_wished mod_bestMany mod_bestRow mod_ringDigits mod_traces mod_wearer mod_wornFor mod_shoeSort mod_shoeDay mod_holds mod_size mod_elements) H) (hD : va_D A (wl_X12_shoes ad cs mod_code mod_shoes mod_claims mod_taped mod_here mod_fault mod_suits mod_doneMany mod_undoneMany mod_open mod_laid mod_isBoth mod_wished mod_bestMany mod_bestRow mod_ringDigits mod_traces mod_wearer mod_wornFor mod_shoeSort mod_shoeDay mod_holds mod_size mod_elements)) (hS : va_S A s.heap H locs) (hl : lv_has ls 8 [(0, .ref (ad 41)), (1, .int x1), (2, .int x2), (3, .int x3), (4, .int x4)]), W p l e rm_X12_shoes s m args below meth c H locs 0 0 (MQ below (Q_X12_shoes D cs ad mod_code mod_claims mod_taped mod_here mod_fault mod_suits mod_doneMany mod_undoneMany mod_open mod_laid mod_isBoth mod_wished mod_bestMany mod_bestRow mod_ringDigits mod_traces mod_holds mod_size mod_elements A R) args s 0 0 A) (F0 m 58 ls [])) (x1 : Int32) (x2 : Int32) (x3 : Int32) (x4 : Int32) (mod_shoes : Int32) (mod_wearer : Nat → Int32) (mod_wornFor : Nat → Int32) (mod_shoeSort : Nat → Int32) (mod_shoeDay : Nat → Int32) (h : B_X12_shoes_58 g58 mod_code mod_claims mod_taped mod_here mod_fault mod_suits mod_doneMany mod_undoneMany mod_open mod_laid mod_isBoth mod_wished mod_bestMany mod_bestRow mod_ringDigits mod_traces mod_holds mod_size mod_elements x1 x2 x3 x4 mod_shoes mod_wearer mod_wornFor mod_shoeSort mod_shoeDay = some R) (H : Heap) (locs : List Loc) (ls : Array Slot) (hP : va_P D classes (wl_X12_shoes ad cs mod_code mod_shoes mod_claims mod_taped mod_here mod_fault mod_suits mod_doneMany mod_undoneMany mod_open mod_laid mod_isBoth mod_wished mod_bestMany mod_bestRow mod_ringDigits mod_traces mod_wearer mod_wornFor mod_shoeSort mod_shoeDay mod_holds mod_size mod_elements) H) (hD : va_D A (wl_X12_shoes ad cs mod_code mod_shoes mod_claims mod_taped mod_here mod_fault mod_suits mod_doneMany mod_undoneMany mod_open mod_laid mod_isBoth mod_wished mod_bestMany mod_bestRow mod_ringDigits mod_traces mod_wearer mod_wornFor mod_shoeSort mod_shoeDay mod_holds mod_size mod_elements)) (hS : va_S A s.heap H locs) (hl : lv_has ls 8 [(0, .ref (ad 41)), (1, .int x1), (2, .int x2), (3, .int x3), (4, .int x4)]) : W p l e rm_X12_shoes s m args below meth c H locs 0 0 (MQ below (Q_X12_shoes D cs ad mod_code mod_claims mod_taped mod_here mod_fault mod_suits mod_doneMany mod_undoneMany mod_open mod_laid mod_isBoth mod_wished mod_bestMany mod_bestRow mod_ringDigits mod_traces mod_holds mod_size mod_elements A R) args s 0 0 A) (F0 m 58 ls []) := by
  obtain ⟨hx, hb, hr, hml, hown, ht, hlocks⟩ := id C0
  refine lv_iload hx hb dX12_shoes_58 (lv_at hl 4 rfl) ?_
  refine lv_iload_n hx hb dX12_shoes_60 rfl (lv_at hl 3 rfl) ?_
  refine lv_icmp_ge (tgt := 165) hx hb dX12_shoes_61 (by decide) (fun c_15 => ?_) (fun c_15 => ?_)
  · have h := zk_t c_15 h
    refine lv_iload_n hx hb dX12_shoes_165 rfl (lv_at hl 3 rfl) ?_
    exact W.iret (v := x3) hx hb hr (fun t ht2 hW => ⟨⟨x3, (mod_shoes, mod_wearer, mod_wornFor, mod_shoeSort, mod_shoeDay), rfl, Option.some.inj h, by rw [ht2]; exact hP, hD⟩, hS.F ht2⟩) hS.2.2 dX12_shoes_166 hlocks
  · have h := zk_f c_15 h
    refine lv_iload_n hx hb dX12_shoes_64 rfl (lv_at hl 2 rfl) ?_
    refine lv_i2l (v := x2.toInt64) hx hb dX12_shoes_65 rfl ?_
    refine lv_iconst (v := (4 : Int32)) hx hb dX12_shoes_66 (by decide) ?_
    refine lv_iload hx hb dX12_shoes_67 (lv_at hl 4 rfl) ?_
    refine lv_imul hx hb dX12_shoes_69 ?_
    refine lv_i2l (v := ((4 : Int32) * x4).toInt64) hx hb dX12_shoes_70 rfl ?_
    refine lv_ladd hx hb dX12_shoes_71 ?_
    obtain ⟨v_16, ev_16, h⟩ := zk_lt h
    refine W.eq (g2 := F0 m 72 ls [.long v_16]) (by rw [ev_16]) ?_
    refine lv_lstore (lv' := [(5, .long v_16), (0, .ref (ad 41)), (1, .int x1), (2, .int x2), (3, .int x3), (4, .int x4)]) hx hb dX12_shoes_72 hl (by decide) rfl (fun ls hl => ?_)
    refine lv_lload hx hb dX12_shoes_74 (lv_at hl 0 rfl) ?_
    refine lv_lconst (v := (0 : Int64)) hx hb dX12_shoes_76 (by decide) ?_
    refine W.lcmp hx hb dX12_shoes_77 ?_
    refine lv_if_lt (tgt := 98) hx hb dX12_shoes_78 (by decide) (fun c_17 => ?_) (fun c_17 => ?_)
    · have h := zk_t c_17 h
      refine lv_iload hx hb dX12_shoes_98 (lv_at hl 5 rfl) ?_
      exact W.iret (v := x4) hx hb hr (fun t ht2 hW => ⟨⟨x4, (mod_shoes, mod_wearer, mod_wornFor, mod_shoeSort, mod_shoeDay), rfl, Option.some.inj h, by rw [ht2]; exact hP, hD⟩, hS.F ht2⟩) hS.2.2 dX12_shoes_100 hlocks
    · have h := zk_f c_17 h
      refine lv_lload hx hb dX12_shoes_81 (lv_at hl 0 rfl) ?_
      refine lv_ldc2 (v := (3 : Int64)) hx hb hown (ht _ kw_1498) dX12_shoes_83 ?_
      refine lv_ladd hx hb dX12_shoes_86 ?_
      refine lv_aload_n hx hb dX12_shoes_87 rfl (lv_at hl 1 rfl) ?_
      refine va_get (D := D) (ci := 12) (v := .ref (ad 82)) (C := RX12) (T := TX12) (N := 60) hx hb ht iX12 hown hK hP 0 rfl rfl 57 (by decide) (ht _ kw_1352) (fun _ h9 => h9) rfl dX12_shoes_88 ?_
      refine lv_iload_n hx hb dX12_shoes_91 rfl (lv_at hl 2 rfl) ?_
      obtain ⟨g_18, h⟩ := zk_gd h
      refine va_iald hx hb hK hP 6 0 rfl rfl g_18 dX12_shoes_92 ?_
      refine lv_i2l (v := (mod_size x1.toNatClampNeg).toInt64) hx hb dX12_shoes_93 rfl ?_
      refine W.lcmp hx hb dX12_shoes_94 ?_
      refine lv_if_lt (tgt := 101) hx hb dX12_shoes_95 (by decide) (fun c_19 => ?_) (fun c_19 => ?_)
      · have h := zk_t c_19 h
        refine lv_bipush (v := (60 : Int32)) hx hb dX12_shoes_101 (by decide) ?_
        refine lv_iload_n hx hb dX12_shoes_103 rfl (lv_at hl 2 rfl) ?_
        refine lv_imul hx hb dX12_shoes_104 ?_
        refine lv_lload hx hb dX12_shoes_105 (lv_at hl 0 rfl) ?_
        refine lv_l2i (v := v_16.toInt32) hx hb dX12_shoes_107 rfl ?_
        refine lv_iadd hx hb dX12_shoes_108 ?_
        obtain ⟨v_20, ev_20, h⟩ := zk_lt h
        refine W.eq (g2 := F0 m 109 ls [.int v_20]) (by rw [ev_20]) ?_
        refine lv_istore (lv' := [(7, .int v_20), (5, .long v_16), (0, .ref (ad 41)), (1, .int x1), (2, .int x2), (3, .int x3), (4, .int x4)]) hx hb dX12_shoes_109 hl (by decide) rfl (fun ls hl => ?_)
        refine lv_aload_n hx hb dX12_shoes_111 rfl (lv_at hl 2 rfl) ?_
        refine lv_aload_n hx hb dX12_shoes_112 rfl (lv_at hl 2 rfl) ?_
        refine va_get (D := D) (ci := 12) (v := .ref (ad 83)) (C := RX12) (T := TX12) (N := 60) hx hb ht iX12 hown hK hP 0 rfl rfl 58 (by decide) (ht _ kw_1353) (fun _ h9 => h9) rfl dX12_shoes_113 ?_
        refine lv_iload hx hb dX12_shoes_116 (lv_at hl 0 rfl) ?_
        obtain ⟨g_21, h⟩ := zk_gd h
        refine va_lald hx hb hK hP 7 1 rfl rfl g_21 dX12_shoes_118 ?_
        refine lv_l2i (v := (mod_elements v_20.toNatClampNeg).toInt32) hx hb dX12_shoes_119 rfl ?_
        refine lv_aload_n hx hb dX12_shoes_120 rfl (lv_at hl 2 rfl) ?_
        refine va_get (D := D) (ci := 12) (v := .ref (ad 83)) (C := RX12) (T := TX12) (N := 60) hx hb ht iX12 hown hK hP 0 rfl rfl 58 (by decide) (ht _ kw_1353) (fun _ h9 => h9) rfl dX12_shoes_121 ?_
        refine lv_iload hx hb dX12_shoes_124 (lv_at hl 0 rfl) ?_
        refine lv_iconst (v := (1 : Int32)) hx hb dX12_shoes_126 (by decide) ?_
        refine lv_iadd hx hb dX12_shoes_127 ?_
        obtain ⟨g_22, h⟩ := zk_gd h
        refine va_lald hx hb hK hP 7 1 rfl rfl g_22 dX12_shoes_128 ?_
        refine lv_l2i (v := (mod_elements (v_20 + (1 : Int32)).toNatClampNeg).toInt32) hx hb dX12_shoes_129 rfl ?_
        refine lv_aload_n hx hb dX12_shoes_130 rfl (lv_at hl 2 rfl) ?_
        refine va_get (D := D) (ci := 12) (v := .ref (ad 83)) (C := RX12) (T := TX12) (N := 60) hx hb ht iX12 hown hK hP 0 rfl rfl 58 (by decide) (ht _ kw_1353) (fun _ h9 => h9) rfl dX12_shoes_131 ?_
        refine lv_iload hx hb dX12_shoes_134 (lv_at hl 0 rfl) ?_
        refine lv_iconst (v := (2 : Int32)) hx hb dX12_shoes_136 (by decide) ?_
        refine lv_iadd hx hb dX12_shoes_137 ?_
        obtain ⟨g_23, h⟩ := zk_gd h
        refine va_lald hx hb hK hP 7 1 rfl rfl g_23 dX12_shoes_138 ?_
        refine lv_l2i (v := (mod_elements (v_20 + (2 : Int32)).toNatClampNeg).toInt32) hx hb dX12_shoes_139 rfl ?_
        refine lv_aload_n hx hb dX12_shoes_140 rfl (lv_at hl 2 rfl) ?_
        refine va_get (D := D) (ci := 12) (v := .ref (ad 83)) (C := RX12) (T := TX12) (N := 60) hx hb ht iX12 hown hK hP 0 rfl rfl 58 (by decide) (ht _ kw_1353) (fun _ h9 => h9) rfl dX12_shoes_141 ?_
        refine lv_iload hx hb dX12_shoes_144 (lv_at hl 0 rfl) ?_
        refine lv_iconst (v := (3 : Int32)) hx hb dX12_shoes_146 (by decide) ?_
        refine lv_iadd hx hb dX12_shoes_147 ?_
        obtain ⟨g_24, h⟩ := zk_gd h
        refine va_lald hx hb hK hP 7 1 rfl rfl g_24 dX12_shoes_148 ?_
        refine lv_l2i (v := (mod_elements (v_20 + (3 : Int32)).toNatClampNeg).toInt32) hx hb dX12_shoes_149 rfl ?_
        obtain ⟨r_25, u_26, u_27, u_28, u_29, u_30, hc_31, h⟩ := zk_o6 h
        refine zz_vi (post := (fun r u => (r, u) = (r_25, u_26, u_27, u_28, u_29, u_30))) (w1 := fun u => (wl_X12_shoe ad cs mod_code u.1 mod_claims mod_taped mod_here mod_fault mod_suits mod_doneMany mod_undoneMany mod_open mod_laid mod_isBoth mod_wished mod_bestMany mod_bestRow mod_ringDigits mod_traces u.2.1 u.2.2.1 u.2.2.2.1 u.2.2.2.2)) (As := [.int ((mod_elements v_20.toNatClampNeg).toInt32), .int ((mod_elements (v_20 + (1 : Int32)).toNatClampNeg).toInt32), .int ((mod_elements (v_20 + (2 : Int32)).toNatClampNeg).toInt32), .int ((mod_elements (v_20 + (3 : Int32)).toNatClampNeg).toInt32)]) (rest := []) (c_X12_shoe l D cs ad  H.size ((mod_elements v_20.toNatClampNeg).toInt32) ((mod_elements (v_20 + (1 : Int32)).toNatClampNeg).toInt32) ((mod_elements (v_20 + (2 : Int32)).toNatClampNeg).toInt32) ((mod_elements (v_20 + (3 : Int32)).toNatClampNeg).toInt32) mod_code mod_shoes mod_claims mod_taped mod_here mod_fault mod_suits mod_doneMany mod_undoneMany mod_open mod_laid mod_isBoth mod_wished mod_bestMany mod_bestRow mod_ringDigits mod_traces mod_wearer mod_wornFor mod_shoeSort mod_shoeDay (r_25, u_26, u_27, u_28, u_29, u_30) hc_31) ⟨hx, hb, hml, hown, ht⟩ (cwV 4 ht g_X12_172 rfl rfl rfl ⟨rfl, hd_X12_shoe⟩ ⟨Nat.le_of_ble_eq_true rfl, Nat.le_of_ble_eq_true rfl⟩) (va_recv hK hP (ci := 12) (q0 := 0) rfl rfl) hP hD hS hK hA [0, 1, 2, 3, 4] rfl rfl [(ad 41), (ad 42), (ad 43), (ad 44), (ad 45)] rfl (fun _ => rfl) rfl hl.1 (Nat.le_of_ble_eq_true rfl) dX12_shoes_150 ⟨Nat.zero_le _, Nat.zero_le _⟩ (fun r u H locs hq hP hS => ?_)
        cases hq
        have hP : va_P D classes (wl_X12_shoes ad cs mod_code u_26 mod_claims mod_taped mod_here mod_fault mod_suits mod_doneMany mod_undoneMany mod_open mod_laid mod_isBoth mod_wished mod_bestMany mod_bestRow mod_ringDigits mod_traces u_27 u_28 u_29 u_30 mod_holds mod_size mod_elements) H := hP
        have hD : va_D A (wl_X12_shoes ad cs mod_code u_26 mod_claims mod_taped mod_here mod_fault mod_suits mod_doneMany mod_undoneMany mod_open mod_laid mod_isBoth mod_wished mod_bestMany mod_bestRow mod_ringDigits mod_traces u_27 u_28 u_29 u_30 mod_holds mod_size mod_elements) := zDk hD [(ad 41), (ad 42), (ad 43), (ad 44), (ad 45), (ad 81), (ad 82), (ad 83)] rfl rfl
        refine lv_if_ge (tgt := 159) hx hb dX12_shoes_153 (by decide) (fun c_32 => ?_) (fun c_32 => ?_)
        · have h := zk_t c_32 h
          obtain ⟨v_33, ev_33, h⟩ := zk_lt h
          refine lv_iinc (v := v_33) (lv' := [(4, .int v_33), (7, .int v_20), (5, .long v_16), (0, .ref (ad 41)), (1, .int x1), (2, .int x2), (3, .int x3)]) hx hb dX12_shoes_159 hl (k := 6) rfl (by rw [ev_33]; rfl) (by decide) rfl (fun ls hl => ?_)
          refine lv_goto (tgt := 58) hx hb dX12_shoes_162 (by decide) ?_
          exact ih58 x1 x2 x3 v_33 u_26 u_27 u_28 u_29 u_30 h H locs ls hP hD hS (lv_sub hl [3, 4, 5, 6, 0] rfl)
        · have h := zk_f c_32 h
          refine lv_iload hx hb dX12_shoes_156 (lv_at hl 6 rfl) ?_
          exact W.iret (v := x4) hx hb hr (fun t ht2 hW => ⟨⟨x4, (u_26, u_27, u_28, u_29, u_30), rfl, Option.some.inj h, by rw [ht2]; exact hP, hD⟩, hS.F ht2⟩) hS.2.2 dX12_shoes_158 hlocks
      · have h := zk_f c_19 h
        refine lv_iload hx hb dX12_shoes_98 (lv_at hl 5 rfl) ?_
        exact W.iret (v := x4) hx hb hr (fun t ht2 hW => ⟨⟨x4, (mod_shoes, mod_wearer, mod_wornFor, mod_shoeSort, mod_shoeDay), rfl, Option.some.inj h, by rw [ht2]; exact hP, hD⟩, hS.F ht2⟩) hS.2.2 dX12_shoes_100 hlocks
set_option maxHeartbeats 4000000 in
set_option maxRecDepth 100000 in
theorem L_X12_shoes_43 {p : Program} {l : Launch} {e : Env} {s : State} {m : MethodId} {args : Array Value} {below : List Frame} {meth : Method} {c : Code} {A : Nat → Prop} {D : va_G} {cs : Nat → ClassId} {ad : Nat → Nat} {mod_code : Int32} {mod_claims : Int32} {mod_taped : Int32} {mod_here : Int32} {mod_fault : Int32} {mod_suits : Int32} {mod_doneMany : Int32} {mod_undoneMany : Int32} {mod_open : Int32} {mod_laid : Int32} {mod_isBoth : Int32} {mod_wished : Int32} {mod_bestMany : Int32} {mod_bestRow : Int32} {mod_ringDigits : Int32} {mod_traces : Int32} {mod_holds : Nat → Int32} {mod_size : Nat → Int32} {mod_elements : Nat → Int64} {R : Int32 × Int32 × (Nat → Int32) × (Nat → Int32) × (Nat → Int32) × (Nat → Int32)} {g58 : Int32 → Int32 → Int32 → Int32 → Int32 → (Nat → Int32) → (Nat → Int32) → (Nat → Int32) → (Nat → Int32) → (Option (Int32 × Int32 × (Nat → Int32) × (Nat → Int32) × (Nat → Int32) × (Nat → Int32)))} (C0 : zC p s m args meth c cX12_shoes 8 (some .int) RX12 zW) (hK : va_K D classes (zT cs) s) (hA : ∀ q : Nat, s.heap.size ≤ q → A q) (ih58 : ∀ (x1 : Int32) (x2 : Int32) (x3 : Int32) (x4 : Int32) (mod_shoes : Int32) (mod_wearer : Nat → Int32) (mod_wornFor : Nat → Int32) (mod_shoeSort : Nat → Int32) (mod_shoeDay : Nat → Int32) (h : g58 x1 x2 x3 x4 mod_shoes mod_wearer mod_wornFor mod_shoeSort mod_shoeDay = some R) (H : Heap) (locs : List Loc) (ls : Array Slot) (hP : va_P D classes (wl_X12_shoes ad cs mod_code mod_shoes mod_claims mod_taped mod_here mod_fault mod_suits mod_doneMany mod_undoneMany mod_open mod_laid mod_isBoth mod_wished mod_bestMany mod_bestRow mod_ringDigits mod_traces mod_wearer mod_wornFor mod_shoeSort mod_shoeDay mod_holds mod_size mod_elements) H) (hD : va_D A (wl_X12_shoes ad cs mod_code mod_shoes mod_claims mod_taped mod_here mod_fault mod_suits mod_doneMany mod_undoneMany mod_open mod_laid mod_isBoth mod_wished mod_bestMany mod_bestRow mod_ringDigits mod_traces mod_wearer mod_wornFor mod_shoeSort mod_shoeDay mod_holds mod_size mod_elements)) (hS : va_S A s.heap H locs) (hl : lv_has ls 8 [(0, .ref (ad 41)), (1, .int x1), (2, .int x2), (3, .int x3), (4, .int x4)]), W p l e rm_X12_shoes s m args below meth c H locs 0 0 (MQ below (Q_X12_shoes D cs ad mod_code mod_claims mod_taped mod_here mod_fault mod_suits mod_doneMany mod_undoneMany mod_open mod_laid mod_isBoth mod_wished mod_bestMany mod_bestRow mod_ringDigits mod_traces mod_holds mod_size mod_elements A R) args s 0 0 A) (F0 m 58 ls [])) (x1 : Int32) (x2 : Int32) (x3 : Int32) (mod_shoes : Int32) (mod_wearer : Nat → Int32) (mod_wornFor : Nat → Int32) (mod_shoeSort : Nat → Int32) (mod_shoeDay : Nat → Int32) (h : B_X12_shoes_43 g58 mod_code mod_claims mod_taped mod_here mod_fault mod_suits mod_doneMany mod_undoneMany mod_open mod_laid mod_isBoth mod_wished mod_bestMany mod_bestRow mod_ringDigits mod_traces mod_holds mod_size mod_elements x1 x2 x3 mod_shoes mod_wearer mod_wornFor mod_shoeSort mod_shoeDay = some R) (H : Heap) (locs : List Loc) (ls : Array Slot) (hP : va_P D classes (wl_X12_shoes ad cs mod_code mod_shoes mod_claims mod_taped mod_here mod_fault mod_suits mod_doneMany mod_undoneMany mod_open mod_laid mod_isBoth mod_wished mod_bestMany mod_bestRow mod_ringDigits mod_traces mod_wearer mod_wornFor mod_shoeSort mod_shoeDay mod_holds mod_size mod_elements) H) (hD : va_D A (wl_X12_shoes ad cs mod_code mod_shoes mod_claims mod_taped mod_here mod_fault mod_suits mod_doneMany mod_undoneMany mod_open mod_laid mod_isBoth mod_wished mod_bestMany mod_bestRow mod_ringDigits mod_traces mod_wearer mod_wornFor mod_shoeSort mod_shoeDay mod_holds mod_size mod_elements)) (hS : va_S A s.heap H locs) (hl : lv_has ls 8 [(0, .ref (ad 41)), (1, .int x1), (2, .int x2), (3, .int x3)]) : W p l e rm_X12_shoes s m args below meth c H locs 0 0 (MQ below (Q_X12_shoes D cs ad mod_code mod_claims mod_taped mod_here mod_fault mod_suits mod_doneMany mod_undoneMany mod_open mod_laid mod_isBoth mod_wished mod_bestMany mod_bestRow mod_ringDigits mod_traces mod_holds mod_size mod_elements A R) args s 0 0 A) (F0 m 43 ls []) := by
  obtain ⟨hx, hb, hr, hml, hown, ht, hlocks⟩ := id C0
  refine lv_aload_n hx hb dX12_shoes_43 rfl (lv_at hl 0 rfl) ?_
  refine va_get (D := D) (ci := 12) (v := .ref (ad 81)) (C := RX12) (T := TX12) (N := 60) hx hb ht iX12 hown hK hP 0 rfl rfl 56 (by decide) (ht _ kw_1351) (fun _ h9 => h9) rfl dX12_shoes_44 ?_
  refine lv_iload_n hx hb dX12_shoes_47 rfl (lv_at hl 1 rfl) ?_
  obtain ⟨g_13, h⟩ := zk_gd h
  refine va_iald hx hb hK hP 5 0 rfl rfl g_13 dX12_shoes_48 ?_
  refine lv_iconst (v := (-1 : Int32)) hx hb dX12_shoes_49 (by decide) ?_
  refine lv_icmp_ne (tgt := 55) hx hb dX12_shoes_50 (by decide) (fun c_14 => ?_) (fun c_14 => ?_)
  · have h := zk_f c_14 h
    refine lv_iconst (v := (0 : Int32)) hx hb dX12_shoes_55 (by decide) ?_
    refine lv_istore (lv' := [(4, .int (0 : Int32)), (0, .ref (ad 41)), (1, .int x1), (2, .int x2), (3, .int x3)]) hx hb dX12_shoes_56 hl (by decide) rfl (fun ls hl => ?_)
    exact ih58 x1 x2 x3 (0 : Int32) mod_shoes mod_wearer mod_wornFor mod_shoeSort mod_shoeDay h H locs ls hP hD hS (lv_sub hl [1, 2, 3, 4, 0] rfl)
  · have h := zk_t c_14 h
    refine lv_iconst (v := (0 : Int32)) hx hb dX12_shoes_53 (by decide) ?_
    exact W.iret (v := (0 : Int32)) hx hb hr (fun t ht2 hW => ⟨⟨(0 : Int32), (mod_shoes, mod_wearer, mod_wornFor, mod_shoeSort, mod_shoeDay), rfl, Option.some.inj h, by rw [ht2]; exact hP, hD⟩, hS.F ht2⟩) hS.2.2 dX12_shoes_54 hlocks
set_option maxHeartbeats 4000000 in
set_option maxRecDepth 100000 in
theorem L_X12_shoes_0 {p : Program} {l : Launch} {e : Env} {s : State} {m : MethodId} {args : Array Value} {below : List Frame} {meth : Method} {c : Code} {A : Nat → Prop} {D : va_G} {cs : Nat → ClassId} {ad : Nat → Nat} {mod_code : Int32} {mod_claims : Int32} {mod_taped : Int32} {mod_here : Int32} {mod_fault : Int32} {mod_suits : Int32} {mod_doneMany : Int32} {mod_undoneMany : Int32} {mod_open : Int32} {mod_laid : Int32} {mod_isBoth : Int32} {mod_wished : Int32} {mod_bestMany : Int32} {mod_bestRow : Int32} {mod_ringDigits : Int32} {mod_traces : Int32} {mod_holds : Nat → Int32} {mod_size : Nat → Int32} {mod_elements : Nat → Int64} {R : Int32 × Int32 × (Nat → Int32) × (Nat → Int32) × (Nat → Int32) × (Nat → Int32)} {g58 : Int32 → Int32 → Int32 → Int32 → Int32 → (Nat → Int32) → (Nat → Int32) → (Nat → Int32) → (Nat → Int32) → (Option (Int32 × Int32 × (Nat → Int32) × (Nat → Int32) × (Nat → Int32) × (Nat → Int32)))} (C0 : zC p s m args meth c cX12_shoes 8 (some .int) RX12 zW) (hK : va_K D classes (zT cs) s) (hA : ∀ q : Nat, s.heap.size ≤ q → A q) (ih58 : ∀ (x1 : Int32) (x2 : Int32) (x3 : Int32) (x4 : Int32) (mod_shoes : Int32) (mod_wearer : Nat → Int32) (mod_wornFor : Nat → Int32) (mod_shoeSort : Nat → Int32) (mod_shoeDay : Nat → Int32) (h : g58 x1 x2 x3 x4 mod_shoes mod_wearer mod_wornFor mod_shoeSort mod_shoeDay = some R) (H : Heap) (locs : List Loc) (ls : Array Slot) (hP : va_P D classes (wl_X12_shoes ad cs mod_code mod_shoes mod_claims mod_taped mod_here mod_fault mod_suits mod_doneMany mod_undoneMany mod_open mod_laid mod_isBoth mod_wished mod_bestMany mod_bestRow mod_ringDigits mod_traces mod_wearer mod_wornFor mod_shoeSort mod_shoeDay mod_holds mod_size mod_elements) H) (hD : va_D A (wl_X12_shoes ad cs mod_code mod_shoes mod_claims mod_taped mod_here mod_fault mod_suits mod_doneMany mod_undoneMany mod_open mod_laid mod_isBoth mod_wished mod_bestMany mod_bestRow mod_ringDigits mod_traces mod_wearer mod_wornFor mod_shoeSort mod_shoeDay mod_holds mod_size mod_elements)) (hS : va_S A s.heap H locs) (hl : lv_has ls 8 [(0, .ref (ad 41)), (1, .int x1), (2, .int x2), (3, .int x3), (4, .int x4)]), W p l e rm_X12_shoes s m args below meth c H locs 0 0 (MQ below (Q_X12_shoes D cs ad mod_code mod_claims mod_taped mod_here mod_fault mod_suits mod_doneMany mod_undoneMany mod_open mod_laid mod_isBoth mod_wished mod_bestMany mod_bestRow mod_ringDigits mod_traces mod_holds mod_size mod_elements A R) args s 0 0 A) (F0 m 58 ls [])) (x1 : Int32) (x2 : Int32) (x3 : Int32) (mod_shoes : Int32) (mod_wearer : Nat → Int32) (mod_wornFor : Nat → Int32) (mod_shoeSort : Nat → Int32) (mod_shoeDay : Nat → Int32) (h : B_X12_shoes_0 g58 mod_code mod_claims mod_taped mod_here mod_fault mod_suits mod_doneMany mod_undoneMany mod_open mod_laid mod_isBoth mod_wished mod_bestMany mod_bestRow mod_ringDigits mod_traces mod_holds mod_size mod_elements x1 x2 x3 mod_shoes mod_wearer mod_wornFor mod_shoeSort mod_shoeDay = some R) (H : Heap) (locs : List Loc) (ls : Array Slot) (hP : va_P D classes (wl_X12_shoes ad cs mod_code mod_shoes mod_claims mod_taped mod_here mod_fault mod_suits mod_doneMany mod_undoneMany mod_open mod_laid mod_isBoth mod_wished mod_bestMany mod_bestRow mod_ringDigits mod_traces mod_wearer mod_wornFor mod_shoeSort mod_shoeDay mod_holds mod_size mod_elements) H) (hD : va_D A (wl_X12_shoes ad cs mod_code mod_shoes mod_claims mod_taped mod_here mod_fault mod_suits mod_doneMany mod_undoneMany mod_open mod_laid mod_isBoth mod_wished mod_bestMany mod_bestRow mod_ringDigits mod_traces mod_wearer mod_wornFor mod_shoeSort mod_shoeDay mod_holds mod_size mod_elements)) (hS : va_S A s.heap H locs) (hl : lv_has ls 8 [(0, .ref (ad 41)), (1, .int x1), (2, .int x2), (3, .int x3)]) : W p l e rm_X12_shoes s m args below meth c H locs 0 0 (MQ below (Q_X12_shoes D cs ad mod_code mod_claims mod_taped mod_here mod_fault mod_suits mod_doneMany mod_undoneMany mod_open mod_laid mod_isBoth mod_wished mod_bestMany mod_bestRow mod_ringDigits mod_traces mod_holds mod_size mod_elements A R) args s 0 0 A) (F0 m 0 ls []) := by
  obtain ⟨hx, hb, hr, hml, hown, ht, hlocks⟩ := id C0
  refine lv_iload_n hx hb dX12_shoes_0 rfl (lv_at hl 1 rfl) ?_
  obtain ⟨r_1, u_2, hc_3, h⟩ := zk_o2 h
  refine zz_si (post := (fun r u => (r, u) = (r_1, u_2))) (w1 := fun u => (wl_X12_isShelf ad cs )) (As := [.int x1]) (rest := []) (c_X12_isShelf l D cs ad  H.size x1 (r_1, u_2) hc_3) ⟨hx, hb, hml, hown, ht⟩ (va_cwS 1 ht g_X12_167 rfl rfl rfl hd_X12_isShelf ⟨Nat.le_of_ble_eq_true rfl, Nat.le_of_ble_eq_true rfl⟩) hP hD hS hK hA [] rfl rfl [] rfl (fun _ => rfl) rfl hl.1 (Nat.le_of_ble_eq_true rfl) dX12_shoes_1 ⟨Nat.zero_le _, Nat.zero_le _⟩ (fun r u H locs hq hP hS => ?_)
  cases hq
  have hP : va_P D classes (wl_X12_shoes ad cs mod_code mod_shoes mod_claims mod_taped mod_here mod_fault mod_suits mod_doneMany mod_undoneMany mod_open mod_laid mod_isBoth mod_wished mod_bestMany mod_bestRow mod_ringDigits mod_traces mod_wearer mod_wornFor mod_shoeSort mod_shoeDay mod_holds mod_size mod_elements) H := hP
  refine lv_if_eq (tgt := 17) hx hb dX12_shoes_4 (by decide) (fun c_4 => ?_) (fun c_4 => ?_)
  · have h := zk_t c_4 h
    refine lv_iconst (v := (-1 : Int32)) hx hb dX12_shoes_17 (by decide) ?_
    exact W.iret (v := (-1 : Int32)) hx hb hr (fun t ht2 hW => ⟨⟨(-1 : Int32), (mod_shoes, mod_wearer, mod_wornFor, mod_shoeSort, mod_shoeDay), rfl, Option.some.inj h, by rw [ht2]; exact hP, hD⟩, hS.F ht2⟩) hS.2.2 dX12_shoes_18 hlocks
  · have h := zk_f c_4 h
    refine lv_iload_n hx hb dX12_shoes_7 rfl (lv_at hl 3 rfl) ?_
    refine lv_iconst (v := (1 : Int32)) hx hb dX12_shoes_8 (by decide) ?_
    refine lv_bipush (v := (15 : Int32)) hx hb dX12_shoes_9 (by decide) ?_
    obtain ⟨r_5, u_6, hc_7, h⟩ := zk_o2 h
    refine zz_si (post := (fun r u => (r, u) = (r_5, u_6))) (w1 := fun u => (wl_X12_in ad cs )) (As := [.int x3, .int (1 : Int32), .int (15 : Int32)]) (rest := []) (c_X12_in l D cs ad  H.size x3 (1 : Int32) (15 : Int32) (r_5, u_6) hc_7) ⟨hx, hb, hml, hown, ht⟩ (va_cwS 3 ht g_X12_147 rfl rfl rfl hd_X12_in ⟨Nat.le_of_ble_eq_true rfl, Nat.le_of_ble_eq_true rfl⟩) hP hD hS hK hA [] rfl rfl [] rfl (fun _ => rfl) rfl hl.1 (Nat.le_of_ble_eq_true rfl) dX12_shoes_11 ⟨Nat.zero_le _, Nat.zero_le _⟩ (fun r u H locs hq hP hS => ?_)
    cases hq
    have hP : va_P D classes (wl_X12_shoes ad cs mod_code mod_shoes mod_claims mod_taped mod_here mod_fault mod_suits mod_doneMany mod_undoneMany mod_open mod_laid mod_isBoth mod_wished mod_bestMany mod_bestRow mod_ringDigits mod_traces mod_wearer mod_wornFor mod_shoeSort mod_shoeDay mod_holds mod_size mod_elements) H := hP
    refine lv_if_ne (tgt := 19) hx hb dX12_shoes_14 (by decide) (fun c_8 => ?_) (fun c_8 => ?_)
    · have h := zk_f c_8 h
      refine lv_aload_n hx hb dX12_shoes_19 rfl (lv_at hl 0 rfl) ?_
      refine va_get (D := D) (ci := 12) (v := .ref (ad 81)) (C := RX12) (T := TX12) (N := 60) hx hb ht iX12 hown hK hP 0 rfl rfl 56 (by decide) (ht _ kw_1351) (fun _ h9 => h9) rfl dX12_shoes_20 ?_
      refine lv_iload_n hx hb dX12_shoes_23 rfl (lv_at hl 1 rfl) ?_
      obtain ⟨g_9, h⟩ := zk_gd h
      refine va_iald hx hb hK hP 5 0 rfl rfl g_9 dX12_shoes_24 ?_
      refine lv_iconst (v := (-1 : Int32)) hx hb dX12_shoes_25 (by decide) ?_
      refine lv_icmp_eq (tgt := 43) hx hb dX12_shoes_26 (by decide) (fun c_10 => ?_) (fun c_10 => ?_)
      · have h := zk_t c_10 h
        exact L_X12_shoes_43 C0 hK hA  ih58 x1 x2 x3 mod_shoes mod_wearer mod_wornFor mod_shoeSort mod_shoeDay h H locs ls hP hD hS (lv_sub hl [0, 1, 2, 3] rfl)
      · have h := zk_f c_10 h
        refine lv_aload_n hx hb dX12_shoes_29 rfl (lv_at hl 0 rfl) ?_
        refine va_get (D := D) (ci := 12) (v := .ref (ad 81)) (C := RX12) (T := TX12) (N := 60) hx hb ht iX12 hown hK hP 0 rfl rfl 56 (by decide) (ht _ kw_1351) (fun _ h9 => h9) rfl dX12_shoes_30 ?_
        refine lv_iload_n hx hb dX12_shoes_33 rfl (lv_at hl 1 rfl) ?_
        obtain ⟨g_11, h⟩ := zk_gd h
        refine va_iald hx hb hK hP 5 0 rfl rfl g_11 dX12_shoes_34 ?_
        refine lv_bipush (v := (-3 : Int32)) hx hb dX12_shoes_35 (by decide) ?_
        refine lv_icmp_eq (tgt := 43) hx hb dX12_shoes_37 (by decide) (fun c_12 => ?_) (fun c_12 => ?_)
        · have h := zk_t c_12 h
          exact L_X12_shoes_43 C0 hK hA  ih58 x1 x2 x3 mod_shoes mod_wearer mod_wornFor mod_shoeSort mod_shoeDay h H locs ls hP hD hS (lv_sub hl [0, 1, 2, 3] rfl)
        · have h := zk_f c_12 h
          refine lv_bipush (v := (-12 : Int32)) hx hb dX12_shoes_40 (by decide) ?_
          exact W.iret (v := (-12 : Int32)) hx hb hr (fun t ht2 hW => ⟨⟨(-12 : Int32), (mod_shoes, mod_wearer, mod_wornFor, mod_shoeSort, mod_shoeDay), rfl, Option.some.inj h, by rw [ht2]; exact hP, hD⟩, hS.F ht2⟩) hS.2.2 dX12_shoes_42 hlocks
    · have h := zk_t c_8 h
      refine lv_iconst (v := (-1 : Int32)) hx hb dX12_shoes_17 (by decide) ?_
      exact W.iret (v := (-1 : Int32)) hx hb hr (fun t ht2 hW => ⟨⟨(-1 : Int32), (mod_shoes, mod_wearer, mod_wornFor, mod_shoeSort, mod_shoeDay), rfl, Option.some.inj h, by rw [ht2]; exact hP, hD⟩, hS.F ht2⟩) hS.2.2 dX12_shoes_18 hlocks
theorem LG_X12_shoes {p : Program} {l : Launch} {e : Env} {s : State} {m : MethodId} {args : Array Value} {below : List Frame} {meth : Method} {c : Code} {A : Nat → Prop} {D : va_G} {cs : Nat → ClassId} {ad : Nat → Nat} {mod_code : Int32} {mod_claims : Int32} {mod_taped : Int32} {mod_here : Int32} {mod_fault : Int32} {mod_suits : Int32} {mod_doneMany : Int32} {mod_undoneMany : Int32} {mod_open : Int32} {mod_laid : Int32} {mod_isBoth : Int32} {mod_wished : Int32} {mod_bestMany : Int32} {mod_bestRow : Int32} {mod_ringDigits : Int32} {mod_traces : Int32} {mod_holds : Nat → Int32} {mod_size : Nat → Int32} {mod_elements : Nat → Int64} {R : Int32 × Int32 × (Nat → Int32) × (Nat → Int32) × (Nat → Int32) × (Nat → Int32)} (C0 : zC p s m args meth c cX12_shoes 8 (some .int) RX12 zW) (hK : va_K D classes (zT cs) s) (hA : ∀ q : Nat, s.heap.size ≤ q → A q) : ∀ n : Nat, (∀ (x1 : Int32) (x2 : Int32) (x3 : Int32) (x4 : Int32) (mod_shoes : Int32) (mod_wearer : Nat → Int32) (mod_wornFor : Nat → Int32) (mod_shoeSort : Nat → Int32) (mod_shoeDay : Nat → Int32) (h : (G_X12_shoes   mod_code mod_claims mod_taped mod_here mod_fault mod_suits mod_doneMany mod_undoneMany mod_open mod_laid mod_isBoth mod_wished mod_bestMany mod_bestRow mod_ringDigits mod_traces mod_holds mod_size mod_elements n) x1 x2 x3 x4 mod_shoes mod_wearer mod_wornFor mod_shoeSort mod_shoeDay = some R) (H : Heap) (locs : List Loc) (ls : Array Slot) (hP : va_P D classes (wl_X12_shoes ad cs mod_code mod_shoes mod_claims mod_taped mod_here mod_fault mod_suits mod_doneMany mod_undoneMany mod_open mod_laid mod_isBoth mod_wished mod_bestMany mod_bestRow mod_ringDigits mod_traces mod_wearer mod_wornFor mod_shoeSort mod_shoeDay mod_holds mod_size mod_elements) H) (hD : va_D A (wl_X12_shoes ad cs mod_code mod_shoes mod_claims mod_taped mod_here mod_fault mod_suits mod_doneMany mod_undoneMany mod_open mod_laid mod_isBoth mod_wished mod_bestMany mod_bestRow mod_ringDigits mod_traces mod_wearer mod_wornFor mod_shoeSort mod_shoeDay mod_holds mod_size mod_elements)) (hS : va_S A s.heap H locs) (hl : lv_has ls 8 [(0, .ref (ad 41)), (1, .int x1), (2, .int x2), (3, .int x3), (4, .int x4)]), W p l e rm_X12_shoes s m args below meth c H locs 0 0 (MQ below (Q_X12_shoes D cs ad mod_code mod_claims mod_taped mod_here mod_fault mod_suits mod_doneMany mod_undoneMany mod_open mod_laid mod_isBoth mod_wished mod_bestMany mod_bestRow mod_ringDigits mod_traces mod_holds mod_size mod_elements A R) args s 0 0 A) (F0 m 58 ls [])) := by
  intro n
  induction n with
  | zero =>
    refine ?_ <;> (intros; rename_i h _ _ _ _ _ _ _; cases h)
  | succ n ih =>
    exact L_X12_shoes_58 C0 hK hA  ih
set_option maxHeartbeats 4000000 in
set_option maxRecDepth 100000 in
theorem c_X12_shoes (l : Launch) (D : va_G) (cs : Nat → ClassId) (ad : Nat → Nat) (sz : Nat) (n : Nat) (x1 : Int32) (x2 : Int32) (x3 : Int32) (mod_code : Int32) (mod_shoes : Int32) (mod_claims : Int32) (mod_taped : Int32) (mod_here : Int32) (mod_fault : Int32) (mod_suits : Int32) (mod_doneMany : Int32) (mod_undoneMany : Int32) (mod_open : Int32) (mod_laid : Int32) (mod_isBoth : Int32) (mod_wished : Int32) (mod_bestMany : Int32) (mod_bestRow : Int32) (mod_ringDigits : Int32) (mod_traces : Int32) (mod_wearer : Nat → Int32) (mod_wornFor : Nat → Int32) (mod_shoeSort : Nat → Int32) (mod_shoeDay : Nat → Int32) (mod_holds : Nat → Int32) (mod_size : Nat → Int32) (mod_elements : Nat → Int64) (R : Int32 × Int32 × (Nat → Int32) × (Nat → Int32) × (Nat → Int32) × (Nat → Int32)) (h : f_X12_shoes   n x1 x2 x3 mod_code mod_shoes mod_claims mod_taped mod_here mod_fault mod_suits mod_doneMany mod_undoneMany mod_open mod_laid mod_isBoth mod_wished mod_bestMany mod_bestRow mod_ringDigits mod_traces mod_wearer mod_wornFor mod_shoeSort mod_shoeDay mod_holds mod_size mod_elements = some R) : Met l yX12_shoes (z_X12_shoes) rm_X12_shoes (va_Pc [.ref (ad 41), .int x1, .int x2, .int x3] (zPre D cs (wl_X12_shoes ad cs mod_code mod_shoes mod_claims mod_taped mod_here mod_fault mod_suits mod_doneMany mod_undoneMany mod_open mod_laid mod_isBoth mod_wished mod_bestMany mod_bestRow mod_ringDigits mod_traces mod_wearer mod_wornFor mod_shoeSort mod_shoeDay mod_holds mod_size mod_elements) sz)) (Q_X12_shoes D cs ad mod_code mod_claims mod_taped mod_here mod_fault mod_suits mod_doneMany mod_undoneMany mod_open mod_laid mod_isBoth mod_wished mod_bestMany mod_bestRow mod_ringDigits mod_traces mod_holds mod_size mod_elements (va_A (wl_X12_shoes ad cs mod_code mod_shoes mod_claims mod_taped mod_here mod_fault mod_suits mod_doneMany mod_undoneMany mod_open mod_laid mod_isBoth mod_wished mod_bestMany mod_bestRow mod_ringDigits mod_traces mod_wearer mod_wornFor mod_shoeSort mod_shoeDay mod_holds mod_size mod_elements) sz) R) 0 0 (va_A (wl_X12_shoes ad cs mod_code mod_shoes mod_claims mod_taped mod_here mod_fault mod_suits mod_doneMany mod_undoneMany mod_open mod_laid mod_isBoth mod_wished mod_bestMany mod_bestRow mod_ringDigits mod_traces mod_wearer mod_wornFor mod_shoeSort mod_shoeDay mod_holds mod_size mod_elements) sz) := by
  refine Met.ofW (cc := cX12_shoes) (maxL := 8) (ret := (some .int)) (by decide) rfl ?_
  intro p e s m args below meth c s₁ B hml hv
  obtain ⟨rfl, hsz, hP, hK, hD0⟩ := hv
  subst hsz
  have hD := hD0.self (sz := s.heap.size)
  have C0 : zC p s m _ meth c cX12_shoes 8 (some .int) RX12 zW := ⟨B.exec, B.bytes, B.returns, hml, findClass_of_methodNamed B.named, fun w hw => atoms_spec (ws := z_X12_shoes) B.pre w (List.mem_cons_of_mem _ hw), B.notSynchronized⟩
  have hA : ∀ q : Nat, s.heap.size ≤ q → va_A (wl_X12_shoes ad cs mod_code mod_shoes mod_claims mod_taped mod_here mod_fault mod_suits mod_doneMany mod_undoneMany mod_open mod_laid mod_isBoth mod_wished mod_bestMany mod_bestRow mod_ringDigits mod_traces mod_wearer mod_wornFor mod_shoeSort mod_shoeDay mod_holds mod_size mod_elements) s.heap.size q := fun q h => Or.inr h
  have hl := lv_entry ([.ref (ad 41), .int x1, .int x2, .int x3]) (n := 8) (Nat.le_of_ble_eq_true rfl)
  rw [lg_entry_eq]
  generalize (lg_sl ([.ref (ad 41), .int x1, .int x2, .int x3]) ++ List.replicate (8 - (lg_sl ([.ref (ad 41), .int x1, .int x2, .int x3])).length) Slot.unset).toArray = ls at hl ⊢
  exact L_X12_shoes_0 C0 hK hA  ((LG_X12_shoes C0 hK hA  n)) x1 x2 x3 mod_shoes mod_wearer mod_wornFor mod_shoeSort mod_shoeDay h s.heap [] ls hP hD va_S.rf hl
theorem kw_16 : Cond.selects RX12 yX12_isShoe yX12_isShoe ∈ zW := zwI (i := 16) (by decide +kernel) (by decide +kernel)
theorem kw_1504 : Cond.methodLink RX12 176 yX12_isShoe ∈ zW := zwC (i := 230) zc_6 rfl rfl
theorem kw_1506 : Cond.instanceMethod yX12_isShoe ∈ zW := zwC (i := 232) zc_6 rfl rfl
theorem kw_1507 : Cond.code yX12_isShoe cX12_isShoe 2 (some .boolean) ∈ zW := zwC (i := 233) zc_6 rfl rfl
theorem zh_cX12_ofShoe_0 : zck [42, 27, 182, 0, 176, 154, 0, 7, 2, 167, 0, 59, 28, 154, 0, 12, 42, 180, 0, 7, 27, 46] (zdu 0 cX12_ofShoe.data.toList) = true := by decide +kernel
theorem dX12_ofShoe_0 : decode cX12_ofShoe 0 = .ok (.aload_n 0, 1) := zo_42 zh_cX12_ofShoe_0 0 rfl
theorem dX12_ofShoe_1 : decode cX12_ofShoe 1 = .ok (.iload_n 1, 1) := zo_27 zh_cX12_ofShoe_0 1 rfl
theorem dX12_ofShoe_2 : decode cX12_ofShoe 2 = .ok (.invokevirtual 176, 3) := zo_182 zh_cX12_ofShoe_0 2 rfl
theorem dX12_ofShoe_5 : decode cX12_ofShoe 5 = .ok (.ifCond .ne 7, 3) := zo_p154 zh_cX12_ofShoe_0 5 7 rfl rfl
theorem dX12_ofShoe_8 : decode cX12_ofShoe 8 = .ok (.iconst (-1), 1) := zo_2 zh_cX12_ofShoe_0 8 rfl
theorem dX12_ofShoe_9 : decode cX12_ofShoe 9 = .ok (.goto 59, 3) := zo_p167 zh_cX12_ofShoe_0 9 59 rfl rfl
theorem dX12_ofShoe_12 : decode cX12_ofShoe 12 = .ok (.iload_n 2, 1) := zo_28 zh_cX12_ofShoe_0 12 rfl
theorem dX12_ofShoe_13 : decode cX12_ofShoe 13 = .ok (.ifCond .ne 12, 3) := zo_p154 zh_cX12_ofShoe_0 13 12 rfl rfl
theorem dX12_ofShoe_16 : decode cX12_ofShoe 16 = .ok (.aload_n 0, 1) := zo_42 zh_cX12_ofShoe_0 16 rfl
theorem dX12_ofShoe_17 : decode cX12_ofShoe 17 = .ok (.getfield 7, 3) := zo_180 zh_cX12_ofShoe_0 17 rfl
theorem zh_cX12_ofShoe_1 : zck [27, 46, 167, 0, 46, 28, 4, 160, 0, 12, 42, 180, 0, 13, 27, 46, 167, 0, 32, 28, 5, 160] (zdu 20 cX12_ofShoe.data.toList) = true := by decide +kernel
theorem dX12_ofShoe_20 : decode cX12_ofShoe 20 = .ok (.iload_n 1, 1) := zo_27 zh_cX12_ofShoe_1 0 rfl
theorem dX12_ofShoe_21 : decode cX12_ofShoe 21 = .ok (.iaload, 1) := zo_46 zh_cX12_ofShoe_1 1 rfl
theorem dX12_ofShoe_22 : decode cX12_ofShoe 22 = .ok (.goto 46, 3) := zo_p167 zh_cX12_ofShoe_1 2 46 rfl rfl
theorem dX12_ofShoe_25 : decode cX12_ofShoe 25 = .ok (.iload_n 2, 1) := zo_28 zh_cX12_ofShoe_1 5 rfl
theorem dX12_ofShoe_26 : decode cX12_ofShoe 26 = .ok (.iconst 1, 1) := zo_4 zh_cX12_ofShoe_1 6 rfl
theorem dX12_ofShoe_27 : decode cX12_ofShoe 27 = .ok (.if_icmp .ne 12, 3) := zo_p160 zh_cX12_ofShoe_1 7 12 rfl rfl
theorem dX12_ofShoe_30 : decode cX12_ofShoe 30 = .ok (.aload_n 0, 1) := zo_42 zh_cX12_ofShoe_1 10 rfl
theorem dX12_ofShoe_31 : decode cX12_ofShoe 31 = .ok (.getfield 13, 3) := zo_180 zh_cX12_ofShoe_1 11 rfl
theorem dX12_ofShoe_34 : decode cX12_ofShoe 34 = .ok (.iload_n 1, 1) := zo_27 zh_cX12_ofShoe_1 14 rfl
theorem dX12_ofShoe_35 : decode cX12_ofShoe 35 = .ok (.iaload, 1) := zo_46 zh_cX12_ofShoe_1 15 rfl
theorem dX12_ofShoe_36 : decode cX12_ofShoe 36 = .ok (.goto 32, 3) := zo_p167 zh_cX12_ofShoe_1 16 32 rfl rfl
theorem dX12_ofShoe_39 : decode cX12_ofShoe 39 = .ok (.iload_n 2, 1) := zo_28 zh_cX12_ofShoe_1 19 rfl
theorem zh_cX12_ofShoe_2 : zck [5, 160, 0, 12, 42, 180, 0, 16, 27, 46, 167, 0, 18, 28, 6, 160, 0, 12, 42, 180, 0, 19] (zdu 40 cX12_ofShoe.data.toList) = true := by decide +kernel
theorem dX12_ofShoe_40 : decode cX12_ofShoe 40 = .ok (.iconst 2, 1) := zo_5 zh_cX12_ofShoe_2 0 rfl
theorem dX12_ofShoe_41 : decode cX12_ofShoe 41 = .ok (.if_icmp .ne 12, 3) := zo_p160 zh_cX12_ofShoe_2 1 12 rfl rfl
theorem dX12_ofShoe_44 : decode cX12_ofShoe 44 = .ok (.aload_n 0, 1) := zo_42 zh_cX12_ofShoe_2 4 rfl
theorem dX12_ofShoe_45 : decode cX12_ofShoe 45 = .ok (.getfield 16, 3) := zo_180 zh_cX12_ofShoe_2 5 rfl
theorem dX12_ofShoe_48 : decode cX12_ofShoe 48 = .ok (.iload_n 1, 1) := zo_27 zh_cX12_ofShoe_2 8 rfl
theorem dX12_ofShoe_49 : decode cX12_ofShoe 49 = .ok (.iaload, 1) := zo_46 zh_cX12_ofShoe_2 9 rfl
theorem dX12_ofShoe_50 : decode cX12_ofShoe 50 = .ok (.goto 18, 3) := zo_p167 zh_cX12_ofShoe_2 10 18 rfl rfl
theorem dX12_ofShoe_53 : decode cX12_ofShoe 53 = .ok (.iload_n 2, 1) := zo_28 zh_cX12_ofShoe_2 13 rfl
theorem dX12_ofShoe_54 : decode cX12_ofShoe 54 = .ok (.iconst 3, 1) := zo_6 zh_cX12_ofShoe_2 14 rfl
theorem dX12_ofShoe_55 : decode cX12_ofShoe 55 = .ok (.if_icmp .ne 12, 3) := zo_p160 zh_cX12_ofShoe_2 15 12 rfl rfl
theorem dX12_ofShoe_58 : decode cX12_ofShoe 58 = .ok (.aload_n 0, 1) := zo_42 zh_cX12_ofShoe_2 18 rfl
theorem dX12_ofShoe_59 : decode cX12_ofShoe 59 = .ok (.getfield 19, 3) := zo_180 zh_cX12_ofShoe_2 19 rfl
theorem zh_cX12_ofShoe_3 : zck [0, 19, 27, 46, 167, 0, 4, 2, 172] (zdu 60 cX12_ofShoe.data.toList) = true := by decide +kernel
theorem dX12_ofShoe_62 : decode cX12_ofShoe 62 = .ok (.iload_n 1, 1) := zo_27 zh_cX12_ofShoe_3 2 rfl
theorem dX12_ofShoe_63 : decode cX12_ofShoe 63 = .ok (.iaload, 1) := zo_46 zh_cX12_ofShoe_3 3 rfl
theorem dX12_ofShoe_64 : decode cX12_ofShoe 64 = .ok (.goto 4, 3) := zo_p167 zh_cX12_ofShoe_3 4 4 rfl rfl
theorem dX12_ofShoe_67 : decode cX12_ofShoe 67 = .ok (.iconst (-1), 1) := zo_2 zh_cX12_ofShoe_3 7 rfl
theorem dX12_ofShoe_68 : decode cX12_ofShoe 68 = .ok (.ireturn, 1) := zo_172 zh_cX12_ofShoe_3 8 rfl
abbrev z_X12_ofShoe : List Cond := .code yX12_ofShoe cX12_ofShoe 3 (some .int) :: zW
abbrev wl_X12_ofShoe (ad : Nat → Nat) (cs : Nat → ClassId)  (mod_code : Int32) (mod_shoes : Int32) (mod_claims : Int32) (mod_taped : Int32) (mod_here : Int32) (mod_fault : Int32) (mod_suits : Int32) (mod_doneMany : Int32) (mod_undoneMany : Int32) (mod_open : Int32) (mod_laid : Int32) (mod_isBoth : Int32) (mod_wished : Int32) (mod_bestMany : Int32) (mod_bestRow : Int32) (mod_ringDigits : Int32) (mod_traces : Int32) (mod_wearer : Nat → Int32) (mod_wornFor : Nat → Int32) (mod_shoeSort : Nat → Int32) (mod_shoeDay : Nat → Int32) : va_W := [((ad 41), .inr (12, [.int mod_code, .int mod_shoes, .ref (ad 42), .ref (ad 43), .ref (ad 44), .ref (ad 45), .int mod_claims, .ref (ad 46), .ref (ad 47), .ref (ad 48), .ref (ad 49), .ref (ad 50), .int mod_taped, .int mod_here, .int mod_fault, .int mod_suits, .ref (ad 51), .ref (ad 52), .ref (ad 53), .ref (ad 54), .ref (ad 55), .ref (ad 56), .ref (ad 57), .ref (ad 58), .ref (ad 59), .ref (ad 60), .ref (ad 61), .int mod_doneMany, .int mod_undoneMany, .ref (ad 62), .ref (ad 63), .ref (ad 64), .ref (ad 65), .int mod_open, .int mod_laid, .ref (ad 66), .ref (ad 67), .ref (ad 68), .ref (ad 69), .ref (ad 70), .ref (ad 71), .ref (ad 72), .ref (ad 73), .ref (ad 74), .ref (ad 75), .int mod_isBoth, .int mod_wished, .ref (ad 76), .ref (ad 77), .int mod_bestMany, .int mod_bestRow, .ref (ad 78), .ref (ad 79), .int mod_ringDigits, .int mod_traces, .ref (ad 80), .ref (ad 81), .ref (ad 82), .ref (ad 83), .ref (ad 84)])), ((ad 42), .inl (cs 0, 40, .inl mod_wearer)), ((ad 43), .inl (cs 0, 40, .inl mod_wornFor)), ((ad 44), .inl (cs 0, 40, .inl mod_shoeSort)), ((ad 45), .inl (cs 0, 40, .inl mod_shoeDay))]
def Q_X12_ofShoe (D : va_G) (cs : Nat → ClassId) (ad : Nat → Nat)  (mod_code : Int32) (mod_shoes : Int32) (mod_claims : Int32) (mod_taped : Int32) (mod_here : Int32) (mod_fault : Int32) (mod_suits : Int32) (mod_doneMany : Int32) (mod_undoneMany : Int32) (mod_open : Int32) (mod_laid : Int32) (mod_isBoth : Int32) (mod_wished : Int32) (mod_bestMany : Int32) (mod_bestRow : Int32) (mod_ringDigits : Int32) (mod_traces : Int32) (mod_wearer : Nat → Int32) (mod_wornFor : Nat → Int32) (mod_shoeSort : Nat → Int32) (mod_shoeDay : Nat → Int32) (A : Nat → Prop) (R : Int32 × Unit) : Array Value → State → Outcome → State → Prop :=
  va_Qi (fun (r : Int32) (u : Unit) => (r, u) = R) (fun (u : Unit) (t : State) => va_P D classes (wl_X12_ofShoe ad cs mod_code mod_shoes mod_claims mod_taped mod_here mod_fault mod_suits mod_doneMany mod_undoneMany mod_open mod_laid mod_isBoth mod_wished mod_bestMany mod_bestRow mod_ringDigits mod_traces mod_wearer mod_wornFor mod_shoeSort mod_shoeDay) t.heap ∧ va_D A (wl_X12_ofShoe ad cs mod_code mod_shoes mod_claims mod_taped mod_here mod_fault mod_suits mod_doneMany mod_undoneMany mod_open mod_laid mod_isBoth mod_wished mod_bestMany mod_bestRow mod_ringDigits mod_traces mod_wearer mod_wornFor mod_shoeSort mod_shoeDay)) A
abbrev rm_X12_ofShoe : Room := { frames := 2, cells := 0, slots := 0, locals := 43 }
theorem g_X12_176 : GoodIn zW (wsV RX12 176 RX12 yX12_isShoe z_X12_isShoe) := zGV kw_1504 kw_1506 kw_16 kw_95 kw_1507
theorem hd_X12_isShoe : yX12_isShoe.cls ≠ "java/lang/invoke/MethodHandle" ∧ yX12_isShoe.cls ≠ "java/lang/invoke/VarHandle" ∧ (parseMethodDescriptor yX12_isShoe.desc).map (fun d => d.parameters.length) = some 1 := by decide +kernel
def B_X12_ofShoe_0    (mod_code : Int32) (mod_shoes : Int32) (mod_claims : Int32) (mod_taped : Int32) (mod_here : Int32) (mod_fault : Int32) (mod_suits : Int32) (mod_doneMany : Int32) (mod_undoneMany : Int32) (mod_open : Int32) (mod_laid : Int32) (mod_isBoth : Int32) (mod_wished : Int32) (mod_bestMany : Int32) (mod_bestRow : Int32) (mod_ringDigits : Int32) (mod_traces : Int32) (mod_wearer : Nat → Int32) (mod_wornFor : Nat → Int32) (mod_shoeSort : Nat → Int32) (mod_shoeDay : Nat → Int32) (x1 : Int32) (x2 : Int32) : Option (Int32 × Unit) :=
  (zk_b2 (f_X12_isShoe x1 mod_code mod_shoes mod_claims mod_taped mod_here mod_fault mod_suits mod_doneMany mod_undoneMany mod_open mod_laid mod_isBoth mod_wished mod_bestMany mod_bestRow mod_ringDigits mod_traces) (fun r_1 u_2 => (if r_1 = 0 then (some ((-1 : Int32), ())) else (if x2 = 0 then (if (x1 < 0 ∨ 40 ≤ x1.toNatClampNeg) then none else (some (mod_wearer x1.toNatClampNeg, ()))) else (if x2 = (1 : Int32) then (if (x1 < 0 ∨ 40 ≤ x1.toNatClampNeg) then none else (some (mod_wornFor x1.toNatClampNeg, ()))) else (if x2 = (2 : Int32) then (if (x1 < 0 ∨ 40 ≤ x1.toNatClampNeg) then none else (some (mod_shoeSort x1.toNatClampNeg, ()))) else (if x2 = (3 : Int32) then (if (x1 < 0 ∨ 40 ≤ x1.toNatClampNeg) then none else (some (mod_shoeDay x1.toNatClampNeg, ()))) else (some ((-1 : Int32), ())))))))))
def f_X12_ofShoe   (x1 : Int32) (x2 : Int32) (mod_code : Int32) (mod_shoes : Int32) (mod_claims : Int32) (mod_taped : Int32) (mod_here : Int32) (mod_fault : Int32) (mod_suits : Int32) (mod_doneMany : Int32) (mod_undoneMany : Int32) (mod_open : Int32) (mod_laid : Int32) (mod_isBoth : Int32) (mod_wished : Int32) (mod_bestMany : Int32) (mod_bestRow : Int32) (mod_ringDigits : Int32) (mod_traces : Int32) (mod_wearer : Nat → Int32) (mod_wornFor : Nat → Int32) (mod_shoeSort : Nat → Int32) (mod_shoeDay : Nat → Int32) : Option (Int32 × Unit) := B_X12_ofShoe_0   mod_code mod_shoes mod_claims mod_taped mod_here mod_fault mod_suits mod_doneMany mod_undoneMany mod_open mod_laid mod_isBoth mod_wished mod_bestMany mod_bestRow mod_ringDigits mod_traces mod_wearer mod_wornFor mod_shoeSort mod_shoeDay x1 x2 
set_option maxHeartbeats 4000000 in
set_option maxRecDepth 100000 in
theorem L_X12_ofShoe_0 {p : Program} {l : Launch} {e : Env} {s : State} {m : MethodId} {args : Array Value} {below : List Frame} {meth : Method} {c : Code} {A : Nat → Prop} {D : va_G} {cs : Nat → ClassId} {ad : Nat → Nat} {mod_code : Int32} {mod_shoes : Int32} {mod_claims : Int32} {mod_taped : Int32} {mod_here : Int32} {mod_fault : Int32} {mod_suits : Int32} {mod_doneMany : Int32} {mod_undoneMany : Int32} {mod_open : Int32} {mod_laid : Int32} {mod_isBoth : Int32} {mod_wished : Int32} {mod_bestMany : Int32} {mod_bestRow : Int32} {mod_ringDigits : Int32} {mod_traces : Int32} {mod_wearer : Nat → Int32} {mod_wornFor : Nat → Int32} {mod_shoeSort : Nat → Int32} {mod_shoeDay : Nat → Int32} {R : Int32 × Unit} (C0 : zC p s m args meth c cX12_ofShoe 3 (some .int) RX12 zW) (hK : va_K D classes (zT cs) s) (hA : ∀ q : Nat, s.heap.size ≤ q → A q) (x1 : Int32) (x2 : Int32) (h : B_X12_ofShoe_0 mod_code mod_shoes mod_claims mod_taped mod_here mod_fault mod_suits mod_doneMany mod_undoneMany mod_open mod_laid mod_isBoth mod_wished mod_bestMany mod_bestRow mod_ringDigits mod_traces mod_wearer mod_wornFor mod_shoeSort mod_shoeDay x1 x2 = some R) (H : Heap) (locs : List Loc) (ls : Array Slot) (hP : va_P D classes (wl_X12_ofShoe ad cs mod_code mod_shoes mod_claims mod_taped mod_here mod_fault mod_suits mod_doneMany mod_undoneMany mod_open mod_laid mod_isBoth mod_wished mod_bestMany mod_bestRow mod_ringDigits mod_traces mod_wearer mod_wornFor mod_shoeSort mod_shoeDay) H) (hD : va_D A (wl_X12_ofShoe ad cs mod_code mod_shoes mod_claims mod_taped mod_here mod_fault mod_suits mod_doneMany mod_undoneMany mod_open mod_laid mod_isBoth mod_wished mod_bestMany mod_bestRow mod_ringDigits mod_traces mod_wearer mod_wornFor mod_shoeSort mod_shoeDay)) (hS : va_S A s.heap H locs) (hl : lv_has ls 3 [(0, .ref (ad 41)), (1, .int x1), (2, .int x2)]) : W p l e rm_X12_ofShoe s m args below meth c H locs 0 0 (MQ below (Q_X12_ofShoe D cs ad mod_code mod_shoes mod_claims mod_taped mod_here mod_fault mod_suits mod_doneMany mod_undoneMany mod_open mod_laid mod_isBoth mod_wished mod_bestMany mod_bestRow mod_ringDigits mod_traces mod_wearer mod_wornFor mod_shoeSort mod_shoeDay A R) args s 0 0 A) (F0 m 0 ls []) := by
  obtain ⟨hx, hb, hr, hml, hown, ht, hlocks⟩ := id C0
  refine lv_aload_n hx hb dX12_ofShoe_0 rfl (lv_at hl 0 rfl) ?_
  refine lv_iload_n hx hb dX12_ofShoe_1 rfl (lv_at hl 1 rfl) ?_
  obtain ⟨r_1, u_2, hc_3, h⟩ := zk_o2 h
  refine zz_vi (post := (fun r u => (r, u) = (r_1, u_2))) (w1 := fun u => (wl_X12_isShoe ad cs mod_code mod_shoes mod_claims mod_taped mod_here mod_fault mod_suits mod_doneMany mod_undoneMany mod_open mod_laid mod_isBoth mod_wished mod_bestMany mod_bestRow mod_ringDigits mod_traces)) (As := [.int x1]) (rest := []) (c_X12_isShoe l D cs ad  H.size x1 mod_code mod_shoes mod_claims mod_taped mod_here mod_fault mod_suits mod_doneMany mod_undoneMany mod_open mod_laid mod_isBoth mod_wished mod_bestMany mod_bestRow mod_ringDigits mod_traces (r_1, u_2) hc_3) ⟨hx, hb, hml, hown, ht⟩ (cwV 1 ht g_X12_176 rfl rfl rfl ⟨rfl, hd_X12_isShoe⟩ ⟨Nat.le_of_ble_eq_true rfl, Nat.le_of_ble_eq_true rfl⟩) (va_recv hK hP (ci := 12) (q0 := 0) rfl rfl) hP hD hS hK hA [0] rfl rfl [(ad 41)] rfl (fun _ => rfl) rfl hl.1 (Nat.le_of_ble_eq_true rfl) dX12_ofShoe_2 ⟨Nat.zero_le _, Nat.zero_le _⟩ (fun r u H locs hq hP hS => ?_)
  cases hq
  have hP : va_P D classes (wl_X12_ofShoe ad cs mod_code mod_shoes mod_claims mod_taped mod_here mod_fault mod_suits mod_doneMany mod_undoneMany mod_open mod_laid mod_isBoth mod_wished mod_bestMany mod_bestRow mod_ringDigits mod_traces mod_wearer mod_wornFor mod_shoeSort mod_shoeDay) H := hP
  have hD : va_D A (wl_X12_ofShoe ad cs mod_code mod_shoes mod_claims mod_taped mod_here mod_fault mod_suits mod_doneMany mod_undoneMany mod_open mod_laid mod_isBoth mod_wished mod_bestMany mod_bestRow mod_ringDigits mod_traces mod_wearer mod_wornFor mod_shoeSort mod_shoeDay) := zDk hD [(ad 41), (ad 42), (ad 43), (ad 44), (ad 45)] rfl rfl
  refine lv_if_ne (tgt := 12) hx hb dX12_ofShoe_5 (by decide) (fun c_4 => ?_) (fun c_4 => ?_)
  · have h := zk_f c_4 h
    refine lv_iload_n hx hb dX12_ofShoe_12 rfl (lv_at hl 2 rfl) ?_
    refine lv_if_ne (tgt := 25) hx hb dX12_ofShoe_13 (by decide) (fun c_5 => ?_) (fun c_5 => ?_)
    · have h := zk_f c_5 h
      refine lv_iload_n hx hb dX12_ofShoe_25 rfl (lv_at hl 2 rfl) ?_
      refine lv_iconst (v := (1 : Int32)) hx hb dX12_ofShoe_26 (by decide) ?_
      refine lv_icmp_ne (tgt := 39) hx hb dX12_ofShoe_27 (by decide) (fun c_6 => ?_) (fun c_6 => ?_)
      · have h := zk_f c_6 h
        refine lv_iload_n hx hb dX12_ofShoe_39 rfl (lv_at hl 2 rfl) ?_
        refine lv_iconst (v := (2 : Int32)) hx hb dX12_ofShoe_40 (by decide) ?_
        refine lv_icmp_ne (tgt := 53) hx hb dX12_ofShoe_41 (by decide) (fun c_7 => ?_) (fun c_7 => ?_)
        · have h := zk_f c_7 h
          refine lv_iload_n hx hb dX12_ofShoe_53 rfl (lv_at hl 2 rfl) ?_
          refine lv_iconst (v := (3 : Int32)) hx hb dX12_ofShoe_54 (by decide) ?_
          refine lv_icmp_ne (tgt := 67) hx hb dX12_ofShoe_55 (by decide) (fun c_8 => ?_) (fun c_8 => ?_)
          · have h := zk_f c_8 h
            refine lv_iconst (v := (-1 : Int32)) hx hb dX12_ofShoe_67 (by decide) ?_
            exact W.iret (v := (-1 : Int32)) hx hb hr (fun t ht2 hW => ⟨⟨(-1 : Int32), (), rfl, Option.some.inj h, by rw [ht2]; exact hP, hD⟩, hS.F ht2⟩) hS.2.2 dX12_ofShoe_68 hlocks
          · have h := zk_t c_8 h
            refine lv_aload_n hx hb dX12_ofShoe_58 rfl (lv_at hl 0 rfl) ?_
            refine va_get (D := D) (ci := 12) (v := .ref (ad 45)) (C := RX12) (T := TX12) (N := 60) hx hb ht iX12 hown hK hP 0 rfl rfl 5 (by decide) (ht _ kw_1300) (fun _ h9 => h9) rfl dX12_ofShoe_59 ?_
            refine lv_iload_n hx hb dX12_ofShoe_62 rfl (lv_at hl 1 rfl) ?_
            obtain ⟨g_9, h⟩ := zk_gd h
            refine va_iald hx hb hK hP 4 0 rfl rfl g_9 dX12_ofShoe_63 ?_
            refine lv_goto (tgt := 68) hx hb dX12_ofShoe_64 (by decide) ?_
            exact W.iret (v := mod_shoeDay x1.toNatClampNeg) hx hb hr (fun t ht2 hW => ⟨⟨mod_shoeDay x1.toNatClampNeg, (), rfl, Option.some.inj h, by rw [ht2]; exact hP, hD⟩, hS.F ht2⟩) hS.2.2 dX12_ofShoe_68 hlocks
        · have h := zk_t c_7 h
          refine lv_aload_n hx hb dX12_ofShoe_44 rfl (lv_at hl 0 rfl) ?_
          refine va_get (D := D) (ci := 12) (v := .ref (ad 44)) (C := RX12) (T := TX12) (N := 60) hx hb ht iX12 hown hK hP 0 rfl rfl 4 (by decide) (ht _ kw_1299) (fun _ h9 => h9) rfl dX12_ofShoe_45 ?_
          refine lv_iload_n hx hb dX12_ofShoe_48 rfl (lv_at hl 1 rfl) ?_
          obtain ⟨g_10, h⟩ := zk_gd h
          refine va_iald hx hb hK hP 3 0 rfl rfl g_10 dX12_ofShoe_49 ?_
          refine lv_goto (tgt := 68) hx hb dX12_ofShoe_50 (by decide) ?_
          exact W.iret (v := mod_shoeSort x1.toNatClampNeg) hx hb hr (fun t ht2 hW => ⟨⟨mod_shoeSort x1.toNatClampNeg, (), rfl, Option.some.inj h, by rw [ht2]; exact hP, hD⟩, hS.F ht2⟩) hS.2.2 dX12_ofShoe_68 hlocks
      · have h := zk_t c_6 h
        refine lv_aload_n hx hb dX12_ofShoe_30 rfl (lv_at hl 0 rfl) ?_
        refine va_get (D := D) (ci := 12) (v := .ref (ad 43)) (C := RX12) (T := TX12) (N := 60) hx hb ht iX12 hown hK hP 0 rfl rfl 3 (by decide) (ht _ kw_1298) (fun _ h9 => h9) rfl dX12_ofShoe_31 ?_
        refine lv_iload_n hx hb dX12_ofShoe_34 rfl (lv_at hl 1 rfl) ?_
        obtain ⟨g_11, h⟩ := zk_gd h
        refine va_iald hx hb hK hP 2 0 rfl rfl g_11 dX12_ofShoe_35 ?_
        refine lv_goto (tgt := 68) hx hb dX12_ofShoe_36 (by decide) ?_
        exact W.iret (v := mod_wornFor x1.toNatClampNeg) hx hb hr (fun t ht2 hW => ⟨⟨mod_wornFor x1.toNatClampNeg, (), rfl, Option.some.inj h, by rw [ht2]; exact hP, hD⟩, hS.F ht2⟩) hS.2.2 dX12_ofShoe_68 hlocks
    · have h := zk_t c_5 h
      refine lv_aload_n hx hb dX12_ofShoe_16 rfl (lv_at hl 0 rfl) ?_
      refine va_get (D := D) (ci := 12) (v := .ref (ad 42)) (C := RX12) (T := TX12) (N := 60) hx hb ht iX12 hown hK hP 0 rfl rfl 2 (by decide) (ht _ kw_1297) (fun _ h9 => h9) rfl dX12_ofShoe_17 ?_
      refine lv_iload_n hx hb dX12_ofShoe_20 rfl (lv_at hl 1 rfl) ?_
      obtain ⟨g_12, h⟩ := zk_gd h
      refine va_iald hx hb hK hP 1 0 rfl rfl g_12 dX12_ofShoe_21 ?_
      refine lv_goto (tgt := 68) hx hb dX12_ofShoe_22 (by decide) ?_
      exact W.iret (v := mod_wearer x1.toNatClampNeg) hx hb hr (fun t ht2 hW => ⟨⟨mod_wearer x1.toNatClampNeg, (), rfl, Option.some.inj h, by rw [ht2]; exact hP, hD⟩, hS.F ht2⟩) hS.2.2 dX12_ofShoe_68 hlocks
  · have h := zk_t c_4 h
    refine lv_iconst (v := (-1 : Int32)) hx hb dX12_ofShoe_8 (by decide) ?_
    refine lv_goto (tgt := 68) hx hb dX12_ofShoe_9 (by decide) ?_
    exact W.iret (v := (-1 : Int32)) hx hb hr (fun t ht2 hW => ⟨⟨(-1 : Int32), (), rfl, Option.some.inj h, by rw [ht2]; exact hP, hD⟩, hS.F ht2⟩) hS.2.2 dX12_ofShoe_68 hlocks
set_option maxHeartbeats 4000000 in
set_option maxRecDepth 100000 in
theorem c_X12_ofShoe (l : Launch) (D : va_G) (cs : Nat → ClassId) (ad : Nat → Nat) (sz : Nat) (x1 : Int32) (x2 : Int32) (mod_code : Int32) (mod_shoes : Int32) (mod_claims : Int32) (mod_taped : Int32) (mod_here : Int32) (mod_fault : Int32) (mod_suits : Int32) (mod_doneMany : Int32) (mod_undoneMany : Int32) (mod_open : Int32) (mod_laid : Int32) (mod_isBoth : Int32) (mod_wished : Int32) (mod_bestMany : Int32) (mod_bestRow : Int32) (mod_ringDigits : Int32) (mod_traces : Int32) (mod_wearer : Nat → Int32) (mod_wornFor : Nat → Int32) (mod_shoeSort : Nat → Int32) (mod_shoeDay : Nat → Int32) (R : Int32 × Unit) (h : f_X12_ofShoe   x1 x2 mod_code mod_shoes mod_claims mod_taped mod_here mod_fault mod_suits mod_doneMany mod_undoneMany mod_open mod_laid mod_isBoth mod_wished mod_bestMany mod_bestRow mod_ringDigits mod_traces mod_wearer mod_wornFor mod_shoeSort mod_shoeDay = some R) : Met l yX12_ofShoe (z_X12_ofShoe) rm_X12_ofShoe (va_Pc [.ref (ad 41), .int x1, .int x2] (zPre D cs (wl_X12_ofShoe ad cs mod_code mod_shoes mod_claims mod_taped mod_here mod_fault mod_suits mod_doneMany mod_undoneMany mod_open mod_laid mod_isBoth mod_wished mod_bestMany mod_bestRow mod_ringDigits mod_traces mod_wearer mod_wornFor mod_shoeSort mod_shoeDay) sz)) (Q_X12_ofShoe D cs ad mod_code mod_shoes mod_claims mod_taped mod_here mod_fault mod_suits mod_doneMany mod_undoneMany mod_open mod_laid mod_isBoth mod_wished mod_bestMany mod_bestRow mod_ringDigits mod_traces mod_wearer mod_wornFor mod_shoeSort mod_shoeDay (va_A (wl_X12_ofShoe ad cs mod_code mod_shoes mod_claims mod_taped mod_here mod_fault mod_suits mod_doneMany mod_undoneMany mod_open mod_laid mod_isBoth mod_wished mod_bestMany mod_bestRow mod_ringDigits mod_traces mod_wearer mod_wornFor mod_shoeSort mod_shoeDay) sz) R) 0 0 (va_A (wl_X12_ofShoe ad cs mod_code mod_shoes mod_claims mod_taped mod_here mod_fault mod_suits mod_doneMany mod_undoneMany mod_open mod_laid mod_isBoth mod_wished mod_bestMany mod_bestRow mod_ringDigits mod_traces mod_wearer mod_wornFor mod_shoeSort mod_shoeDay) sz) := by
  refine Met.ofW (cc := cX12_ofShoe) (maxL := 3) (ret := (some .int)) (by decide) rfl ?_
  intro p e s m args below meth c s₁ B hml hv
  obtain ⟨rfl, hsz, hP, hK, hD0⟩ := hv
  subst hsz
  have hD := hD0.self (sz := s.heap.size)
  have C0 : zC p s m _ meth c cX12_ofShoe 3 (some .int) RX12 zW := ⟨B.exec, B.bytes, B.returns, hml, findClass_of_methodNamed B.named, fun w hw => atoms_spec (ws := z_X12_ofShoe) B.pre w (List.mem_cons_of_mem _ hw), B.notSynchronized⟩
  have hA : ∀ q : Nat, s.heap.size ≤ q → va_A (wl_X12_ofShoe ad cs mod_code mod_shoes mod_claims mod_taped mod_here mod_fault mod_suits mod_doneMany mod_undoneMany mod_open mod_laid mod_isBoth mod_wished mod_bestMany mod_bestRow mod_ringDigits mod_traces mod_wearer mod_wornFor mod_shoeSort mod_shoeDay) s.heap.size q := fun q h => Or.inr h
  have hl := lv_entry ([.ref (ad 41), .int x1, .int x2]) (n := 3) (Nat.le_of_ble_eq_true rfl)
  rw [lg_entry_eq]
  generalize (lg_sl ([.ref (ad 41), .int x1, .int x2]) ++ List.replicate (3 - (lg_sl ([.ref (ad 41), .int x1, .int x2])).length) Slot.unset).toArray = ls at hl ⊢
  exact L_X12_ofShoe_0 C0 hK hA   x1 x2  h s.heap [] ls hP hD va_S.rf hl
theorem kw_1302 : Cond.fieldLink RX12 22 "AlreadyJudgedModel" "claimBy" "[I" ∈ zW := zwC (i := 28) zc_6 rfl rfl
theorem kw_1303 : Cond.fieldLink RX12 25 "AlreadyJudgedModel" "claimOn" "[I" ∈ zW := zwC (i := 29) zc_6 rfl rfl
theorem kw_1304 : Cond.fieldLink RX12 28 "AlreadyJudgedModel" "factOf" "[I" ∈ zW := zwC (i := 30) zc_6 rfl rfl
theorem kw_1305 : Cond.fieldLink RX12 31 "AlreadyJudgedModel" "pleaOf" "[I" ∈ zW := zwC (i := 31) zc_6 rfl rfl
theorem kw_1512 : Cond.methodLink RX12 179 yX12_isPair ∈ zW := zwC (i := 238) zc_6 rfl rfl
theorem kw_1513 : Cond.static yX12_isPair ∈ zW := zwC (i := 239) zc_6 rfl rfl
theorem kw_1514 : Cond.code yX12_isPair cX12_isPair 1 (some .boolean) ∈ zW := zwC (i := 0) zc_7 rfl rfl
theorem zh_cX12_claim_0 : zck [27, 184, 0, 179, 153, 0, 33, 27, 16, 100, 108, 27, 16, 100, 112, 159, 0, 22, 28, 3, 16, 15] (zdu 0 cX12_claim.data.toList) = true := by decide +kernel
theorem dX12_claim_0 : decode cX12_claim 0 = .ok (.iload_n 1, 1) := zo_27 zh_cX12_claim_0 0 rfl
theorem dX12_claim_1 : decode cX12_claim 1 = .ok (.invokestatic 179, 3) := zo_184 zh_cX12_claim_0 1 rfl
theorem dX12_claim_4 : decode cX12_claim 4 = .ok (.ifCond .eq 33, 3) := zo_p153 zh_cX12_claim_0 4 33 rfl rfl
theorem dX12_claim_7 : decode cX12_claim 7 = .ok (.iload_n 1, 1) := zo_27 zh_cX12_claim_0 7 rfl
theorem dX12_claim_8 : decode cX12_claim 8 = .ok (.bipush 100, 2) := zo_p16 zh_cX12_claim_0 8 100 rfl rfl
theorem dX12_claim_10 : decode cX12_claim 10 = .ok (.idiv, 1) := zo_108 zh_cX12_claim_0 10 rfl
theorem dX12_claim_11 : decode cX12_claim 11 = .ok (.iload_n 1, 1) := zo_27 zh_cX12_claim_0 11 rfl
theorem dX12_claim_12 : decode cX12_claim 12 = .ok (.bipush 100, 2) := zo_p16 zh_cX12_claim_0 12 100 rfl rfl
theorem dX12_claim_14 : decode cX12_claim 14 = .ok (.irem, 1) := zo_112 zh_cX12_claim_0 14 rfl
theorem dX12_claim_15 : decode cX12_claim 15 = .ok (.if_icmp .eq 22, 3) := zo_p159 zh_cX12_claim_0 15 22 rfl rfl
theorem dX12_claim_18 : decode cX12_claim 18 = .ok (.iload_n 2, 1) := zo_28 zh_cX12_claim_0 18 rfl
theorem dX12_claim_19 : decode cX12_claim 19 = .ok (.iconst 0, 1) := zo_3 zh_cX12_claim_0 19 rfl
theorem zh_cX12_claim_1 : zck [16, 15, 184, 0, 147, 153, 0, 12, 29, 3, 6, 184, 0, 147, 154, 0, 5, 2, 172, 42, 180, 0] (zdu 20 cX12_claim.data.toList) = true := by decide +kernel
theorem dX12_claim_20 : decode cX12_claim 20 = .ok (.bipush 15, 2) := zo_p16 zh_cX12_claim_1 0 15 rfl rfl
theorem dX12_claim_22 : decode cX12_claim 22 = .ok (.invokestatic 147, 3) := zo_184 zh_cX12_claim_1 2 rfl
theorem dX12_claim_25 : decode cX12_claim 25 = .ok (.ifCond .eq 12, 3) := zo_p153 zh_cX12_claim_1 5 12 rfl rfl
theorem dX12_claim_28 : decode cX12_claim 28 = .ok (.iload_n 3, 1) := zo_29 zh_cX12_claim_1 8 rfl
theorem dX12_claim_29 : decode cX12_claim 29 = .ok (.iconst 0, 1) := zo_3 zh_cX12_claim_1 9 rfl
theorem dX12_claim_30 : decode cX12_claim 30 = .ok (.iconst 3, 1) := zo_6 zh_cX12_claim_1 10 rfl
theorem dX12_claim_31 : decode cX12_claim 31 = .ok (.invokestatic 147, 3) := zo_184 zh_cX12_claim_1 11 rfl
theorem dX12_claim_34 : decode cX12_claim 34 = .ok (.ifCond .ne 5, 3) := zo_p154 zh_cX12_claim_1 14 5 rfl rfl
theorem dX12_claim_37 : decode cX12_claim 37 = .ok (.iconst (-1), 1) := zo_2 zh_cX12_claim_1 17 rfl
theorem dX12_claim_38 : decode cX12_claim 38 = .ok (.ireturn, 1) := zo_172 zh_cX12_claim_1 18 rfl
theorem dX12_claim_39 : decode cX12_claim 39 = .ok (.aload_n 0, 1) := zo_42 zh_cX12_claim_1 19 rfl
theorem zh_cX12_claim_2 : zck [180, 0, 161, 16, 32, 160, 0, 6, 16, 253, 172, 42, 180, 0, 22, 42, 180, 0, 161, 27, 16, 100] (zdu 40 cX12_claim.data.toList) = true := by decide +kernel
theorem dX12_claim_40 : decode cX12_claim 40 = .ok (.getfield 161, 3) := zo_180 zh_cX12_claim_2 0 rfl
theorem dX12_claim_43 : decode cX12_claim 43 = .ok (.bipush 32, 2) := zo_p16 zh_cX12_claim_2 3 32 rfl rfl
theorem dX12_claim_45 : decode cX12_claim 45 = .ok (.if_icmp .ne 6, 3) := zo_p160 zh_cX12_claim_2 5 6 rfl rfl
theorem dX12_claim_48 : decode cX12_claim 48 = .ok (.bipush (-3), 2) := zo_n16 zh_cX12_claim_2 8 2 rfl rfl
theorem dX12_claim_50 : decode cX12_claim 50 = .ok (.ireturn, 1) := zo_172 zh_cX12_claim_2 10 rfl
theorem dX12_claim_51 : decode cX12_claim 51 = .ok (.aload_n 0, 1) := zo_42 zh_cX12_claim_2 11 rfl
theorem dX12_claim_52 : decode cX12_claim 52 = .ok (.getfield 22, 3) := zo_180 zh_cX12_claim_2 12 rfl
theorem dX12_claim_55 : decode cX12_claim 55 = .ok (.aload_n 0, 1) := zo_42 zh_cX12_claim_2 15 rfl
theorem dX12_claim_56 : decode cX12_claim 56 = .ok (.getfield 161, 3) := zo_180 zh_cX12_claim_2 16 rfl
theorem dX12_claim_59 : decode cX12_claim 59 = .ok (.iload_n 1, 1) := zo_27 zh_cX12_claim_2 19 rfl
theorem zh_cX12_claim_3 : zck [16, 100, 108, 79, 42, 180, 0, 25, 42, 180, 0, 161, 27, 16, 100, 112, 79, 42, 180, 0, 28, 42] (zdu 60 cX12_claim.data.toList) = true := by decide +kernel
theorem dX12_claim_60 : decode cX12_claim 60 = .ok (.bipush 100, 2) := zo_p16 zh_cX12_claim_3 0 100 rfl rfl
theorem dX12_claim_62 : decode cX12_claim 62 = .ok (.idiv, 1) := zo_108 zh_cX12_claim_3 2 rfl
theorem dX12_claim_63 : decode cX12_claim 63 = .ok (.iastore, 1) := zo_79 zh_cX12_claim_3 3 rfl
theorem dX12_claim_64 : decode cX12_claim 64 = .ok (.aload_n 0, 1) := zo_42 zh_cX12_claim_3 4 rfl
theorem dX12_claim_65 : decode cX12_claim 65 = .ok (.getfield 25, 3) := zo_180 zh_cX12_claim_3 5 rfl
theorem dX12_claim_68 : decode cX12_claim 68 = .ok (.aload_n 0, 1) := zo_42 zh_cX12_claim_3 8 rfl
theorem dX12_claim_69 : decode cX12_claim 69 = .ok (.getfield 161, 3) := zo_180 zh_cX12_claim_3 9 rfl
theorem dX12_claim_72 : decode cX12_claim 72 = .ok (.iload_n 1, 1) := zo_27 zh_cX12_claim_3 12 rfl
theorem dX12_claim_73 : decode cX12_claim 73 = .ok (.bipush 100, 2) := zo_p16 zh_cX12_claim_3 13 100 rfl rfl
theorem dX12_claim_75 : decode cX12_claim 75 = .ok (.irem, 1) := zo_112 zh_cX12_claim_3 15 rfl
theorem dX12_claim_76 : decode cX12_claim 76 = .ok (.iastore, 1) := zo_79 zh_cX12_claim_3 16 rfl
theorem dX12_claim_77 : decode cX12_claim 77 = .ok (.aload_n 0, 1) := zo_42 zh_cX12_claim_3 17 rfl
theorem dX12_claim_78 : decode cX12_claim 78 = .ok (.getfield 28, 3) := zo_180 zh_cX12_claim_3 18 rfl
theorem zh_cX12_claim_4 : zck [28, 42, 180, 0, 161, 28, 79, 42, 180, 0, 31, 42, 180, 0, 161, 29, 79, 42, 89, 180, 0, 161] (zdu 80 cX12_claim.data.toList) = true := by decide +kernel
theorem dX12_claim_81 : decode cX12_claim 81 = .ok (.aload_n 0, 1) := zo_42 zh_cX12_claim_4 1 rfl
theorem dX12_claim_82 : decode cX12_claim 82 = .ok (.getfield 161, 3) := zo_180 zh_cX12_claim_4 2 rfl
theorem dX12_claim_85 : decode cX12_claim 85 = .ok (.iload_n 2, 1) := zo_28 zh_cX12_claim_4 5 rfl
theorem dX12_claim_86 : decode cX12_claim 86 = .ok (.iastore, 1) := zo_79 zh_cX12_claim_4 6 rfl
theorem dX12_claim_87 : decode cX12_claim 87 = .ok (.aload_n 0, 1) := zo_42 zh_cX12_claim_4 7 rfl
theorem dX12_claim_88 : decode cX12_claim 88 = .ok (.getfield 31, 3) := zo_180 zh_cX12_claim_4 8 rfl
theorem dX12_claim_91 : decode cX12_claim 91 = .ok (.aload_n 0, 1) := zo_42 zh_cX12_claim_4 11 rfl
theorem dX12_claim_92 : decode cX12_claim 92 = .ok (.getfield 161, 3) := zo_180 zh_cX12_claim_4 12 rfl
theorem dX12_claim_95 : decode cX12_claim 95 = .ok (.iload_n 3, 1) := zo_29 zh_cX12_claim_4 15 rfl
theorem dX12_claim_96 : decode cX12_claim 96 = .ok (.iastore, 1) := zo_79 zh_cX12_claim_4 16 rfl
theorem dX12_claim_97 : decode cX12_claim 97 = .ok (.aload_n 0, 1) := zo_42 zh_cX12_claim_4 17 rfl
theorem dX12_claim_98 : decode cX12_claim 98 = .ok (.dup, 1) := zo_89 zh_cX12_claim_4 18 rfl
theorem dX12_claim_99 : decode cX12_claim 99 = .ok (.getfield 161, 3) := zo_180 zh_cX12_claim_4 19 rfl
theorem zh_cX12_claim_5 : zck [0, 161, 4, 96, 181, 0, 161, 42, 180, 0, 161, 4, 100, 172] (zdu 100 cX12_claim.data.toList) = true := by decide +kernel
theorem dX12_claim_102 : decode cX12_claim 102 = .ok (.iconst 1, 1) := zo_4 zh_cX12_claim_5 2 rfl
theorem dX12_claim_103 : decode cX12_claim 103 = .ok (.iadd, 1) := zo_96 zh_cX12_claim_5 3 rfl
theorem dX12_claim_104 : decode cX12_claim 104 = .ok (.putfield 161, 3) := zo_181 zh_cX12_claim_5 4 rfl
theorem dX12_claim_107 : decode cX12_claim 107 = .ok (.aload_n 0, 1) := zo_42 zh_cX12_claim_5 7 rfl
theorem dX12_claim_108 : decode cX12_claim 108 = .ok (.getfield 161, 3) := zo_180 zh_cX12_claim_5 8 rfl
theorem dX12_claim_111 : decode cX12_claim 111 = .ok (.iconst 1, 1) := zo_4 zh_cX12_claim_5 11 rfl
theorem dX12_claim_112 : decode cX12_claim 112 = .ok (.isub, 1) := zo_100 zh_cX12_claim_5 12 rfl
theorem dX12_claim_113 : decode cX12_claim 113 = .ok (.ireturn, 1) := zo_172 zh_cX12_claim_5 13 rfl
abbrev z_X12_claim : List Cond := .code yX12_claim cX12_claim 4 (some .int) :: zW
abbrev wl_X12_claim (ad : Nat → Nat) (cs : Nat → ClassId)  (mod_code : Int32) (mod_shoes : Int32) (mod_claims : Int32) (mod_taped : Int32) (mod_here : Int32) (mod_fault : Int32) (mod_suits : Int32) (mod_doneMany : Int32) (mod_undoneMany : Int32) (mod_open : Int32) (mod_laid : Int32) (mod_isBoth : Int32) (mod_wished : Int32) (mod_bestMany : Int32) (mod_bestRow : Int32) (mod_ringDigits : Int32) (mod_traces : Int32) (mod_claimBy : Nat → Int32) (mod_claimOn : Nat → Int32) (mod_factOf : Nat → Int32) (mod_pleaOf : Nat → Int32) : va_W := [((ad 41), .inr (12, [.int mod_code, .int mod_shoes, .ref (ad 42), .ref (ad 43), .ref (ad 44), .ref (ad 45), .int mod_claims, .ref (ad 46), .ref (ad 47), .ref (ad 48), .ref (ad 49), .ref (ad 50), .int mod_taped, .int mod_here, .int mod_fault, .int mod_suits, .ref (ad 51), .ref (ad 52), .ref (ad 53), .ref (ad 54), .ref (ad 55), .ref (ad 56), .ref (ad 57), .ref (ad 58), .ref (ad 59), .ref (ad 60), .ref (ad 61), .int mod_doneMany, .int mod_undoneMany, .ref (ad 62), .ref (ad 63), .ref (ad 64), .ref (ad 65), .int mod_open, .int mod_laid, .ref (ad 66), .ref (ad 67), .ref (ad 68), .ref (ad 69), .ref (ad 70), .ref (ad 71), .ref (ad 72), .ref (ad 73), .ref (ad 74), .ref (ad 75), .int mod_isBoth, .int mod_wished, .ref (ad 76), .ref (ad 77), .int mod_bestMany, .int mod_bestRow, .ref (ad 78), .ref (ad 79), .int mod_ringDigits, .int mod_traces, .ref (ad 80), .ref (ad 81), .ref (ad 82), .ref (ad 83), .ref (ad 84)])), ((ad 46), .inl (cs 0, 32, .inl mod_claimBy)), ((ad 47), .inl (cs 0, 32, .inl mod_claimOn)), ((ad 48), .inl (cs 0, 32, .inl mod_factOf)), ((ad 49), .inl (cs 0, 32, .inl mod_pleaOf))]
def Q_X12_claim (D : va_G) (cs : Nat → ClassId) (ad : Nat → Nat)  (mod_code : Int32) (mod_shoes : Int32) (mod_taped : Int32) (mod_here : Int32) (mod_fault : Int32) (mod_suits : Int32) (mod_doneMany : Int32) (mod_undoneMany : Int32) (mod_open : Int32) (mod_laid : Int32) (mod_isBoth : Int32) (mod_wished : Int32) (mod_bestMany : Int32) (mod_bestRow : Int32) (mod_ringDigits : Int32) (mod_traces : Int32) (A : Nat → Prop) (R : Int32 × Int32 × (Nat → Int32) × (Nat → Int32) × (Nat → Int32) × (Nat → Int32)) : Array Value → State → Outcome → State → Prop :=
  va_Qi (fun (r : Int32) (u : Int32 × (Nat → Int32) × (Nat → Int32) × (Nat → Int32) × (Nat → Int32)) => (r, u) = R) (fun (u : Int32 × (Nat → Int32) × (Nat → Int32) × (Nat → Int32) × (Nat → Int32)) (t : State) => va_P D classes (wl_X12_claim ad cs mod_code mod_shoes u.1 mod_taped mod_here mod_fault mod_suits mod_doneMany mod_undoneMany mod_open mod_laid mod_isBoth mod_wished mod_bestMany mod_bestRow mod_ringDigits mod_traces u.2.1 u.2.2.1 u.2.2.2.1 u.2.2.2.2) t.heap ∧ va_D A (wl_X12_claim ad cs mod_code mod_shoes u.1 mod_taped mod_here mod_fault mod_suits mod_doneMany mod_undoneMany mod_open mod_laid mod_isBoth mod_wished mod_bestMany mod_bestRow mod_ringDigits mod_traces u.2.1 u.2.2.1 u.2.2.2.1 u.2.2.2.2)) A
abbrev rm_X12_claim : Room := { frames := 1, cells := 0, slots := 0, locals := 22 }
theorem g_X12_179 : GoodIn zW (va_wsS RX12 179 yX12_isPair z_X12_isPair) := zGS kw_1512 kw_1513 kw_95 kw_1514
theorem hd_X12_isPair : yX12_isPair.cls ≠ "java/lang/invoke/MethodHandle" ∧ yX12_isPair.cls ≠ "java/lang/invoke/VarHandle" ∧ (parseMethodDescriptor yX12_isPair.desc).map (fun d => d.parameters.length) = some 1 := by decide +kernel
def B_X12_claim_0    (mod_code : Int32) (mod_shoes : Int32) (mod_taped : Int32) (mod_here : Int32) (mod_fault : Int32) (mod_suits : Int32) (mod_doneMany : Int32) (mod_undoneMany : Int32) (mod_open : Int32) (mod_laid : Int32) (mod_isBoth : Int32) (mod_wished : Int32) (mod_bestMany : Int32) (mod_bestRow : Int32) (mod_ringDigits : Int32) (mod_traces : Int32) (x1 : Int32) (x2 : Int32) (x3 : Int32) (mod_claims : Int32) (mod_claimBy : Nat → Int32) (mod_claimOn : Nat → Int32) (mod_factOf : Nat → Int32) (mod_pleaOf : Nat → Int32) : Option (Int32 × Int32 × (Nat → Int32) × (Nat → Int32) × (Nat → Int32) × (Nat → Int32)) :=
  (zk_b2 (f_X12_isPair x1) (fun r_1 u_2 => (if r_1 = 0 then (some ((-1 : Int32), mod_claims, mod_claimBy, mod_claimOn, mod_factOf, mod_pleaOf)) else (if (x1 / (100 : Int32)) = (x1 - x1 / (100 : Int32) * (100 : Int32)) then (some ((-1 : Int32), mod_claims, mod_claimBy, mod_claimOn, mod_factOf, mod_pleaOf)) else (zk_b2 (f_X12_in x2 (0 : Int32) (15 : Int32)) (fun r_6 u_7 => (if r_6 = 0 then (some ((-1 : Int32), mod_claims, mod_claimBy, mod_claimOn, mod_factOf, mod_pleaOf)) else (zk_b2 (f_X12_in x3 (0 : Int32) (3 : Int32)) (fun r_10 u_11 => (if r_10 = 0 then (some ((-1 : Int32), mod_claims, mod_claimBy, mod_claimOn, mod_factOf, mod_pleaOf)) else (if mod_claims = (32 : Int32) then (some ((-3 : Int32), mod_claims, mod_claimBy, mod_claimOn, mod_factOf, mod_pleaOf)) else (zk_let (x1 / (100 : Int32)) (fun v_15 => (if (mod_claims < 0 ∨ 32 ≤ mod_claims.toNatClampNeg) then none else (zk_let (upd mod_claimBy mod_claims.toNatClampNeg v_15) (fun f_17 => (zk_let (x1 - x1 / (100 : Int32) * (100 : Int32)) (fun v_18 => (if (mod_claims < 0 ∨ 32 ≤ mod_claims.toNatClampNeg) then none else (zk_let (upd mod_claimOn mod_claims.toNatClampNeg v_18) (fun f_20 => (if (mod_claims < 0 ∨ 32 ≤ mod_claims.toNatClampNeg) then none else (zk_let (upd mod_factOf mod_claims.toNatClampNeg x2) (fun f_22 => (if (mod_claims < 0 ∨ 32 ≤ mod_claims.toNatClampNeg) then none else (zk_let (upd mod_pleaOf mod_claims.toNatClampNeg x3) (fun f_24 => (zk_let (mod_claims + (1 : Int32)) (fun v_25 => (some (v_25 - (1 : Int32), v_25, f_17, f_20, f_22, f_24)))))))))))))))))))))))))))))))
def f_X12_claim   (x1 : Int32) (x2 : Int32) (x3 : Int32) (mod_code : Int32) (mod_shoes : Int32) (mod_claims : Int32) (mod_taped : Int32) (mod_here : Int32) (mod_fault : Int32) (mod_suits : Int32) (mod_doneMany : Int32) (mod_undoneMany : Int32) (mod_open : Int32) (mod_laid : Int32) (mod_isBoth : Int32) (mod_wished : Int32) (mod_bestMany : Int32) (mod_bestRow : Int32) (mod_ringDigits : Int32) (mod_traces : Int32) (mod_claimBy : Nat → Int32) (mod_claimOn : Nat → Int32) (mod_factOf : Nat → Int32) (mod_pleaOf : Nat → Int32) : Option (Int32 × Int32 × (Nat → Int32) × (Nat → Int32) × (Nat → Int32) × (Nat → Int32)) := B_X12_claim_0   mod_code mod_shoes mod_taped mod_here mod_fault mod_suits mod_doneMany mod_undoneMany mod_open mod_laid mod_isBoth mod_wished mod_bestMany mod_bestRow mod_ringDigits mod_traces x1 x2 x3 mod_claims mod_claimBy mod_claimOn mod_factOf mod_pleaOf
set_option maxHeartbeats 4000000 in
set_option maxRecDepth 100000 in
theorem L_X12_claim_0 {p : Program} {l : Launch} {e : Env} {s : State} {m : MethodId} {args : Array Value} {below : List Frame} {meth : Method} {c : Code} {A : Nat → Prop} {D : va_G} {cs : Nat → ClassId} {ad : Nat → Nat} {mod_code : Int32} {mod_shoes : Int32} {mod_taped : Int32} {mod_here : Int32} {mod_fault : Int32} {mod_suits : Int32} {mod_doneMany : Int32} {mod_undoneMany : Int32} {mod_open : Int32} {mod_laid : Int32} {mod_isBoth : Int32} {mod_wished : Int32} {mod_bestMany : Int32} {mod_bestRow : Int32} {mod_ringDigits : Int32} {mod_traces : Int32} {R : Int32 × Int32 × (Nat → Int32) × (Nat → Int32) × (Nat → Int32) × (Nat → Int32)} (C0 : zC p s m args meth c cX12_claim 4 (some .int) RX12 zW) (hK : va_K D classes (zT cs) s) (hA : ∀ q : Nat, s.heap.size ≤ q → A q) (x1 : Int32) (x2 : Int32) (x3 : Int32) (mod_claims : Int32) (mod_claimBy : Nat → Int32) (mod_claimOn : Nat → Int32) (mod_factOf : Nat → Int32) (mod_pleaOf : Nat → Int32) (h : B_X12_claim_0 mod_code mod_shoes mod_taped mod_here mod_fault mod_suits mod_doneMany mod_undoneMany mod_open mod_laid mod_isBoth mod_wished mod_bestMany mod_bestRow mod_ringDigits mod_traces x1 x2 x3 mod_claims mod_claimBy mod_claimOn mod_factOf mod_pleaOf = some R) (H : Heap) (locs : List Loc) (ls : Array Slot) (hP : va_P D classes (wl_X12_claim ad cs mod_code mod_shoes mod_claims mod_taped mod_here mod_fault mod_suits mod_doneMany mod_undoneMany mod_open mod_laid mod_isBoth mod_wished mod_bestMany mod_bestRow mod_ringDigits mod_traces mod_claimBy mod_claimOn mod_factOf mod_pleaOf) H) (hD : va_D A (wl_X12_claim ad cs mod_code mod_shoes mod_claims mod_taped mod_here mod_fault mod_suits mod_doneMany mod_undoneMany mod_open mod_laid mod_isBoth mod_wished mod_bestMany mod_bestRow mod_ringDigits mod_traces mod_claimBy mod_claimOn mod_factOf mod_pleaOf)) (hS : va_S A s.heap H locs) (hl : lv_has ls 4 [(0, .ref (ad 41)), (1, .int x1), (2, .int x2), (3, .int x3)]) : W p l e rm_X12_claim s m args below meth c H locs 0 0 (MQ below (Q_X12_claim D cs ad mod_code mod_shoes mod_taped mod_here mod_fault mod_suits mod_doneMany mod_undoneMany mod_open mod_laid mod_isBoth mod_wished mod_bestMany mod_bestRow mod_ringDigits mod_traces A R) args s 0 0 A) (F0 m 0 ls []) := by
  obtain ⟨hx, hb, hr, hml, hown, ht, hlocks⟩ := id C0
  refine lv_iload_n hx hb dX12_claim_0 rfl (lv_at hl 1 rfl) ?_
  obtain ⟨r_1, u_2, hc_3, h⟩ := zk_o2 h
  refine zz_si (post := (fun r u => (r, u) = (r_1, u_2))) (w1 := fun u => (wl_X12_isPair ad cs )) (As := [.int x1]) (rest := []) (c_X12_isPair l D cs ad  H.size x1 (r_1, u_2) hc_3) ⟨hx, hb, hml, hown, ht⟩ (va_cwS 1 ht g_X12_179 rfl rfl rfl hd_X12_isPair ⟨Nat.le_of_ble_eq_true rfl, Nat.le_of_ble_eq_true rfl⟩) hP hD hS hK hA [] rfl rfl [] rfl (fun _ => rfl) rfl hl.1 (Nat.le_of_ble_eq_true rfl) dX12_claim_1 ⟨Nat.zero_le _, Nat.zero_le _⟩ (fun r u H locs hq hP hS => ?_)
  cases hq
  have hP : va_P D classes (wl_X12_claim ad cs mod_code mod_shoes mod_claims mod_taped mod_here mod_fault mod_suits mod_doneMany mod_undoneMany mod_open mod_laid mod_isBoth mod_wished mod_bestMany mod_bestRow mod_ringDigits mod_traces mod_claimBy mod_claimOn mod_factOf mod_pleaOf) H := hP
  refine lv_if_eq (tgt := 37) hx hb dX12_claim_4 (by decide) (fun c_4 => ?_) (fun c_4 => ?_)
  · have h := zk_t c_4 h
    refine lv_iconst (v := (-1 : Int32)) hx hb dX12_claim_37 (by decide) ?_
    exact W.iret (v := (-1 : Int32)) hx hb hr (fun t ht2 hW => ⟨⟨(-1 : Int32), (mod_claims, mod_claimBy, mod_claimOn, mod_factOf, mod_pleaOf), rfl, Option.some.inj h, by rw [ht2]; exact hP, hD⟩, hS.F ht2⟩) hS.2.2 dX12_claim_38 hlocks
  · have h := zk_f c_4 h
    refine lv_iload_n hx hb dX12_claim_7 rfl (lv_at hl 1 rfl) ?_
    refine lv_bipush (v := (100 : Int32)) hx hb dX12_claim_8 (by decide) ?_
    refine lv_idiv hx hb dX12_claim_10 (by decide) ?_
    refine lv_iload_n hx hb dX12_claim_11 rfl (lv_at hl 1 rfl) ?_
    refine lv_bipush (v := (100 : Int32)) hx hb dX12_claim_12 (by decide) ?_
    refine lv_irem hx hb dX12_claim_14 (by decide) ?_
    refine lv_icmp_eq (tgt := 37) hx hb dX12_claim_15 (by decide) (fun c_5 => ?_) (fun c_5 => ?_)
    · have h := zk_t c_5 h
      refine lv_iconst (v := (-1 : Int32)) hx hb dX12_claim_37 (by decide) ?_
      exact W.iret (v := (-1 : Int32)) hx hb hr (fun t ht2 hW => ⟨⟨(-1 : Int32), (mod_claims, mod_claimBy, mod_claimOn, mod_factOf, mod_pleaOf), rfl, Option.some.inj h, by rw [ht2]; exact hP, hD⟩, hS.F ht2⟩) hS.2.2 dX12_claim_38 hlocks
    · have h := zk_f c_5 h
      refine lv_iload_n hx hb dX12_claim_18 rfl (lv_at hl 2 rfl) ?_
      refine lv_iconst (v := (0 : Int32)) hx hb dX12_claim_19 (by decide) ?_
      refine lv_bipush (v := (15 : Int32)) hx hb dX12_claim_20 (by decide) ?_
      obtain ⟨r_6, u_7, hc_8, h⟩ := zk_o2 h
      refine zz_si (post := (fun r u => (r, u) = (r_6, u_7))) (w1 := fun u => (wl_X12_in ad cs )) (As := [.int x2, .int (0 : Int32), .int (15 : Int32)]) (rest := []) (c_X12_in l D cs ad  H.size x2 (0 : Int32) (15 : Int32) (r_6, u_7) hc_8) ⟨hx, hb, hml, hown, ht⟩ (va_cwS 3 ht g_X12_147 rfl rfl rfl hd_X12_in ⟨Nat.le_of_ble_eq_true rfl, Nat.le_of_ble_eq_true rfl⟩) hP hD hS hK hA [] rfl rfl [] rfl (fun _ => rfl) rfl hl.1 (Nat.le_of_ble_eq_true rfl) dX12_claim_22 ⟨Nat.zero_le _, Nat.zero_le _⟩ (fun r u H locs hq hP hS => ?_)
      cases hq
      have hP : va_P D classes (wl_X12_claim ad cs mod_code mod_shoes mod_claims mod_taped mod_here mod_fault mod_suits mod_doneMany mod_undoneMany mod_open mod_laid mod_isBoth mod_wished mod_bestMany mod_bestRow mod_ringDigits mod_traces mod_claimBy mod_claimOn mod_factOf mod_pleaOf) H := hP
      refine lv_if_eq (tgt := 37) hx hb dX12_claim_25 (by decide) (fun c_9 => ?_) (fun c_9 => ?_)
      · have h := zk_t c_9 h
        refine lv_iconst (v := (-1 : Int32)) hx hb dX12_claim_37 (by decide) ?_
        exact W.iret (v := (-1 : Int32)) hx hb hr (fun t ht2 hW => ⟨⟨(-1 : Int32), (mod_claims, mod_claimBy, mod_claimOn, mod_factOf, mod_pleaOf), rfl, Option.some.inj h, by rw [ht2]; exact hP, hD⟩, hS.F ht2⟩) hS.2.2 dX12_claim_38 hlocks
      · have h := zk_f c_9 h
        refine lv_iload_n hx hb dX12_claim_28 rfl (lv_at hl 3 rfl) ?_
        refine lv_iconst (v := (0 : Int32)) hx hb dX12_claim_29 (by decide) ?_
        refine lv_iconst (v := (3 : Int32)) hx hb dX12_claim_30 (by decide) ?_
        obtain ⟨r_10, u_11, hc_12, h⟩ := zk_o2 h
        refine zz_si (post := (fun r u => (r, u) = (r_10, u_11))) (w1 := fun u => (wl_X12_in ad cs )) (As := [.int x3, .int (0 : Int32), .int (3 : Int32)]) (rest := []) (c_X12_in l D cs ad  H.size x3 (0 : Int32) (3 : Int32) (r_10, u_11) hc_12) ⟨hx, hb, hml, hown, ht⟩ (va_cwS 3 ht g_X12_147 rfl rfl rfl hd_X12_in ⟨Nat.le_of_ble_eq_true rfl, Nat.le_of_ble_eq_true rfl⟩) hP hD hS hK hA [] rfl rfl [] rfl (fun _ => rfl) rfl hl.1 (Nat.le_of_ble_eq_true rfl) dX12_claim_31 ⟨Nat.zero_le _, Nat.zero_le _⟩ (fun r u H locs hq hP hS => ?_)
        cases hq
        have hP : va_P D classes (wl_X12_claim ad cs mod_code mod_shoes mod_claims mod_taped mod_here mod_fault mod_suits mod_doneMany mod_undoneMany mod_open mod_laid mod_isBoth mod_wished mod_bestMany mod_bestRow mod_ringDigits mod_traces mod_claimBy mod_claimOn mod_factOf mod_pleaOf) H := hP
        refine lv_if_ne (tgt := 39) hx hb dX12_claim_34 (by decide) (fun c_13 => ?_) (fun c_13 => ?_)
        · have h := zk_f c_13 h
          refine lv_aload_n hx hb dX12_claim_39 rfl (lv_at hl 0 rfl) ?_
          refine va_get (D := D) (ci := 12) (v := .int mod_claims) (C := RX12) (T := TX12) (N := 60) hx hb ht iX12 hown hK hP 0 rfl rfl 6 (by decide) (ht _ kw_1301) (fun _ h9 => h9) rfl dX12_claim_40 ?_
          refine lv_bipush (v := (32 : Int32)) hx hb dX12_claim_43 (by decide) ?_
          refine lv_icmp_ne (tgt := 51) hx hb dX12_claim_45 (by decide) (fun c_14 => ?_) (fun c_14 => ?_)
          · have h := zk_f c_14 h
            refine lv_aload_n hx hb dX12_claim_51 rfl (lv_at hl 0 rfl) ?_
            refine va_get (D := D) (ci := 12) (v := .ref (ad 46)) (C := RX12) (T := TX12) (N := 60) hx hb ht iX12 hown hK hP 0 rfl rfl 7 (by decide) (ht _ kw_1302) (fun _ h9 => h9) rfl dX12_claim_52 ?_
            refine lv_aload_n hx hb dX12_claim_55 rfl (lv_at hl 0 rfl) ?_
            refine va_get (D := D) (ci := 12) (v := .int mod_claims) (C := RX12) (T := TX12) (N := 60) hx hb ht iX12 hown hK hP 0 rfl rfl 6 (by decide) (ht _ kw_1301) (fun _ h9 => h9) rfl dX12_claim_56 ?_
            refine lv_iload_n hx hb dX12_claim_59 rfl (lv_at hl 1 rfl) ?_
            refine lv_bipush (v := (100 : Int32)) hx hb dX12_claim_60 (by decide) ?_
            refine lv_idiv hx hb dX12_claim_62 (by decide) ?_
            obtain ⟨v_15, ev_15, h⟩ := zk_lt h
            refine W.eq (g2 := F0 m 63 ls [.int v_15, .int mod_claims, .ref (ad 46)]) (by rw [ev_15]) ?_
            obtain ⟨g_16, h⟩ := zk_gd h
            obtain ⟨f_17, ef_17, h⟩ := zk_lt h
            refine va_iast hx hb hK hP hD hS 1 0 rfl rfl g_16 dX12_claim_63 (fun H locs hP hD hS => ?_)
            have hP : va_P D classes (wl_X12_claim ad cs mod_code mod_shoes mod_claims mod_taped mod_here mod_fault mod_suits mod_doneMany mod_undoneMany mod_open mod_laid mod_isBoth mod_wished mod_bestMany mod_bestRow mod_ringDigits mod_traces f_17 mod_claimOn mod_factOf mod_pleaOf) H := by rw [ef_17]; exact hP
            have hD : va_D A (wl_X12_claim ad cs mod_code mod_shoes mod_claims mod_taped mod_here mod_fault mod_suits mod_doneMany mod_undoneMany mod_open mod_laid mod_isBoth mod_wished mod_bestMany mod_bestRow mod_ringDigits mod_traces f_17 mod_claimOn mod_factOf mod_pleaOf) := by rw [ef_17]; exact hD
            refine lv_aload_n hx hb dX12_claim_64 rfl (lv_at hl 0 rfl) ?_
            refine va_get (D := D) (ci := 12) (v := .ref (ad 47)) (C := RX12) (T := TX12) (N := 60) hx hb ht iX12 hown hK hP 0 rfl rfl 8 (by decide) (ht _ kw_1303) (fun _ h9 => h9) rfl dX12_claim_65 ?_
            refine lv_aload_n hx hb dX12_claim_68 rfl (lv_at hl 0 rfl) ?_
            refine va_get (D := D) (ci := 12) (v := .int mod_claims) (C := RX12) (T := TX12) (N := 60) hx hb ht iX12 hown hK hP 0 rfl rfl 6 (by decide) (ht _ kw_1301) (fun _ h9 => h9) rfl dX12_claim_69 ?_
            refine lv_iload_n hx hb dX12_claim_72 rfl (lv_at hl 1 rfl) ?_
            refine lv_bipush (v := (100 : Int32)) hx hb dX12_claim_73 (by decide) ?_
            refine lv_irem hx hb dX12_claim_75 (by decide) ?_
            obtain ⟨v_18, ev_18, h⟩ := zk_lt h
            refine W.eq (g2 := F0 m 76 ls [.int v_18, .int mod_claims, .ref (ad 47)]) (by rw [ev_18]) ?_
            obtain ⟨g_19, h⟩ := zk_gd h
            obtain ⟨f_20, ef_20, h⟩ := zk_lt h
            refine va_iast hx hb hK hP hD hS 2 0 rfl rfl g_19 dX12_claim_76 (fun H locs hP hD hS => ?_)
            have hP : va_P D classes (wl_X12_claim ad cs mod_code mod_shoes mod_claims mod_taped mod_here mod_fault mod_suits mod_doneMany mod_undoneMany mod_open mod_laid mod_isBoth mod_wished mod_bestMany mod_bestRow mod_ringDigits mod_traces f_17 f_20 mod_factOf mod_pleaOf) H := by rw [ef_20]; exact hP
            have hD : va_D A (wl_X12_claim ad cs mod_code mod_shoes mod_claims mod_taped mod_here mod_fault mod_suits mod_doneMany mod_undoneMany mod_open mod_laid mod_isBoth mod_wished mod_bestMany mod_bestRow mod_ringDigits mod_traces f_17 f_20 mod_factOf mod_pleaOf) := by rw [ef_20]; exact hD
            refine lv_aload_n hx hb dX12_claim_77 rfl (lv_at hl 0 rfl) ?_
            refine va_get (D := D) (ci := 12) (v := .ref (ad 48)) (C := RX12) (T := TX12) (N := 60) hx hb ht iX12 hown hK hP 0 rfl rfl 9 (by decide) (ht _ kw_1304) (fun _ h9 => h9) rfl dX12_claim_78 ?_
            refine lv_aload_n hx hb dX12_claim_81 rfl (lv_at hl 0 rfl) ?_
            refine va_get (D := D) (ci := 12) (v := .int mod_claims) (C := RX12) (T := TX12) (N := 60) hx hb ht iX12 hown hK hP 0 rfl rfl 6 (by decide) (ht _ kw_1301) (fun _ h9 => h9) rfl dX12_claim_82 ?_
            refine lv_iload_n hx hb dX12_claim_85 rfl (lv_at hl 2 rfl) ?_
            obtain ⟨g_21, h⟩ := zk_gd h
            obtain ⟨f_22, ef_22, h⟩ := zk_lt h
            refine va_iast hx hb hK hP hD hS 3 0 rfl rfl g_21 dX12_claim_86 (fun H locs hP hD hS => ?_)
            have hP : va_P D classes (wl_X12_claim ad cs mod_code mod_shoes mod_claims mod_taped mod_here mod_fault mod_suits mod_doneMany mod_undoneMany mod_open mod_laid mod_isBoth mod_wished mod_bestMany mod_bestRow mod_ringDigits mod_traces f_17 f_20 f_22 mod_pleaOf) H := by rw [ef_22]; exact hP
            have hD : va_D A (wl_X12_claim ad cs mod_code mod_shoes mod_claims mod_taped mod_here mod_fault mod_suits mod_doneMany mod_undoneMany mod_open mod_laid mod_isBoth mod_wished mod_bestMany mod_bestRow mod_ringDigits mod_traces f_17 f_20 f_22 mod_pleaOf) := by rw [ef_22]; exact hD
            refine lv_aload_n hx hb dX12_claim_87 rfl (lv_at hl 0 rfl) ?_
            refine va_get (D := D) (ci := 12) (v := .ref (ad 49)) (C := RX12) (T := TX12) (N := 60) hx hb ht iX12 hown hK hP 0 rfl rfl 10 (by decide) (ht _ kw_1305) (fun _ h9 => h9) rfl dX12_claim_88 ?_
            refine lv_aload_n hx hb dX12_claim_91 rfl (lv_at hl 0 rfl) ?_
            refine va_get (D := D) (ci := 12) (v := .int mod_claims) (C := RX12) (T := TX12) (N := 60) hx hb ht iX12 hown hK hP 0 rfl rfl 6 (by decide) (ht _ kw_1301) (fun _ h9 => h9) rfl dX12_claim_92 ?_
            refine lv_iload_n hx hb dX12_claim_95 rfl (lv_at hl 3 rfl) ?_
            obtain ⟨g_23, h⟩ := zk_gd h
            obtain ⟨f_24, ef_24, h⟩ := zk_lt h
            refine va_iast hx hb hK hP hD hS 4 0 rfl rfl g_23 dX12_claim_96 (fun H locs hP hD hS => ?_)
            have hP : va_P D classes (wl_X12_claim ad cs mod_code mod_shoes mod_claims mod_taped mod_here mod_fault mod_suits mod_doneMany mod_undoneMany mod_open mod_laid mod_isBoth mod_wished mod_bestMany mod_bestRow mod_ringDigits mod_traces f_17 f_20 f_22 f_24) H := by rw [ef_24]; exact hP
            have hD : va_D A (wl_X12_claim ad cs mod_code mod_shoes mod_claims mod_taped mod_here mod_fault mod_suits mod_doneMany mod_undoneMany mod_open mod_laid mod_isBoth mod_wished mod_bestMany mod_bestRow mod_ringDigits mod_traces f_17 f_20 f_22 f_24) := by rw [ef_24]; exact hD
            refine lv_aload_n hx hb dX12_claim_97 rfl (lv_at hl 0 rfl) ?_
            refine lv_dup hx hb dX12_claim_98 rfl ?_
            refine va_get (D := D) (ci := 12) (v := .int mod_claims) (C := RX12) (T := TX12) (N := 60) hx hb ht iX12 hown hK hP 0 rfl rfl 6 (by decide) (ht _ kw_1301) (fun _ h9 => h9) rfl dX12_claim_99 ?_
            refine lv_iconst (v := (1 : Int32)) hx hb dX12_claim_102 (by decide) ?_
            refine lv_iadd hx hb dX12_claim_103 ?_
            obtain ⟨v_25, ev_25, h⟩ := zk_lt h
            refine W.eq (g2 := F0 m 104 ls [.int v_25, .ref (ad 41)]) (by rw [ev_25]) ?_
            refine va_put (D := D) (ci := 12) (v := .int v_25) (ty := .int) (C := RX12) (T := TX12) (N := 60) hx hb ht iX12 tyX12 tyX12_ok nmX12 hown hK hP hD hS 0 rfl rfl 6 (by decide) (ht _ kw_1301) (fun _ h9 => h9) rfl (by decide +kernel) rfl rfl (Nat.le_of_ble_eq_true rfl) dX12_claim_104 (fun H locs hP hD hS => ?_)
            have hP : va_P D classes (wl_X12_claim ad cs mod_code mod_shoes v_25 mod_taped mod_here mod_fault mod_suits mod_doneMany mod_undoneMany mod_open mod_laid mod_isBoth mod_wished mod_bestMany mod_bestRow mod_ringDigits mod_traces f_17 f_20 f_22 f_24) H := hP
            have hD : va_D A (wl_X12_claim ad cs mod_code mod_shoes v_25 mod_taped mod_here mod_fault mod_suits mod_doneMany mod_undoneMany mod_open mod_laid mod_isBoth mod_wished mod_bestMany mod_bestRow mod_ringDigits mod_traces f_17 f_20 f_22 f_24) := hD
            refine lv_aload_n hx hb dX12_claim_107 rfl (lv_at hl 0 rfl) ?_
            refine va_get (D := D) (ci := 12) (v := .int v_25) (C := RX12) (T := TX12) (N := 60) hx hb ht iX12 hown hK hP 0 rfl rfl 6 (by decide) (ht _ kw_1301) (fun _ h9 => h9) rfl dX12_claim_108 ?_
            refine lv_iconst (v := (1 : Int32)) hx hb dX12_claim_111 (by decide) ?_
            refine lv_isub hx hb dX12_claim_112 ?_
            exact W.iret (v := v_25 - (1 : Int32)) hx hb hr (fun t ht2 hW => ⟨⟨v_25 - (1 : Int32), (v_25, f_17, f_20, f_22, f_24), rfl, Option.some.inj h, by rw [ht2]; exact hP, hD⟩, hS.F ht2⟩) hS.2.2 dX12_claim_113 hlocks
          · have h := zk_t c_14 h
            refine lv_bipush (v := (-3 : Int32)) hx hb dX12_claim_48 (by decide) ?_
            exact W.iret (v := (-3 : Int32)) hx hb hr (fun t ht2 hW => ⟨⟨(-3 : Int32), (mod_claims, mod_claimBy, mod_claimOn, mod_factOf, mod_pleaOf), rfl, Option.some.inj h, by rw [ht2]; exact hP, hD⟩, hS.F ht2⟩) hS.2.2 dX12_claim_50 hlocks
        · have h := zk_t c_13 h
          refine lv_iconst (v := (-1 : Int32)) hx hb dX12_claim_37 (by decide) ?_
          exact W.iret (v := (-1 : Int32)) hx hb hr (fun t ht2 hW => ⟨⟨(-1 : Int32), (mod_claims, mod_claimBy, mod_claimOn, mod_factOf, mod_pleaOf), rfl, Option.some.inj h, by rw [ht2]; exact hP, hD⟩, hS.F ht2⟩) hS.2.2 dX12_claim_38 hlocks
set_option maxHeartbeats 4000000 in
set_option maxRecDepth 100000 in
theorem c_X12_claim (l : Launch) (D : va_G) (cs : Nat → ClassId) (ad : Nat → Nat) (sz : Nat) (x1 : Int32) (x2 : Int32) (x3 : Int32) (mod_code : Int32) (mod_shoes : Int32) (mod_claims : Int32) (mod_taped : Int32) (mod_here : Int32) (mod_fault : Int32) (mod_suits : Int32) (mod_doneMany : Int32) (mod_undoneMany : Int32) (mod_open : Int32) (mod_laid : Int32) (mod_isBoth : Int32) (mod_wished : Int32) (mod_bestMany : Int32) (mod_bestRow : Int32) (mod_ringDigits : Int32) (mod_traces : Int32) (mod_claimBy : Nat → Int32) (mod_claimOn : Nat → Int32) (mod_factOf : Nat → Int32) (mod_pleaOf : Nat → Int32) (R : Int32 × Int32 × (Nat → Int32) × (Nat → Int32) × (Nat → Int32) × (Nat → Int32)) (h : f_X12_claim   x1 x2 x3 mod_code mod_shoes mod_claims mod_taped mod_here mod_fault mod_suits mod_doneMany mod_undoneMany mod_open mod_laid mod_isBoth mod_wished mod_bestMany mod_bestRow mod_ringDigits mod_traces mod_claimBy mod_claimOn mod_factOf mod_pleaOf = some R) : Met l yX12_claim (z_X12_claim) rm_X12_claim (va_Pc [.ref (ad 41), .int x1, .int x2, .int x3] (zPre D cs (wl_X12_claim ad cs mod_code mod_shoes mod_claims mod_taped mod_here mod_fault mod_suits mod_doneMany mod_undoneMany mod_open mod_laid mod_isBoth mod_wished mod_bestMany mod_bestRow mod_ringDigits mod_traces mod_claimBy mod_claimOn mod_factOf mod_pleaOf) sz)) (Q_X12_claim D cs ad mod_code mod_shoes mod_taped mod_here mod_fault mod_suits mod_doneMany mod_undoneMany mod_open mod_laid mod_isBoth mod_wished mod_bestMany mod_bestRow mod_ringDigits mod_traces (va_A (wl_X12_claim ad cs mod_code mod_shoes mod_claims mod_taped mod_here mod_fault mod_suits mod_doneMany mod_undoneMany mod_open mod_laid mod_isBoth mod_wished mod_bestMany mod_bestRow mod_ringDigits mod_traces mod_claimBy mod_claimOn mod_factOf mod_pleaOf) sz) R) 0 0 (va_A (wl_X12_claim ad cs mod_code mod_shoes mod_claims mod_taped mod_here mod_fault mod_suits mod_doneMany mod_undoneMany mod_open mod_laid mod_isBoth mod_wished mod_bestMany mod_bestRow mod_ringDigits mod_traces mod_claimBy mod_claimOn mod_factOf mod_pleaOf) sz) := by
  refine Met.ofW (cc := cX12_claim) (maxL := 4) (ret := (some .int)) (by decide) rfl ?_
  intro p e s m args below meth c s₁ B hml hv
  obtain ⟨rfl, hsz, hP, hK, hD0⟩ := hv
  subst hsz
  have hD := hD0.self (sz := s.heap.size)
  have C0 : zC p s m _ meth c cX12_claim 4 (some .int) RX12 zW := ⟨B.exec, B.bytes, B.returns, hml, findClass_of_methodNamed B.named, fun w hw => atoms_spec (ws := z_X12_claim) B.pre w (List.mem_cons_of_mem _ hw), B.notSynchronized⟩
  have hA : ∀ q : Nat, s.heap.size ≤ q → va_A (wl_X12_claim ad cs mod_code mod_shoes mod_claims mod_taped mod_here mod_fault mod_suits mod_doneMany mod_undoneMany mod_open mod_laid mod_isBoth mod_wished mod_bestMany mod_bestRow mod_ringDigits mod_traces mod_claimBy mod_claimOn mod_factOf mod_pleaOf) s.heap.size q := fun q h => Or.inr h
  have hl := lv_entry ([.ref (ad 41), .int x1, .int x2, .int x3]) (n := 4) (Nat.le_of_ble_eq_true rfl)
  rw [lg_entry_eq]
  generalize (lg_sl ([.ref (ad 41), .int x1, .int x2, .int x3]) ++ List.replicate (4 - (lg_sl ([.ref (ad 41), .int x1, .int x2, .int x3])).length) Slot.unset).toArray = ls at hl ⊢
  exact L_X12_claim_0 C0 hK hA   x1 x2 x3 mod_claims mod_claimBy mod_claimOn mod_factOf mod_pleaOf h s.heap [] ls hP hD va_S.rf hl
