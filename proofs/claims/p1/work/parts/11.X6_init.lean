theorem kw_228 : Cond.arrayClass .long ∈ zW := zwI (i := 228) (by decide +kernel) (by decide +kernel)
theorem kw_679 : Cond.methodLink RX6 3 objectInit ∈ zW := zwI (i := 679) (by decide +kernel) (by decide +kernel)
theorem kw_680 : Cond.fieldLink RX6 11 "AlreadyJudged$Place" "holds" "I" ∈ zW := zwI (i := 680) (by decide +kernel) (by decide +kernel)
theorem kw_685 : Cond.fieldLink RX6 15 "AlreadyJudged$Place" "elements" "[J" ∈ zW := zwI (i := 685) (by decide +kernel) (by decide +kernel)
theorem dX6_init_0 : decode cX6_init 0 = .ok (.aload_n 0, 1) := by decide +kernel
theorem dX6_init_1 : decode cX6_init 1 = .ok (.invokespecial 3, 3) := by decide +kernel
theorem dX6_init_4 : decode cX6_init 4 = .ok (.aload_n 0, 1) := by decide +kernel
theorem dX6_init_5 : decode cX6_init 5 = .ok (.iconst (-1), 1) := by decide +kernel
theorem dX6_init_6 : decode cX6_init 6 = .ok (.putfield 11, 3) := by decide +kernel
theorem dX6_init_9 : decode cX6_init 9 = .ok (.aload_n 0, 1) := by decide +kernel
theorem dX6_init_10 : decode cX6_init 10 = .ok (.bipush 60, 2) := by decide +kernel
theorem dX6_init_12 : decode cX6_init 12 = .ok (.newarray .long, 2) := by decide +kernel
theorem dX6_init_14 : decode cX6_init 14 = .ok (.putfield 15, 3) := by decide +kernel
theorem dX6_init_17 : decode cX6_init 17 = .ok (.return_, 1) := by decide +kernel
abbrev z_X6_init : List Cond := .code yX6_init cX6_init 1 none :: zW
abbrev rm_X6_init : Room := { frames := 1, cells := 1, slots := 60, locals := 20 }
set_option maxHeartbeats 4000000 in
set_option maxRecDepth 100000 in
theorem ci_X6_init (l : Launch) (D : va_G) (cs : Nat → ClassId) (h0 : Nat)  (sz : Nat) : Met l yX6_init z_X6_init rm_X6_init (va_Pc [.ref h0] (zPre D cs [(h0, .inr (6, [.int 0, .int 0, .int 0, .null]))] sz)) (va_Qv (fun _ : Nat → Nat => True) (fun (u : Nat → Nat) (t : State) => va_P D classes [(h0, .inr (6, [.int (-1 : Int32), .int 0, .int 0, .ref (u 0)])), ((u 0), .inl (cs 1, 60, .inr (.inl (fun _ => 0))))] t.heap ∧ va_D (va_A [(h0, .inr (6, [.int 0, .int 0, .int 0, .null]))] sz) [(h0, .inr (6, [.int (-1 : Int32), .int 0, .int 0, .ref (u 0)])), ((u 0), .inl (cs 1, 60, .inr (.inl (fun _ => 0))))]) (va_A [(h0, .inr (6, [.int 0, .int 0, .int 0, .null]))] sz)) 1 60 (va_A [(h0, .inr (6, [.int 0, .int 0, .int 0, .null]))] sz) := by
  refine Met.ofW (cc := cX6_init) (maxL := 1) (ret := none) (by decide) rfl ?_
  intro p e s m args below meth c s₁ B hml hv
  obtain ⟨rfl, hsz, hP, hK, hD0⟩ := hv
  subst hsz
  have hD := hD0.self (sz := s.heap.size)
  have hx := B.exec
  have hb := B.bytes
  have hr := B.returns
  have ht : ∀ w ∈ zW, w.before _ s = true := fun w hw => atoms_spec (ws := z_X6_init) B.pre w (List.mem_cons_of_mem _ hw)
  have hown : s.vm.findClass RX6 = some m.cls := findClass_of_methodNamed B.named
  have hlocks := B.notSynchronized
  have hin : meth.name = "<init>" := (name_of_methodNamed B.named B.method).1
  generalize hAe : va_A [(h0, .inr (6, [.int 0, .int 0, .int 0, .null]))] s.heap.size = A at hD ⊢
  have hA : ∀ q : Nat, s.heap.size ≤ q → A q := fun q h => by rw [← hAe]; exact Or.inr h
  have hS : va_S A s.heap s.heap [] := va_S.rf
  have hl := lv_entry ([.ref h0]) (n := 1) (Nat.le_of_ble_eq_true rfl)
  rw [lg_entry_eq]
  generalize (lg_sl ([.ref h0]) ++ List.replicate (1 - (lg_sl ([.ref h0])).length) Slot.unset).toArray = ls at hl ⊢
  obtain ⟨H, hH⟩ : ∃ H, H = s.heap := ⟨_, rfl⟩
  have hS : va_S A s.heap H [] := by rw [hH]; exact va_S.rf
  rw [← hH]
  have hP : va_P D classes [(h0, .inr (6, [.int 0, .int 0, .int 0, .null]))] H := by rw [hH]; exact hP
  clear hH
  refine lv_aload_n hx hb dX6_init_0 rfl (lv_at hl 0 rfl) ?_
  refine W.objInit hx hb hown (ht _ kw_679) (ht _ kw_104) (ht _ kw_105) rfl (by rw [hml]; exact hl.1) rfl dX6_init_1 (Nat.le_of_ble_eq_true rfl) (Nat.le_of_ble_eq_true rfl) ?_
  refine W.eq (g2 := F0 m 4 ls []) rfl ?_
  refine lv_aload_n hx hb dX6_init_4 rfl (lv_at hl 0 rfl) ?_
  refine lv_iconst (v := (-1 : Int32)) hx hb dX6_init_5 (by decide) ?_
  refine va_put (D := D) (ci := 6) (v := .int (-1 : Int32)) (ty := .int) (C := RX6) (T := TX6) (N := 4) hx hb ht iX6 tyX6 tyX6_ok nmX6 hown hK hP hD hS 0 rfl rfl 0 (by decide) (ht _ kw_680) (fun _ h9 => h9) rfl (by decide +kernel) rfl rfl (Nat.le_of_ble_eq_true rfl) dX6_init_6 (fun H locs hP hD hS => ?_)
  have hP : va_P D classes [(h0, .inr (6, [.int (-1 : Int32), .int 0, .int 0, .null]))] H := hP
  have hD : va_D A [(h0, .inr (6, [.int (-1 : Int32), .int 0, .int 0, .null]))] := hD
  refine lv_aload_n hx hb dX6_init_9 rfl (lv_at hl 0 rfl) ?_
  refine lv_bipush (v := (60 : Int32)) hx hb dX6_init_10 (by decide) ?_
  refine zk_newa (atype := .long) (ty := .long) (a0 := (60, .inr (.inl (fun _ => 0)))) (N' := 60) hx hb (ht _ kw_228) rfl hK 1 rfl (by intro C h; cases h) hP hD hS hA (fun _ => rfl) (by decide) (by decide) (Nat.le_of_ble_eq_true rfl) (Nat.le_of_ble_eq_true rfl) (Nat.le_of_ble_eq_true rfl) dX6_init_12 (fun q_0 H hP hD hS => ?_)
  have hP : va_P D classes [(h0, .inr (6, [.int (-1 : Int32), .int 0, .int 0, .null])), (q_0, .inl (cs 1, 60, .inr (.inl (fun _ => 0))))] H := hP
  have hD : va_D A [(h0, .inr (6, [.int (-1 : Int32), .int 0, .int 0, .null])), (q_0, .inl (cs 1, 60, .inr (.inl (fun _ => 0))))] := hD
  refine va_putF (D := D) (ci := 6) (v := .ref q_0) (ty := .array .long) (C := RX6) (T := TX6) (N := 4) hx hb ht iX6 tyX6 tyX6_ok nmX6 hown hK hP hD hS 0 rfl rfl 3 (by decide) (ht _ kw_685) (fun _ h9 => h9) rfl hin rfl (by decide +kernel) rfl rfl (Nat.le_of_ble_eq_true rfl) dX6_init_14 (fun H locs hP hD hS => ?_)
  have hP : va_P D classes [(h0, .inr (6, [.int (-1 : Int32), .int 0, .int 0, .ref q_0])), (q_0, .inl (cs 1, 60, .inr (.inl (fun _ => 0))))] H := hP
  have hD : va_D A [(h0, .inr (6, [.int (-1 : Int32), .int 0, .int 0, .ref q_0])), (q_0, .inl (cs 1, 60, .inr (.inl (fun _ => 0))))] := hD
  refine W.widen (k := 1) (n := 60) (Nat.le_of_ble_eq_true rfl) (Nat.le_of_ble_eq_true rfl) ?_
  exact W.vret hx hb hr (fun t ht2 hW => ⟨⟨fun k => [q_0].getD k 0, rfl, trivial, by rw [ht2]; exact hP, hD⟩, hS.F ht2⟩) hS.2.2 dX6_init_17 hlocks
theorem kw_190 : Cond.methodLink RX3 3 objectInit ∈ zW := zwI (i := 190) (by decide +kernel) (by decide +kernel)
theorem kw_191 : Cond.fieldLink RX3 36 "AlreadyJudged$Inquiry" "court" "LAlreadyJudged$Court;" ∈ zW := zwI (i := 191) (by decide +kernel) (by decide +kernel)
theorem kw_193 : Cond.fieldLink RX3 9 "AlreadyJudged$Inquiry" "names" "[I" ∈ zW := zwI (i := 193) (by decide +kernel) (by decide +kernel)
theorem kw_194 : Cond.fieldLink RX3 17 "AlreadyJudged$Inquiry" "stack" "[I" ∈ zW := zwI (i := 194) (by decide +kernel) (by decide +kernel)
theorem kw_195 : Cond.fieldLink RX3 20 "AlreadyJudged$Inquiry" "judgedShoes" "[J" ∈ zW := zwI (i := 195) (by decide +kernel) (by decide +kernel)
theorem kw_196 : Cond.fieldLink RX3 24 "AlreadyJudged$Inquiry" "bindingShoes" "[J" ∈ zW := zwI (i := 196) (by decide +kernel) (by decide +kernel)
theorem kw_197 : Cond.fieldLink RX3 27 "AlreadyJudged$Inquiry" "boundAs" "[I" ∈ zW := zwI (i := 197) (by decide +kernel) (by decide +kernel)
theorem kw_199 : Cond.fieldLink RX3 30 "AlreadyJudged$Inquiry" "standing" "[I" ∈ zW := zwI (i := 199) (by decide +kernel) (by decide +kernel)
theorem kw_200 : Cond.fieldLink RX3 33 "AlreadyJudged$Inquiry" "arriving" "[I" ∈ zW := zwI (i := 200) (by decide +kernel) (by decide +kernel)
theorem dX3_init_0 : decode cX3_init 0 = .ok (.aload_n 0, 1) := by decide +kernel
theorem dX3_init_1 : decode cX3_init 1 = .ok (.invokespecial 3, 3) := by decide +kernel
theorem dX3_init_4 : decode cX3_init 4 = .ok (.aload_n 0, 1) := by decide +kernel
theorem dX3_init_5 : decode cX3_init 5 = .ok (.bipush 11, 2) := by decide +kernel
theorem dX3_init_7 : decode cX3_init 7 = .ok (.newarray .int, 2) := by decide +kernel
theorem dX3_init_9 : decode cX3_init 9 = .ok (.putfield 9, 3) := by decide +kernel
theorem dX3_init_12 : decode cX3_init 12 = .ok (.aload_n 0, 1) := by decide +kernel
theorem dX3_init_13 : decode cX3_init 13 = .ok (.bipush 36, 2) := by decide +kernel
theorem dX3_init_15 : decode cX3_init 15 = .ok (.newarray .int, 2) := by decide +kernel
theorem dX3_init_17 : decode cX3_init 17 = .ok (.putfield 17, 3) := by decide +kernel
theorem dX3_init_20 : decode cX3_init 20 = .ok (.aload_n 0, 1) := by decide +kernel
theorem dX3_init_21 : decode cX3_init 21 = .ok (.bipush 7, 2) := by decide +kernel
theorem dX3_init_23 : decode cX3_init 23 = .ok (.newarray .long, 2) := by decide +kernel
theorem dX3_init_25 : decode cX3_init 25 = .ok (.putfield 20, 3) := by decide +kernel
theorem dX3_init_28 : decode cX3_init 28 = .ok (.aload_n 0, 1) := by decide +kernel
theorem dX3_init_29 : decode cX3_init 29 = .ok (.bipush 7, 2) := by decide +kernel
theorem dX3_init_31 : decode cX3_init 31 = .ok (.newarray .long, 2) := by decide +kernel
theorem dX3_init_33 : decode cX3_init 33 = .ok (.putfield 24, 3) := by decide +kernel
theorem dX3_init_36 : decode cX3_init 36 = .ok (.aload_n 0, 1) := by decide +kernel
theorem dX3_init_37 : decode cX3_init 37 = .ok (.bipush 20, 2) := by decide +kernel
theorem dX3_init_39 : decode cX3_init 39 = .ok (.newarray .int, 2) := by decide +kernel
theorem dX3_init_41 : decode cX3_init 41 = .ok (.putfield 27, 3) := by decide +kernel
theorem dX3_init_44 : decode cX3_init 44 = .ok (.aload_n 0, 1) := by decide +kernel
theorem dX3_init_45 : decode cX3_init 45 = .ok (.bipush 20, 2) := by decide +kernel
theorem dX3_init_47 : decode cX3_init 47 = .ok (.newarray .int, 2) := by decide +kernel
theorem dX3_init_49 : decode cX3_init 49 = .ok (.putfield 30, 3) := by decide +kernel
theorem dX3_init_52 : decode cX3_init 52 = .ok (.aload_n 0, 1) := by decide +kernel
theorem dX3_init_53 : decode cX3_init 53 = .ok (.bipush 20, 2) := by decide +kernel
theorem dX3_init_55 : decode cX3_init 55 = .ok (.newarray .int, 2) := by decide +kernel
theorem dX3_init_57 : decode cX3_init 57 = .ok (.putfield 33, 3) := by decide +kernel
theorem dX3_init_60 : decode cX3_init 60 = .ok (.aload_n 0, 1) := by decide +kernel
theorem dX3_init_61 : decode cX3_init 61 = .ok (.aload_n 1, 1) := by decide +kernel
theorem dX3_init_62 : decode cX3_init 62 = .ok (.putfield 36, 3) := by decide +kernel
theorem dX3_init_65 : decode cX3_init 65 = .ok (.return_, 1) := by decide +kernel
abbrev z_X3_init : List Cond := .code yX3_init cX3_init 2 none :: zW
abbrev rm_X3_init : Room := { frames := 1, cells := 7, slots := 121, locals := 20 }
set_option maxHeartbeats 4000000 in
set_option maxRecDepth 100000 in
theorem ci_X3_init (l : Launch) (D : va_G) (cs : Nat → ClassId) (h0 : Nat) (p1 : Nat) (sz : Nat) : Met l yX3_init z_X3_init rm_X3_init (va_Pc [.ref h0, .ref p1] (zPre D cs [(h0, .inr (3, [.null, .null, .null, .null, .null, .null, .null, .null, .int 0, .int 0, .int 0]))] sz)) (va_Qv (fun _ : Nat → Nat => True) (fun (u : Nat → Nat) (t : State) => va_P D classes [(h0, .inr (3, [.ref p1, .ref (u 0), .ref (u 1), .ref (u 2), .ref (u 3), .ref (u 4), .ref (u 5), .ref (u 6), .int 0, .int 0, .int 0])), ((u 0), .inl (cs 0, 11, .inl (fun _ => 0))), ((u 1), .inl (cs 0, 36, .inl (fun _ => 0))), ((u 2), .inl (cs 1, 7, .inr (.inl (fun _ => 0)))), ((u 3), .inl (cs 1, 7, .inr (.inl (fun _ => 0)))), ((u 4), .inl (cs 0, 20, .inl (fun _ => 0))), ((u 5), .inl (cs 0, 20, .inl (fun _ => 0))), ((u 6), .inl (cs 0, 20, .inl (fun _ => 0)))] t.heap ∧ va_D (va_A [(h0, .inr (3, [.null, .null, .null, .null, .null, .null, .null, .null, .int 0, .int 0, .int 0]))] sz) [(h0, .inr (3, [.ref p1, .ref (u 0), .ref (u 1), .ref (u 2), .ref (u 3), .ref (u 4), .ref (u 5), .ref (u 6), .int 0, .int 0, .int 0])), ((u 0), .inl (cs 0, 11, .inl (fun _ => 0))), ((u 1), .inl (cs 0, 36, .inl (fun _ => 0))), ((u 2), .inl (cs 1, 7, .inr (.inl (fun _ => 0)))), ((u 3), .inl (cs 1, 7, .inr (.inl (fun _ => 0)))), ((u 4), .inl (cs 0, 20, .inl (fun _ => 0))), ((u 5), .inl (cs 0, 20, .inl (fun _ => 0))), ((u 6), .inl (cs 0, 20, .inl (fun _ => 0)))]) (va_A [(h0, .inr (3, [.null, .null, .null, .null, .null, .null, .null, .null, .int 0, .int 0, .int 0]))] sz)) 7 121 (va_A [(h0, .inr (3, [.null, .null, .null, .null, .null, .null, .null, .null, .int 0, .int 0, .int 0]))] sz) := by
  refine Met.ofW (cc := cX3_init) (maxL := 2) (ret := none) (by decide) rfl ?_
  intro p e s m args below meth c s₁ B hml hv
  obtain ⟨rfl, hsz, hP, hK, hD0⟩ := hv
  subst hsz
  have hD := hD0.self (sz := s.heap.size)
  have hx := B.exec
  have hb := B.bytes
  have hr := B.returns
  have ht : ∀ w ∈ zW, w.before _ s = true := fun w hw => atoms_spec (ws := z_X3_init) B.pre w (List.mem_cons_of_mem _ hw)
  have hown : s.vm.findClass RX3 = some m.cls := findClass_of_methodNamed B.named
  have hlocks := B.notSynchronized
  have hin : meth.name = "<init>" := (name_of_methodNamed B.named B.method).1
  generalize hAe : va_A [(h0, .inr (3, [.null, .null, .null, .null, .null, .null, .null, .null, .int 0, .int 0, .int 0]))] s.heap.size = A at hD ⊢
  have hA : ∀ q : Nat, s.heap.size ≤ q → A q := fun q h => by rw [← hAe]; exact Or.inr h
  have hS : va_S A s.heap s.heap [] := va_S.rf
  have hl := lv_entry ([.ref h0, .ref p1]) (n := 2) (Nat.le_of_ble_eq_true rfl)
  rw [lg_entry_eq]
  generalize (lg_sl ([.ref h0, .ref p1]) ++ List.replicate (2 - (lg_sl ([.ref h0, .ref p1])).length) Slot.unset).toArray = ls at hl ⊢
  obtain ⟨H, hH⟩ : ∃ H, H = s.heap := ⟨_, rfl⟩
  have hS : va_S A s.heap H [] := by rw [hH]; exact va_S.rf
  rw [← hH]
  have hP : va_P D classes [(h0, .inr (3, [.null, .null, .null, .null, .null, .null, .null, .null, .int 0, .int 0, .int 0]))] H := by rw [hH]; exact hP
  clear hH
  refine lv_aload_n hx hb dX3_init_0 rfl (lv_at hl 0 rfl) ?_
  refine W.objInit hx hb hown (ht _ kw_190) (ht _ kw_104) (ht _ kw_105) rfl (by rw [hml]; exact hl.1) rfl dX3_init_1 (Nat.le_of_ble_eq_true rfl) (Nat.le_of_ble_eq_true rfl) ?_
  refine W.eq (g2 := F0 m 4 ls []) rfl ?_
  refine lv_aload_n hx hb dX3_init_4 rfl (lv_at hl 0 rfl) ?_
  refine lv_bipush (v := (11 : Int32)) hx hb dX3_init_5 (by decide) ?_
  refine zk_newa (atype := .int) (ty := .int) (a0 := (11, .inl (fun _ => 0))) (N' := 11) hx hb (ht _ kw_184) rfl hK 0 rfl (by intro C h; cases h) hP hD hS hA (fun _ => rfl) (by decide) (by decide) (Nat.le_of_ble_eq_true rfl) (Nat.le_of_ble_eq_true rfl) (Nat.le_of_ble_eq_true rfl) dX3_init_7 (fun q_0 H hP hD hS => ?_)
  have hP : va_P D classes [(h0, .inr (3, [.null, .null, .null, .null, .null, .null, .null, .null, .int 0, .int 0, .int 0])), (q_0, .inl (cs 0, 11, .inl (fun _ => 0)))] H := hP
  have hD : va_D A [(h0, .inr (3, [.null, .null, .null, .null, .null, .null, .null, .null, .int 0, .int 0, .int 0])), (q_0, .inl (cs 0, 11, .inl (fun _ => 0)))] := hD
  refine va_putF (D := D) (ci := 3) (v := .ref q_0) (ty := .array .int) (C := RX3) (T := TX3) (N := 11) hx hb ht iX3 tyX3 tyX3_ok nmX3 hown hK hP hD hS 0 rfl rfl 1 (by decide) (ht _ kw_193) (fun _ h9 => h9) rfl hin rfl (by decide +kernel) rfl rfl (Nat.le_of_ble_eq_true rfl) dX3_init_9 (fun H locs hP hD hS => ?_)
  have hP : va_P D classes [(h0, .inr (3, [.null, .ref q_0, .null, .null, .null, .null, .null, .null, .int 0, .int 0, .int 0])), (q_0, .inl (cs 0, 11, .inl (fun _ => 0)))] H := hP
  have hD : va_D A [(h0, .inr (3, [.null, .ref q_0, .null, .null, .null, .null, .null, .null, .int 0, .int 0, .int 0])), (q_0, .inl (cs 0, 11, .inl (fun _ => 0)))] := hD
  refine lv_aload_n hx hb dX3_init_12 rfl (lv_at hl 0 rfl) ?_
  refine lv_bipush (v := (36 : Int32)) hx hb dX3_init_13 (by decide) ?_
  refine zk_newa (atype := .int) (ty := .int) (a0 := (36, .inl (fun _ => 0))) (N' := 36) hx hb (ht _ kw_184) rfl hK 0 rfl (by intro C h; cases h) hP hD hS hA (fun _ => rfl) (by decide) (by decide) (Nat.le_of_ble_eq_true rfl) (Nat.le_of_ble_eq_true rfl) (Nat.le_of_ble_eq_true rfl) dX3_init_15 (fun q_1 H hP hD hS => ?_)
  have hP : va_P D classes [(h0, .inr (3, [.null, .ref q_0, .null, .null, .null, .null, .null, .null, .int 0, .int 0, .int 0])), (q_0, .inl (cs 0, 11, .inl (fun _ => 0))), (q_1, .inl (cs 0, 36, .inl (fun _ => 0)))] H := hP
  have hD : va_D A [(h0, .inr (3, [.null, .ref q_0, .null, .null, .null, .null, .null, .null, .int 0, .int 0, .int 0])), (q_0, .inl (cs 0, 11, .inl (fun _ => 0))), (q_1, .inl (cs 0, 36, .inl (fun _ => 0)))] := hD
  refine va_putF (D := D) (ci := 3) (v := .ref q_1) (ty := .array .int) (C := RX3) (T := TX3) (N := 11) hx hb ht iX3 tyX3 tyX3_ok nmX3 hown hK hP hD hS 0 rfl rfl 2 (by decide) (ht _ kw_194) (fun _ h9 => h9) rfl hin rfl (by decide +kernel) rfl rfl (Nat.le_of_ble_eq_true rfl) dX3_init_17 (fun H locs hP hD hS => ?_)
  have hP : va_P D classes [(h0, .inr (3, [.null, .ref q_0, .ref q_1, .null, .null, .null, .null, .null, .int 0, .int 0, .int 0])), (q_0, .inl (cs 0, 11, .inl (fun _ => 0))), (q_1, .inl (cs 0, 36, .inl (fun _ => 0)))] H := hP
  have hD : va_D A [(h0, .inr (3, [.null, .ref q_0, .ref q_1, .null, .null, .null, .null, .null, .int 0, .int 0, .int 0])), (q_0, .inl (cs 0, 11, .inl (fun _ => 0))), (q_1, .inl (cs 0, 36, .inl (fun _ => 0)))] := hD
  refine lv_aload_n hx hb dX3_init_20 rfl (lv_at hl 0 rfl) ?_
  refine lv_bipush (v := (7 : Int32)) hx hb dX3_init_21 (by decide) ?_
  refine zk_newa (atype := .long) (ty := .long) (a0 := (7, .inr (.inl (fun _ => 0)))) (N' := 7) hx hb (ht _ kw_228) rfl hK 1 rfl (by intro C h; cases h) hP hD hS hA (fun _ => rfl) (by decide) (by decide) (Nat.le_of_ble_eq_true rfl) (Nat.le_of_ble_eq_true rfl) (Nat.le_of_ble_eq_true rfl) dX3_init_23 (fun q_2 H hP hD hS => ?_)
  have hP : va_P D classes [(h0, .inr (3, [.null, .ref q_0, .ref q_1, .null, .null, .null, .null, .null, .int 0, .int 0, .int 0])), (q_0, .inl (cs 0, 11, .inl (fun _ => 0))), (q_1, .inl (cs 0, 36, .inl (fun _ => 0))), (q_2, .inl (cs 1, 7, .inr (.inl (fun _ => 0))))] H := hP
  have hD : va_D A [(h0, .inr (3, [.null, .ref q_0, .ref q_1, .null, .null, .null, .null, .null, .int 0, .int 0, .int 0])), (q_0, .inl (cs 0, 11, .inl (fun _ => 0))), (q_1, .inl (cs 0, 36, .inl (fun _ => 0))), (q_2, .inl (cs 1, 7, .inr (.inl (fun _ => 0))))] := hD
  refine va_putF (D := D) (ci := 3) (v := .ref q_2) (ty := .array .long) (C := RX3) (T := TX3) (N := 11) hx hb ht iX3 tyX3 tyX3_ok nmX3 hown hK hP hD hS 0 rfl rfl 3 (by decide) (ht _ kw_195) (fun _ h9 => h9) rfl hin rfl (by decide +kernel) rfl rfl (Nat.le_of_ble_eq_true rfl) dX3_init_25 (fun H locs hP hD hS => ?_)
  have hP : va_P D classes [(h0, .inr (3, [.null, .ref q_0, .ref q_1, .ref q_2, .null, .null, .null, .null, .int 0, .int 0, .int 0])), (q_0, .inl (cs 0, 11, .inl (fun _ => 0))), (q_1, .inl (cs 0, 36, .inl (fun _ => 0))), (q_2, .inl (cs 1, 7, .inr (.inl (fun _ => 0))))] H := hP
  have hD : va_D A [(h0, .inr (3, [.null, .ref q_0, .ref q_1, .ref q_2, .null, .null, .null, .null, .int 0, .int 0, .int 0])), (q_0, .inl (cs 0, 11, .inl (fun _ => 0))), (q_1, .inl (cs 0, 36, .inl (fun _ => 0))), (q_2, .inl (cs 1, 7, .inr (.inl (fun _ => 0))))] := hD
  refine lv_aload_n hx hb dX3_init_28 rfl (lv_at hl 0 rfl) ?_
  refine lv_bipush (v := (7 : Int32)) hx hb dX3_init_29 (by decide) ?_
  refine zk_newa (atype := .long) (ty := .long) (a0 := (7, .inr (.inl (fun _ => 0)))) (N' := 7) hx hb (ht _ kw_228) rfl hK 1 rfl (by intro C h; cases h) hP hD hS hA (fun _ => rfl) (by decide) (by decide) (Nat.le_of_ble_eq_true rfl) (Nat.le_of_ble_eq_true rfl) (Nat.le_of_ble_eq_true rfl) dX3_init_31 (fun q_3 H hP hD hS => ?_)
  have hP : va_P D classes [(h0, .inr (3, [.null, .ref q_0, .ref q_1, .ref q_2, .null, .null, .null, .null, .int 0, .int 0, .int 0])), (q_0, .inl (cs 0, 11, .inl (fun _ => 0))), (q_1, .inl (cs 0, 36, .inl (fun _ => 0))), (q_2, .inl (cs 1, 7, .inr (.inl (fun _ => 0)))), (q_3, .inl (cs 1, 7, .inr (.inl (fun _ => 0))))] H := hP
  have hD : va_D A [(h0, .inr (3, [.null, .ref q_0, .ref q_1, .ref q_2, .null, .null, .null, .null, .int 0, .int 0, .int 0])), (q_0, .inl (cs 0, 11, .inl (fun _ => 0))), (q_1, .inl (cs 0, 36, .inl (fun _ => 0))), (q_2, .inl (cs 1, 7, .inr (.inl (fun _ => 0)))), (q_3, .inl (cs 1, 7, .inr (.inl (fun _ => 0))))] := hD
  refine va_putF (D := D) (ci := 3) (v := .ref q_3) (ty := .array .long) (C := RX3) (T := TX3) (N := 11) hx hb ht iX3 tyX3 tyX3_ok nmX3 hown hK hP hD hS 0 rfl rfl 4 (by decide) (ht _ kw_196) (fun _ h9 => h9) rfl hin rfl (by decide +kernel) rfl rfl (Nat.le_of_ble_eq_true rfl) dX3_init_33 (fun H locs hP hD hS => ?_)
  have hP : va_P D classes [(h0, .inr (3, [.null, .ref q_0, .ref q_1, .ref q_2, .ref q_3, .null, .null, .null, .int 0, .int 0, .int 0])), (q_0, .inl (cs 0, 11, .inl (fun _ => 0))), (q_1, .inl (cs 0, 36, .inl (fun _ => 0))), (q_2, .inl (cs 1, 7, .inr (.inl (fun _ => 0)))), (q_3, .inl (cs 1, 7, .inr (.inl (fun _ => 0))))] H := hP
  have hD : va_D A [(h0, .inr (3, [.null, .ref q_0, .ref q_1, .ref q_2, .ref q_3, .null, .null, .null, .int 0, .int 0, .int 0])), (q_0, .inl (cs 0, 11, .inl (fun _ => 0))), (q_1, .inl (cs 0, 36, .inl (fun _ => 0))), (q_2, .inl (cs 1, 7, .inr (.inl (fun _ => 0)))), (q_3, .inl (cs 1, 7, .inr (.inl (fun _ => 0))))] := hD
  refine lv_aload_n hx hb dX3_init_36 rfl (lv_at hl 0 rfl) ?_
  refine lv_bipush (v := (20 : Int32)) hx hb dX3_init_37 (by decide) ?_
  refine zk_newa (atype := .int) (ty := .int) (a0 := (20, .inl (fun _ => 0))) (N' := 20) hx hb (ht _ kw_184) rfl hK 0 rfl (by intro C h; cases h) hP hD hS hA (fun _ => rfl) (by decide) (by decide) (Nat.le_of_ble_eq_true rfl) (Nat.le_of_ble_eq_true rfl) (Nat.le_of_ble_eq_true rfl) dX3_init_39 (fun q_4 H hP hD hS => ?_)
  have hP : va_P D classes [(h0, .inr (3, [.null, .ref q_0, .ref q_1, .ref q_2, .ref q_3, .null, .null, .null, .int 0, .int 0, .int 0])), (q_0, .inl (cs 0, 11, .inl (fun _ => 0))), (q_1, .inl (cs 0, 36, .inl (fun _ => 0))), (q_2, .inl (cs 1, 7, .inr (.inl (fun _ => 0)))), (q_3, .inl (cs 1, 7, .inr (.inl (fun _ => 0)))), (q_4, .inl (cs 0, 20, .inl (fun _ => 0)))] H := hP
  have hD : va_D A [(h0, .inr (3, [.null, .ref q_0, .ref q_1, .ref q_2, .ref q_3, .null, .null, .null, .int 0, .int 0, .int 0])), (q_0, .inl (cs 0, 11, .inl (fun _ => 0))), (q_1, .inl (cs 0, 36, .inl (fun _ => 0))), (q_2, .inl (cs 1, 7, .inr (.inl (fun _ => 0)))), (q_3, .inl (cs 1, 7, .inr (.inl (fun _ => 0)))), (q_4, .inl (cs 0, 20, .inl (fun _ => 0)))] := hD
  refine va_putF (D := D) (ci := 3) (v := .ref q_4) (ty := .array .int) (C := RX3) (T := TX3) (N := 11) hx hb ht iX3 tyX3 tyX3_ok nmX3 hown hK hP hD hS 0 rfl rfl 5 (by decide) (ht _ kw_197) (fun _ h9 => h9) rfl hin rfl (by decide +kernel) rfl rfl (Nat.le_of_ble_eq_true rfl) dX3_init_41 (fun H locs hP hD hS => ?_)
  have hP : va_P D classes [(h0, .inr (3, [.null, .ref q_0, .ref q_1, .ref q_2, .ref q_3, .ref q_4, .null, .null, .int 0, .int 0, .int 0])), (q_0, .inl (cs 0, 11, .inl (fun _ => 0))), (q_1, .inl (cs 0, 36, .inl (fun _ => 0))), (q_2, .inl (cs 1, 7, .inr (.inl (fun _ => 0)))), (q_3, .inl (cs 1, 7, .inr (.inl (fun _ => 0)))), (q_4, .inl (cs 0, 20, .inl (fun _ => 0)))] H := hP
  have hD : va_D A [(h0, .inr (3, [.null, .ref q_0, .ref q_1, .ref q_2, .ref q_3, .ref q_4, .null, .null, .int 0, .int 0, .int 0])), (q_0, .inl (cs 0, 11, .inl (fun _ => 0))), (q_1, .inl (cs 0, 36, .inl (fun _ => 0))), (q_2, .inl (cs 1, 7, .inr (.inl (fun _ => 0)))), (q_3, .inl (cs 1, 7, .inr (.inl (fun _ => 0)))), (q_4, .inl (cs 0, 20, .inl (fun _ => 0)))] := hD
  refine lv_aload_n hx hb dX3_init_44 rfl (lv_at hl 0 rfl) ?_
  refine lv_bipush (v := (20 : Int32)) hx hb dX3_init_45 (by decide) ?_
  refine zk_newa (atype := .int) (ty := .int) (a0 := (20, .inl (fun _ => 0))) (N' := 20) hx hb (ht _ kw_184) rfl hK 0 rfl (by intro C h; cases h) hP hD hS hA (fun _ => rfl) (by decide) (by decide) (Nat.le_of_ble_eq_true rfl) (Nat.le_of_ble_eq_true rfl) (Nat.le_of_ble_eq_true rfl) dX3_init_47 (fun q_5 H hP hD hS => ?_)
  have hP : va_P D classes [(h0, .inr (3, [.null, .ref q_0, .ref q_1, .ref q_2, .ref q_3, .ref q_4, .null, .null, .int 0, .int 0, .int 0])), (q_0, .inl (cs 0, 11, .inl (fun _ => 0))), (q_1, .inl (cs 0, 36, .inl (fun _ => 0))), (q_2, .inl (cs 1, 7, .inr (.inl (fun _ => 0)))), (q_3, .inl (cs 1, 7, .inr (.inl (fun _ => 0)))), (q_4, .inl (cs 0, 20, .inl (fun _ => 0))), (q_5, .inl (cs 0, 20, .inl (fun _ => 0)))] H := hP
  have hD : va_D A [(h0, .inr (3, [.null, .ref q_0, .ref q_1, .ref q_2, .ref q_3, .ref q_4, .null, .null, .int 0, .int 0, .int 0])), (q_0, .inl (cs 0, 11, .inl (fun _ => 0))), (q_1, .inl (cs 0, 36, .inl (fun _ => 0))), (q_2, .inl (cs 1, 7, .inr (.inl (fun _ => 0)))), (q_3, .inl (cs 1, 7, .inr (.inl (fun _ => 0)))), (q_4, .inl (cs 0, 20, .inl (fun _ => 0))), (q_5, .inl (cs 0, 20, .inl (fun _ => 0)))] := hD
  refine va_putF (D := D) (ci := 3) (v := .ref q_5) (ty := .array .int) (C := RX3) (T := TX3) (N := 11) hx hb ht iX3 tyX3 tyX3_ok nmX3 hown hK hP hD hS 0 rfl rfl 6 (by decide) (ht _ kw_199) (fun _ h9 => h9) rfl hin rfl (by decide +kernel) rfl rfl (Nat.le_of_ble_eq_true rfl) dX3_init_49 (fun H locs hP hD hS => ?_)
  have hP : va_P D classes [(h0, .inr (3, [.null, .ref q_0, .ref q_1, .ref q_2, .ref q_3, .ref q_4, .ref q_5, .null, .int 0, .int 0, .int 0])), (q_0, .inl (cs 0, 11, .inl (fun _ => 0))), (q_1, .inl (cs 0, 36, .inl (fun _ => 0))), (q_2, .inl (cs 1, 7, .inr (.inl (fun _ => 0)))), (q_3, .inl (cs 1, 7, .inr (.inl (fun _ => 0)))), (q_4, .inl (cs 0, 20, .inl (fun _ => 0))), (q_5, .inl (cs 0, 20, .inl (fun _ => 0)))] H := hP
  have hD : va_D A [(h0, .inr (3, [.null, .ref q_0, .ref q_1, .ref q_2, .ref q_3, .ref q_4, .ref q_5, .null, .int 0, .int 0, .int 0])), (q_0, .inl (cs 0, 11, .inl (fun _ => 0))), (q_1, .inl (cs 0, 36, .inl (fun _ => 0))), (q_2, .inl (cs 1, 7, .inr (.inl (fun _ => 0)))), (q_3, .inl (cs 1, 7, .inr (.inl (fun _ => 0)))), (q_4, .inl (cs 0, 20, .inl (fun _ => 0))), (q_5, .inl (cs 0, 20, .inl (fun _ => 0)))] := hD
  refine lv_aload_n hx hb dX3_init_52 rfl (lv_at hl 0 rfl) ?_
  refine lv_bipush (v := (20 : Int32)) hx hb dX3_init_53 (by decide) ?_
  refine zk_newa (atype := .int) (ty := .int) (a0 := (20, .inl (fun _ => 0))) (N' := 20) hx hb (ht _ kw_184) rfl hK 0 rfl (by intro C h; cases h) hP hD hS hA (fun _ => rfl) (by decide) (by decide) (Nat.le_of_ble_eq_true rfl) (Nat.le_of_ble_eq_true rfl) (Nat.le_of_ble_eq_true rfl) dX3_init_55 (fun q_6 H hP hD hS => ?_)
  have hP : va_P D classes [(h0, .inr (3, [.null, .ref q_0, .ref q_1, .ref q_2, .ref q_3, .ref q_4, .ref q_5, .null, .int 0, .int 0, .int 0])), (q_0, .inl (cs 0, 11, .inl (fun _ => 0))), (q_1, .inl (cs 0, 36, .inl (fun _ => 0))), (q_2, .inl (cs 1, 7, .inr (.inl (fun _ => 0)))), (q_3, .inl (cs 1, 7, .inr (.inl (fun _ => 0)))), (q_4, .inl (cs 0, 20, .inl (fun _ => 0))), (q_5, .inl (cs 0, 20, .inl (fun _ => 0))), (q_6, .inl (cs 0, 20, .inl (fun _ => 0)))] H := hP
  have hD : va_D A [(h0, .inr (3, [.null, .ref q_0, .ref q_1, .ref q_2, .ref q_3, .ref q_4, .ref q_5, .null, .int 0, .int 0, .int 0])), (q_0, .inl (cs 0, 11, .inl (fun _ => 0))), (q_1, .inl (cs 0, 36, .inl (fun _ => 0))), (q_2, .inl (cs 1, 7, .inr (.inl (fun _ => 0)))), (q_3, .inl (cs 1, 7, .inr (.inl (fun _ => 0)))), (q_4, .inl (cs 0, 20, .inl (fun _ => 0))), (q_5, .inl (cs 0, 20, .inl (fun _ => 0))), (q_6, .inl (cs 0, 20, .inl (fun _ => 0)))] := hD
  refine va_putF (D := D) (ci := 3) (v := .ref q_6) (ty := .array .int) (C := RX3) (T := TX3) (N := 11) hx hb ht iX3 tyX3 tyX3_ok nmX3 hown hK hP hD hS 0 rfl rfl 7 (by decide) (ht _ kw_200) (fun _ h9 => h9) rfl hin rfl (by decide +kernel) rfl rfl (Nat.le_of_ble_eq_true rfl) dX3_init_57 (fun H locs hP hD hS => ?_)
  have hP : va_P D classes [(h0, .inr (3, [.null, .ref q_0, .ref q_1, .ref q_2, .ref q_3, .ref q_4, .ref q_5, .ref q_6, .int 0, .int 0, .int 0])), (q_0, .inl (cs 0, 11, .inl (fun _ => 0))), (q_1, .inl (cs 0, 36, .inl (fun _ => 0))), (q_2, .inl (cs 1, 7, .inr (.inl (fun _ => 0)))), (q_3, .inl (cs 1, 7, .inr (.inl (fun _ => 0)))), (q_4, .inl (cs 0, 20, .inl (fun _ => 0))), (q_5, .inl (cs 0, 20, .inl (fun _ => 0))), (q_6, .inl (cs 0, 20, .inl (fun _ => 0)))] H := hP
  have hD : va_D A [(h0, .inr (3, [.null, .ref q_0, .ref q_1, .ref q_2, .ref q_3, .ref q_4, .ref q_5, .ref q_6, .int 0, .int 0, .int 0])), (q_0, .inl (cs 0, 11, .inl (fun _ => 0))), (q_1, .inl (cs 0, 36, .inl (fun _ => 0))), (q_2, .inl (cs 1, 7, .inr (.inl (fun _ => 0)))), (q_3, .inl (cs 1, 7, .inr (.inl (fun _ => 0)))), (q_4, .inl (cs 0, 20, .inl (fun _ => 0))), (q_5, .inl (cs 0, 20, .inl (fun _ => 0))), (q_6, .inl (cs 0, 20, .inl (fun _ => 0)))] := hD
  refine lv_aload_n hx hb dX3_init_60 rfl (lv_at hl 0 rfl) ?_
  refine lv_aload_n hx hb dX3_init_61 rfl (lv_at hl 1 rfl) ?_
  refine va_putF (D := D) (ci := 3) (v := .ref p1) (ty := .object "AlreadyJudged$Court") (C := RX3) (T := TX3) (N := 11) hx hb ht iX3 tyX3 tyX3_ok nmX3 hown hK hP hD hS 0 rfl rfl 0 (by decide) (ht _ kw_191) (fun _ h9 => h9) rfl hin rfl (by decide +kernel) rfl rfl (Nat.le_of_ble_eq_true rfl) dX3_init_62 (fun H locs hP hD hS => ?_)
  have hP : va_P D classes [(h0, .inr (3, [.ref p1, .ref q_0, .ref q_1, .ref q_2, .ref q_3, .ref q_4, .ref q_5, .ref q_6, .int 0, .int 0, .int 0])), (q_0, .inl (cs 0, 11, .inl (fun _ => 0))), (q_1, .inl (cs 0, 36, .inl (fun _ => 0))), (q_2, .inl (cs 1, 7, .inr (.inl (fun _ => 0)))), (q_3, .inl (cs 1, 7, .inr (.inl (fun _ => 0)))), (q_4, .inl (cs 0, 20, .inl (fun _ => 0))), (q_5, .inl (cs 0, 20, .inl (fun _ => 0))), (q_6, .inl (cs 0, 20, .inl (fun _ => 0)))] H := hP
  have hD : va_D A [(h0, .inr (3, [.ref p1, .ref q_0, .ref q_1, .ref q_2, .ref q_3, .ref q_4, .ref q_5, .ref q_6, .int 0, .int 0, .int 0])), (q_0, .inl (cs 0, 11, .inl (fun _ => 0))), (q_1, .inl (cs 0, 36, .inl (fun _ => 0))), (q_2, .inl (cs 1, 7, .inr (.inl (fun _ => 0)))), (q_3, .inl (cs 1, 7, .inr (.inl (fun _ => 0)))), (q_4, .inl (cs 0, 20, .inl (fun _ => 0))), (q_5, .inl (cs 0, 20, .inl (fun _ => 0))), (q_6, .inl (cs 0, 20, .inl (fun _ => 0)))] := hD
  refine W.widen (k := 7) (n := 121) (Nat.le_of_ble_eq_true rfl) (Nat.le_of_ble_eq_true rfl) ?_
  exact W.vret hx hb hr (fun t ht2 hW => ⟨⟨fun k => [q_0, q_1, q_2, q_3, q_4, q_5, q_6].getD k 0, rfl, trivial, by rw [ht2]; exact hP, hD⟩, hS.F ht2⟩) hS.2.2 dX3_init_65 hlocks
theorem kw_669 : Cond.methodLink RX4 1 objectInit ∈ zW := zwI (i := 669) (by decide +kernel) (by decide +kernel)
theorem kw_670 : Cond.fieldLink RX4 7 "AlreadyJudged$Law" "code" "[I" ∈ zW := zwI (i := 670) (by decide +kernel) (by decide +kernel)
theorem dX4_init_0 : decode cX4_init 0 = .ok (.aload_n 0, 1) := by decide +kernel
theorem dX4_init_1 : decode cX4_init 1 = .ok (.invokespecial 1, 3) := by decide +kernel
theorem dX4_init_4 : decode cX4_init 4 = .ok (.aload_n 0, 1) := by decide +kernel
theorem dX4_init_5 : decode cX4_init 5 = .ok (.aload_n 1, 1) := by decide +kernel
theorem dX4_init_6 : decode cX4_init 6 = .ok (.putfield 7, 3) := by decide +kernel
theorem dX4_init_9 : decode cX4_init 9 = .ok (.return_, 1) := by decide +kernel
abbrev z_X4_init : List Cond := .code yX4_init cX4_init 2 none :: zW
abbrev rm_X4_init : Room := { frames := 1, cells := 0, slots := 0, locals := 20 }
set_option maxHeartbeats 4000000 in
set_option maxRecDepth 100000 in
theorem ci_X4_init (l : Launch) (D : va_G) (cs : Nat → ClassId) (h0 : Nat) (p1 : Nat) (sz : Nat) : Met l yX4_init z_X4_init rm_X4_init (va_Pc [.ref h0, .ref p1] (zPre D cs [(h0, .inr (4, [.null]))] sz)) (va_Qv (fun _ : Nat → Nat => True) (fun (u : Nat → Nat) (t : State) => va_P D classes [(h0, .inr (4, [.ref p1]))] t.heap ∧ va_D (va_A [(h0, .inr (4, [.null]))] sz) [(h0, .inr (4, [.ref p1]))]) (va_A [(h0, .inr (4, [.null]))] sz)) 0 0 (va_A [(h0, .inr (4, [.null]))] sz) := by
  refine Met.ofW (cc := cX4_init) (maxL := 2) (ret := none) (by decide) rfl ?_
  intro p e s m args below meth c s₁ B hml hv
  obtain ⟨rfl, hsz, hP, hK, hD0⟩ := hv
  subst hsz
  have hD := hD0.self (sz := s.heap.size)
  have hx := B.exec
  have hb := B.bytes
  have hr := B.returns
  have ht : ∀ w ∈ zW, w.before _ s = true := fun w hw => atoms_spec (ws := z_X4_init) B.pre w (List.mem_cons_of_mem _ hw)
  have hown : s.vm.findClass RX4 = some m.cls := findClass_of_methodNamed B.named
  have hlocks := B.notSynchronized
  have hin : meth.name = "<init>" := (name_of_methodNamed B.named B.method).1
  generalize hAe : va_A [(h0, .inr (4, [.null]))] s.heap.size = A at hD ⊢
  have hA : ∀ q : Nat, s.heap.size ≤ q → A q := fun q h => by rw [← hAe]; exact Or.inr h
  have hS : va_S A s.heap s.heap [] := va_S.rf
  have hl := lv_entry ([.ref h0, .ref p1]) (n := 2) (Nat.le_of_ble_eq_true rfl)
  rw [lg_entry_eq]
  generalize (lg_sl ([.ref h0, .ref p1]) ++ List.replicate (2 - (lg_sl ([.ref h0, .ref p1])).length) Slot.unset).toArray = ls at hl ⊢
  obtain ⟨H, hH⟩ : ∃ H, H = s.heap := ⟨_, rfl⟩
  have hS : va_S A s.heap H [] := by rw [hH]; exact va_S.rf
  rw [← hH]
  have hP : va_P D classes [(h0, .inr (4, [.null]))] H := by rw [hH]; exact hP
  clear hH
  refine lv_aload_n hx hb dX4_init_0 rfl (lv_at hl 0 rfl) ?_
  refine W.objInit hx hb hown (ht _ kw_669) (ht _ kw_104) (ht _ kw_105) rfl (by rw [hml]; exact hl.1) rfl dX4_init_1 (Nat.le_of_ble_eq_true rfl) (Nat.le_of_ble_eq_true rfl) ?_
  refine W.eq (g2 := F0 m 4 ls []) rfl ?_
  refine lv_aload_n hx hb dX4_init_4 rfl (lv_at hl 0 rfl) ?_
  refine lv_aload_n hx hb dX4_init_5 rfl (lv_at hl 1 rfl) ?_
  refine va_putF (D := D) (ci := 4) (v := .ref p1) (ty := .array .int) (C := RX4) (T := TX4) (N := 1) hx hb ht iX4 tyX4 tyX4_ok nmX4 hown hK hP hD hS 0 rfl rfl 0 (by decide) (ht _ kw_670) (fun _ h9 => h9) rfl hin rfl (by decide +kernel) rfl rfl (Nat.le_of_ble_eq_true rfl) dX4_init_6 (fun H locs hP hD hS => ?_)
  have hP : va_P D classes [(h0, .inr (4, [.ref p1]))] H := hP
  have hD : va_D A [(h0, .inr (4, [.ref p1]))] := hD
  refine W.widen (k := 0) (n := 0) (Nat.le_of_ble_eq_true rfl) (Nat.le_of_ble_eq_true rfl) ?_
  exact W.vret hx hb hr (fun t ht2 hW => ⟨⟨fun k => [].getD k 0, rfl, trivial, by rw [ht2]; exact hP, hD⟩, hS.F ht2⟩) hS.2.2 dX4_init_9 hlocks
theorem dJ7_fill_d0a16_0 : decode cJ7_fill_d0a16 0 = .ok (.iconst 0, 1) := by decide +kernel
theorem dJ7_fill_d0a16_1 : decode cJ7_fill_d0a16 1 = .ok (.istore_n 3, 1) := by decide +kernel
theorem dJ7_fill_d0a16_2 : decode cJ7_fill_d0a16 2 = .ok (.aload_n 0, 1) := by decide +kernel
theorem dJ7_fill_d0a16_3 : decode cJ7_fill_d0a16 3 = .ok (.arraylength, 1) := by decide +kernel
theorem dJ7_fill_d0a16_4 : decode cJ7_fill_d0a16 4 = .ok (.istore 4, 2) := by decide +kernel
theorem dJ7_fill_d0a16_6 : decode cJ7_fill_d0a16 6 = .ok (.iload_n 3, 1) := by decide +kernel
theorem dJ7_fill_d0a16_7 : decode cJ7_fill_d0a16 7 = .ok (.iload 4, 2) := by decide +kernel
theorem dJ7_fill_d0a16_9 : decode cJ7_fill_d0a16 9 = .ok (.if_icmp .ge 13, 3) := by decide +kernel
theorem dJ7_fill_d0a16_12 : decode cJ7_fill_d0a16 12 = .ok (.aload_n 0, 1) := by decide +kernel
theorem dJ7_fill_d0a16_13 : decode cJ7_fill_d0a16 13 = .ok (.iload_n 3, 1) := by decide +kernel
theorem dJ7_fill_d0a16_14 : decode cJ7_fill_d0a16 14 = .ok (.lload_n 1, 1) := by decide +kernel
theorem dJ7_fill_d0a16_15 : decode cJ7_fill_d0a16 15 = .ok (.lastore, 1) := by decide +kernel
theorem dJ7_fill_d0a16_16 : decode cJ7_fill_d0a16 16 = .ok (.iinc 3 1, 3) := by decide +kernel
theorem dJ7_fill_d0a16_19 : decode cJ7_fill_d0a16 19 = .ok (.goto (-13), 3) := by decide +kernel
theorem dJ7_fill_d0a16_22 : decode cJ7_fill_d0a16 22 = .ok (.return_, 1) := by decide +kernel
abbrev z_J7_fill_d0a16 : List Cond := .code yJ7_fill_d0a16 cJ7_fill_d0a16 5 none :: zW
abbrev wl_J7_fill_d0a16 (ad : Nat → Nat) (cs : Nat → ClassId) (h_arJ_a : Nat) (arJ_a : Nat → Int64) (arJ_a_n : Nat) : va_W := [(h_arJ_a, .inl (cs 1, arJ_a_n, .inr (.inl arJ_a)))]
def Q_J7_fill_d0a16 (D : va_G) (cs : Nat → ClassId) (ad : Nat → Nat) (h_arJ_a : Nat) (arJ_a_n : Nat) (A : Nat → Prop) (R : (Nat → Int64)) : Array Value → State → Outcome → State → Prop :=
  va_Qv (fun u : (Nat → Int64) => u = R) (fun (u : (Nat → Int64)) (t : State) => va_P D classes (wl_J7_fill_d0a16 ad cs h_arJ_a u arJ_a_n) t.heap ∧ va_D A (wl_J7_fill_d0a16 ad cs h_arJ_a u arJ_a_n)) A
abbrev rm_J7_fill_d0a16 : Room := { frames := 0, cells := 0, slots := 0, locals := 0 }
def B_J7_fill_d0a16_6   (g6 : Int64 → Int32 → Int32 → (Nat → Int64) → (Option ((Nat → Int64)))) (arJ_a_n : Nat) (x1 : Int64) (x3 : Int32) (x4 : Int32) (arJ_a : Nat → Int64) : Option ((Nat → Int64)) :=
  (if x4 ≤ x3 then (some arJ_a) else (if (x3 < 0 ∨ arJ_a_n ≤ x3.toNatClampNeg) then none else (zk_let (vp_updL arJ_a x3.toNatClampNeg x1) (fun f_4 => (zk_let (x3 + (1 : Int32)) (fun v_5 => (g6 x1 v_5 x4 f_4)))))))
def B_J7_fill_d0a16_0   (g6 : Int64 → Int32 → Int32 → (Nat → Int64) → (Option ((Nat → Int64)))) (arJ_a_n : Nat) (x1 : Int64) (arJ_a : Nat → Int64) : Option ((Nat → Int64)) :=
  (zk_let (Int32.ofNat arJ_a_n) (fun v_1 => (g6 x1 (0 : Int32) v_1 arJ_a)))
def G_J7_fill_d0a16   (arJ_a_n : Nat) (n : Nat) : (Int64 → Int32 → Int32 → (Nat → Int64) → (Option ((Nat → Int64)))) :=
  Nat.rec (motive := fun _ => (Int64 → Int32 → Int32 → (Nat → Int64) → (Option ((Nat → Int64))))) ((fun _ _ _ _ => none)) (fun _ ih => (B_J7_fill_d0a16_6   ih arJ_a_n)) n
def f_J7_fill_d0a16   (n : Nat) (x1 : Int64) (arJ_a : Nat → Int64) (arJ_a_n : Nat) : Option ((Nat → Int64)) := B_J7_fill_d0a16_0   ((G_J7_fill_d0a16   arJ_a_n n)) arJ_a_n x1 arJ_a
set_option maxHeartbeats 4000000 in
set_option maxRecDepth 100000 in
theorem L_J7_fill_d0a16_6 {p : Program} {l : Launch} {e : Env} {s : State} {m : MethodId} {args : Array Value} {below : List Frame} {meth : Method} {c : Code} {A : Nat → Prop} {D : va_G} {cs : Nat → ClassId} {ad : Nat → Nat} {h_arJ_a : Nat} {arJ_a_n : Nat} {R : (Nat → Int64)} {g6 : Int64 → Int32 → Int32 → (Nat → Int64) → (Option ((Nat → Int64)))} (C0 : zC p s m args meth c cJ7_fill_d0a16 5 none RJ7 zW) (hK : va_K D classes (zT cs) s) (hA : ∀ q : Nat, s.heap.size ≤ q → A q) (ih6 : ∀ (x1 : Int64) (x3 : Int32) (x4 : Int32) (arJ_a : Nat → Int64) (h : g6 x1 x3 x4 arJ_a = some R) (H : Heap) (locs : List Loc) (ls : Array Slot) (hP : va_P D classes (wl_J7_fill_d0a16 ad cs h_arJ_a arJ_a arJ_a_n) H) (hD : va_D A (wl_J7_fill_d0a16 ad cs h_arJ_a arJ_a arJ_a_n)) (hS : va_S A s.heap H locs) (hl : lv_has ls 5 [(0, .ref h_arJ_a), (1, .long x1), (3, .int x3), (4, .int x4)]), W p l e rm_J7_fill_d0a16 s m args below meth c H locs 0 0 (MQ below (Q_J7_fill_d0a16 D cs ad h_arJ_a arJ_a_n A R) args s 0 0 A) (F0 m 6 ls [])) (x1 : Int64) (x3 : Int32) (x4 : Int32) (arJ_a : Nat → Int64) (h : B_J7_fill_d0a16_6 g6 arJ_a_n x1 x3 x4 arJ_a = some R) (H : Heap) (locs : List Loc) (ls : Array Slot) (hP : va_P D classes (wl_J7_fill_d0a16 ad cs h_arJ_a arJ_a arJ_a_n) H) (hD : va_D A (wl_J7_fill_d0a16 ad cs h_arJ_a arJ_a arJ_a_n)) (hS : va_S A s.heap H locs) (hl : lv_has ls 5 [(0, .ref h_arJ_a), (1, .long x1), (3, .int x3), (4, .int x4)]) : W p l e rm_J7_fill_d0a16 s m args below meth c H locs 0 0 (MQ below (Q_J7_fill_d0a16 D cs ad h_arJ_a arJ_a_n A R) args s 0 0 A) (F0 m 6 ls []) := by
  obtain ⟨hx, hb, hr, hml, hown, ht, hlocks⟩ := id C0
  refine lv_iload_n hx hb dJ7_fill_d0a16_6 rfl (lv_at hl 2 rfl) ?_
  refine lv_iload hx hb dJ7_fill_d0a16_7 (lv_at hl 3 rfl) ?_
  refine lv_icmp_ge (tgt := 22) hx hb dJ7_fill_d0a16_9 (by decide) (fun c_2 => ?_) (fun c_2 => ?_)
  · have h := zk_t c_2 h
    exact W.vret hx hb hr (fun t ht2 hW => ⟨⟨arJ_a, rfl, Option.some.inj h, by rw [ht2]; exact hP, hD⟩, hS.F ht2⟩) hS.2.2 dJ7_fill_d0a16_22 hlocks
  · have h := zk_f c_2 h
    refine lv_aload_n hx hb dJ7_fill_d0a16_12 rfl (lv_at hl 0 rfl) ?_
    refine lv_iload_n hx hb dJ7_fill_d0a16_13 rfl (lv_at hl 2 rfl) ?_
    refine lv_lload_n hx hb dJ7_fill_d0a16_14 rfl (lv_at hl 1 rfl) ?_
    obtain ⟨g_3, h⟩ := zk_gd h
    obtain ⟨f_4, ef_4, h⟩ := zk_lt h
    refine va_last hx hb hK hP hD hS 0 1 rfl rfl g_3 dJ7_fill_d0a16_15 (fun H locs hP hD hS => ?_)
    have hP : va_P D classes (wl_J7_fill_d0a16 ad cs h_arJ_a f_4 arJ_a_n) H := by rw [ef_4]; exact hP
    have hD : va_D A (wl_J7_fill_d0a16 ad cs h_arJ_a f_4 arJ_a_n) := by rw [ef_4]; exact hD
    obtain ⟨v_5, ev_5, h⟩ := zk_lt h
    refine lv_iinc (v := v_5) (lv' := [(3, .int v_5), (0, .ref h_arJ_a), (1, .long x1), (4, .int x4)]) hx hb dJ7_fill_d0a16_16 hl (k := 2) rfl (by rw [ev_5]; rfl) (by decide) rfl (fun ls hl => ?_)
    refine lv_goto (tgt := 6) hx hb dJ7_fill_d0a16_19 (by decide) ?_
    exact ih6 x1 v_5 x4 f_4 h H locs ls hP hD hS (lv_sub hl [1, 2, 0, 3] rfl)
set_option maxHeartbeats 4000000 in
set_option maxRecDepth 100000 in
theorem L_J7_fill_d0a16_0 {p : Program} {l : Launch} {e : Env} {s : State} {m : MethodId} {args : Array Value} {below : List Frame} {meth : Method} {c : Code} {A : Nat → Prop} {D : va_G} {cs : Nat → ClassId} {ad : Nat → Nat} {h_arJ_a : Nat} {arJ_a_n : Nat} {R : (Nat → Int64)} {g6 : Int64 → Int32 → Int32 → (Nat → Int64) → (Option ((Nat → Int64)))} (C0 : zC p s m args meth c cJ7_fill_d0a16 5 none RJ7 zW) (hK : va_K D classes (zT cs) s) (hA : ∀ q : Nat, s.heap.size ≤ q → A q) (ih6 : ∀ (x1 : Int64) (x3 : Int32) (x4 : Int32) (arJ_a : Nat → Int64) (h : g6 x1 x3 x4 arJ_a = some R) (H : Heap) (locs : List Loc) (ls : Array Slot) (hP : va_P D classes (wl_J7_fill_d0a16 ad cs h_arJ_a arJ_a arJ_a_n) H) (hD : va_D A (wl_J7_fill_d0a16 ad cs h_arJ_a arJ_a arJ_a_n)) (hS : va_S A s.heap H locs) (hl : lv_has ls 5 [(0, .ref h_arJ_a), (1, .long x1), (3, .int x3), (4, .int x4)]), W p l e rm_J7_fill_d0a16 s m args below meth c H locs 0 0 (MQ below (Q_J7_fill_d0a16 D cs ad h_arJ_a arJ_a_n A R) args s 0 0 A) (F0 m 6 ls [])) (x1 : Int64) (arJ_a : Nat → Int64) (h : B_J7_fill_d0a16_0 g6 arJ_a_n x1 arJ_a = some R) (H : Heap) (locs : List Loc) (ls : Array Slot) (hP : va_P D classes (wl_J7_fill_d0a16 ad cs h_arJ_a arJ_a arJ_a_n) H) (hD : va_D A (wl_J7_fill_d0a16 ad cs h_arJ_a arJ_a arJ_a_n)) (hS : va_S A s.heap H locs) (hl : lv_has ls 5 [(0, .ref h_arJ_a), (1, .long x1)]) : W p l e rm_J7_fill_d0a16 s m args below meth c H locs 0 0 (MQ below (Q_J7_fill_d0a16 D cs ad h_arJ_a arJ_a_n A R) args s 0 0 A) (F0 m 0 ls []) := by
  obtain ⟨hx, hb, hr, hml, hown, ht, hlocks⟩ := id C0
  refine lv_iconst (v := (0 : Int32)) hx hb dJ7_fill_d0a16_0 (by decide) ?_
  refine lv_istore_n (lv' := [(3, .int (0 : Int32)), (0, .ref h_arJ_a), (1, .long x1)]) hx hb dJ7_fill_d0a16_1 rfl hl (by decide) rfl (fun ls hl => ?_)
  refine lv_aload_n hx hb dJ7_fill_d0a16_2 rfl (lv_at hl 1 rfl) ?_
  refine va_alen (v := Int32.ofNat arJ_a_n) hx hb hK hP 0 1 rfl rfl rfl dJ7_fill_d0a16_3 ?_
  obtain ⟨v_1, ev_1, h⟩ := zk_lt h
  refine W.eq (g2 := F0 m 4 ls [.int v_1]) (by rw [ev_1]) ?_
  refine lv_istore (lv' := [(4, .int v_1), (3, .int (0 : Int32)), (0, .ref h_arJ_a), (1, .long x1)]) hx hb dJ7_fill_d0a16_4 hl (by decide) rfl (fun ls hl => ?_)
  exact ih6 x1 (0 : Int32) v_1 arJ_a h H locs ls hP hD hS (lv_sub hl [2, 3, 1, 0] rfl)
theorem LG_J7_fill_d0a16 {p : Program} {l : Launch} {e : Env} {s : State} {m : MethodId} {args : Array Value} {below : List Frame} {meth : Method} {c : Code} {A : Nat → Prop} {D : va_G} {cs : Nat → ClassId} {ad : Nat → Nat} {h_arJ_a : Nat} {arJ_a_n : Nat} {R : (Nat → Int64)} (C0 : zC p s m args meth c cJ7_fill_d0a16 5 none RJ7 zW) (hK : va_K D classes (zT cs) s) (hA : ∀ q : Nat, s.heap.size ≤ q → A q) : ∀ n : Nat, (∀ (x1 : Int64) (x3 : Int32) (x4 : Int32) (arJ_a : Nat → Int64) (h : (G_J7_fill_d0a16   arJ_a_n n) x1 x3 x4 arJ_a = some R) (H : Heap) (locs : List Loc) (ls : Array Slot) (hP : va_P D classes (wl_J7_fill_d0a16 ad cs h_arJ_a arJ_a arJ_a_n) H) (hD : va_D A (wl_J7_fill_d0a16 ad cs h_arJ_a arJ_a arJ_a_n)) (hS : va_S A s.heap H locs) (hl : lv_has ls 5 [(0, .ref h_arJ_a), (1, .long x1), (3, .int x3), (4, .int x4)]), W p l e rm_J7_fill_d0a16 s m args below meth c H locs 0 0 (MQ below (Q_J7_fill_d0a16 D cs ad h_arJ_a arJ_a_n A R) args s 0 0 A) (F0 m 6 ls [])) := by
  intro n
  induction n with
  | zero =>
    refine ?_ <;> (intros; rename_i h _ _ _ _ _ _ _; cases h)
  | succ n ih =>
    exact L_J7_fill_d0a16_6 C0 hK hA  ih
set_option maxHeartbeats 4000000 in
set_option maxRecDepth 100000 in
theorem c_J7_fill_d0a16 (l : Launch) (D : va_G) (cs : Nat → ClassId) (ad : Nat → Nat) (h_arJ_a : Nat) (sz : Nat) (n : Nat) (x1 : Int64) (arJ_a : Nat → Int64) (arJ_a_n : Nat) (R : (Nat → Int64)) (h : f_J7_fill_d0a16   n x1 arJ_a arJ_a_n = some R) : Met l yJ7_fill_d0a16 (z_J7_fill_d0a16) rm_J7_fill_d0a16 (va_Pc [.ref h_arJ_a, .long x1] (zPre D cs (wl_J7_fill_d0a16 ad cs h_arJ_a arJ_a arJ_a_n) sz)) (Q_J7_fill_d0a16 D cs ad h_arJ_a arJ_a_n (va_A (wl_J7_fill_d0a16 ad cs h_arJ_a arJ_a arJ_a_n) sz) R) 0 0 (va_A (wl_J7_fill_d0a16 ad cs h_arJ_a arJ_a arJ_a_n) sz) := by
  refine Met.ofW (cc := cJ7_fill_d0a16) (maxL := 5) (ret := none) (by decide) rfl ?_
  intro p e s m args below meth c s₁ B hml hv
  obtain ⟨rfl, hsz, hP, hK, hD0⟩ := hv
  subst hsz
  have hD := hD0.self (sz := s.heap.size)
  have C0 : zC p s m _ meth c cJ7_fill_d0a16 5 none RJ7 zW := ⟨B.exec, B.bytes, B.returns, hml, findClass_of_methodNamed B.named, fun w hw => atoms_spec (ws := z_J7_fill_d0a16) B.pre w (List.mem_cons_of_mem _ hw), B.notSynchronized⟩
  have hA : ∀ q : Nat, s.heap.size ≤ q → va_A (wl_J7_fill_d0a16 ad cs h_arJ_a arJ_a arJ_a_n) s.heap.size q := fun q h => Or.inr h
  have hl := lv_entry ([.ref h_arJ_a, .long x1]) (n := 5) (Nat.le_of_ble_eq_true rfl)
  rw [lg_entry_eq]
  generalize (lg_sl ([.ref h_arJ_a, .long x1]) ++ List.replicate (5 - (lg_sl ([.ref h_arJ_a, .long x1])).length) Slot.unset).toArray = ls at hl ⊢
  exact L_J7_fill_d0a16_0 C0 hK hA  ((LG_J7_fill_d0a16 C0 hK hA  n)) x1 arJ_a h s.heap [] ls hP hD va_S.rf hl
theorem dJ7_fill_53178_0 : decode cJ7_fill_53178 0 = .ok (.iconst 0, 1) := by decide +kernel
theorem dJ7_fill_53178_1 : decode cJ7_fill_53178 1 = .ok (.istore_n 2, 1) := by decide +kernel
theorem dJ7_fill_53178_2 : decode cJ7_fill_53178 2 = .ok (.aload_n 0, 1) := by decide +kernel
theorem dJ7_fill_53178_3 : decode cJ7_fill_53178 3 = .ok (.arraylength, 1) := by decide +kernel
theorem dJ7_fill_53178_4 : decode cJ7_fill_53178 4 = .ok (.istore_n 3, 1) := by decide +kernel
theorem dJ7_fill_53178_5 : decode cJ7_fill_53178 5 = .ok (.iload_n 2, 1) := by decide +kernel
theorem dJ7_fill_53178_6 : decode cJ7_fill_53178 6 = .ok (.iload_n 3, 1) := by decide +kernel
theorem dJ7_fill_53178_7 : decode cJ7_fill_53178 7 = .ok (.if_icmp .ge 13, 3) := by decide +kernel
theorem dJ7_fill_53178_10 : decode cJ7_fill_53178 10 = .ok (.aload_n 0, 1) := by decide +kernel
theorem dJ7_fill_53178_11 : decode cJ7_fill_53178 11 = .ok (.iload_n 2, 1) := by decide +kernel
theorem dJ7_fill_53178_12 : decode cJ7_fill_53178 12 = .ok (.iload_n 1, 1) := by decide +kernel
theorem dJ7_fill_53178_13 : decode cJ7_fill_53178 13 = .ok (.iastore, 1) := by decide +kernel
theorem dJ7_fill_53178_14 : decode cJ7_fill_53178 14 = .ok (.iinc 2 1, 3) := by decide +kernel
theorem dJ7_fill_53178_17 : decode cJ7_fill_53178 17 = .ok (.goto (-12), 3) := by decide +kernel
theorem dJ7_fill_53178_20 : decode cJ7_fill_53178 20 = .ok (.return_, 1) := by decide +kernel
abbrev z_J7_fill_53178 : List Cond := .code yJ7_fill_53178 cJ7_fill_53178 4 none :: zW
abbrev wl_J7_fill_53178 (ad : Nat → Nat) (cs : Nat → ClassId) (h_arI_a : Nat) (arI_a : Nat → Int32) (arI_a_n : Nat) : va_W := [(h_arI_a, .inl (cs 0, arI_a_n, .inl arI_a))]
def Q_J7_fill_53178 (D : va_G) (cs : Nat → ClassId) (ad : Nat → Nat) (h_arI_a : Nat) (arI_a_n : Nat) (A : Nat → Prop) (R : (Nat → Int32)) : Array Value → State → Outcome → State → Prop :=
  va_Qv (fun u : (Nat → Int32) => u = R) (fun (u : (Nat → Int32)) (t : State) => va_P D classes (wl_J7_fill_53178 ad cs h_arI_a u arI_a_n) t.heap ∧ va_D A (wl_J7_fill_53178 ad cs h_arI_a u arI_a_n)) A
abbrev rm_J7_fill_53178 : Room := { frames := 0, cells := 0, slots := 0, locals := 0 }
def B_J7_fill_53178_5   (g5 : Int32 → Int32 → Int32 → (Nat → Int32) → (Option ((Nat → Int32)))) (arI_a_n : Nat) (x1 : Int32) (x2 : Int32) (x3 : Int32) (arI_a : Nat → Int32) : Option ((Nat → Int32)) :=
  (if x3 ≤ x2 then (some arI_a) else (if (x2 < 0 ∨ arI_a_n ≤ x2.toNatClampNeg) then none else (zk_let (upd arI_a x2.toNatClampNeg x1) (fun f_4 => (zk_let (x2 + (1 : Int32)) (fun v_5 => (g5 x1 v_5 x3 f_4)))))))
def B_J7_fill_53178_0   (g5 : Int32 → Int32 → Int32 → (Nat → Int32) → (Option ((Nat → Int32)))) (arI_a_n : Nat) (x1 : Int32) (arI_a : Nat → Int32) : Option ((Nat → Int32)) :=
  (zk_let (Int32.ofNat arI_a_n) (fun v_1 => (g5 x1 (0 : Int32) v_1 arI_a)))
def G_J7_fill_53178   (arI_a_n : Nat) (n : Nat) : (Int32 → Int32 → Int32 → (Nat → Int32) → (Option ((Nat → Int32)))) :=
  Nat.rec (motive := fun _ => (Int32 → Int32 → Int32 → (Nat → Int32) → (Option ((Nat → Int32))))) ((fun _ _ _ _ => none)) (fun _ ih => (B_J7_fill_53178_5   ih arI_a_n)) n
def f_J7_fill_53178   (n : Nat) (x1 : Int32) (arI_a : Nat → Int32) (arI_a_n : Nat) : Option ((Nat → Int32)) := B_J7_fill_53178_0   ((G_J7_fill_53178   arI_a_n n)) arI_a_n x1 arI_a
set_option maxHeartbeats 4000000 in
set_option maxRecDepth 100000 in
theorem L_J7_fill_53178_5 {p : Program} {l : Launch} {e : Env} {s : State} {m : MethodId} {args : Array Value} {below : List Frame} {meth : Method} {c : Code} {A : Nat → Prop} {D : va_G} {cs : Nat → ClassId} {ad : Nat → Nat} {h_arI_a : Nat} {arI_a_n : Nat} {R : (Nat → Int32)} {g5 : Int32 → Int32 → Int32 → (Nat → Int32) → (Option ((Nat → Int32)))} (C0 : zC p s m args meth c cJ7_fill_53178 4 none RJ7 zW) (hK : va_K D classes (zT cs) s) (hA : ∀ q : Nat, s.heap.size ≤ q → A q) (ih5 : ∀ (x1 : Int32) (x2 : Int32) (x3 : Int32) (arI_a : Nat → Int32) (h : g5 x1 x2 x3 arI_a = some R) (H : Heap) (locs : List Loc) (ls : Array Slot) (hP : va_P D classes (wl_J7_fill_53178 ad cs h_arI_a arI_a arI_a_n) H) (hD : va_D A (wl_J7_fill_53178 ad cs h_arI_a arI_a arI_a_n)) (hS : va_S A s.heap H locs) (hl : lv_has ls 4 [(0, .ref h_arI_a), (1, .int x1), (2, .int x2), (3, .int x3)]), W p l e rm_J7_fill_53178 s m args below meth c H locs 0 0 (MQ below (Q_J7_fill_53178 D cs ad h_arI_a arI_a_n A R) args s 0 0 A) (F0 m 5 ls [])) (x1 : Int32) (x2 : Int32) (x3 : Int32) (arI_a : Nat → Int32) (h : B_J7_fill_53178_5 g5 arI_a_n x1 x2 x3 arI_a = some R) (H : Heap) (locs : List Loc) (ls : Array Slot) (hP : va_P D classes (wl_J7_fill_53178 ad cs h_arI_a arI_a arI_a_n) H) (hD : va_D A (wl_J7_fill_53178 ad cs h_arI_a arI_a arI_a_n)) (hS : va_S A s.heap H locs) (hl : lv_has ls 4 [(0, .ref h_arI_a), (1, .int x1), (2, .int x2), (3, .int x3)]) : W p l e rm_J7_fill_53178 s m args below meth c H locs 0 0 (MQ below (Q_J7_fill_53178 D cs ad h_arI_a arI_a_n A R) args s 0 0 A) (F0 m 5 ls []) := by
  obtain ⟨hx, hb, hr, hml, hown, ht, hlocks⟩ := id C0
  refine lv_iload_n hx hb dJ7_fill_53178_5 rfl (lv_at hl 2 rfl) ?_
  refine lv_iload_n hx hb dJ7_fill_53178_6 rfl (lv_at hl 3 rfl) ?_
  refine lv_icmp_ge (tgt := 20) hx hb dJ7_fill_53178_7 (by decide) (fun c_2 => ?_) (fun c_2 => ?_)
  · have h := zk_t c_2 h
    exact W.vret hx hb hr (fun t ht2 hW => ⟨⟨arI_a, rfl, Option.some.inj h, by rw [ht2]; exact hP, hD⟩, hS.F ht2⟩) hS.2.2 dJ7_fill_53178_20 hlocks
  · have h := zk_f c_2 h
    refine lv_aload_n hx hb dJ7_fill_53178_10 rfl (lv_at hl 0 rfl) ?_
    refine lv_iload_n hx hb dJ7_fill_53178_11 rfl (lv_at hl 2 rfl) ?_
    refine lv_iload_n hx hb dJ7_fill_53178_12 rfl (lv_at hl 1 rfl) ?_
    obtain ⟨g_3, h⟩ := zk_gd h
    obtain ⟨f_4, ef_4, h⟩ := zk_lt h
    refine va_iast hx hb hK hP hD hS 0 0 rfl rfl g_3 dJ7_fill_53178_13 (fun H locs hP hD hS => ?_)
    have hP : va_P D classes (wl_J7_fill_53178 ad cs h_arI_a f_4 arI_a_n) H := by rw [ef_4]; exact hP
    have hD : va_D A (wl_J7_fill_53178 ad cs h_arI_a f_4 arI_a_n) := by rw [ef_4]; exact hD
    obtain ⟨v_5, ev_5, h⟩ := zk_lt h
    refine lv_iinc (v := v_5) (lv' := [(2, .int v_5), (0, .ref h_arI_a), (1, .int x1), (3, .int x3)]) hx hb dJ7_fill_53178_14 hl (k := 2) rfl (by rw [ev_5]; rfl) (by decide) rfl (fun ls hl => ?_)
    refine lv_goto (tgt := 5) hx hb dJ7_fill_53178_17 (by decide) ?_
    exact ih5 x1 v_5 x3 f_4 h H locs ls hP hD hS (lv_sub hl [1, 2, 0, 3] rfl)
set_option maxHeartbeats 4000000 in
set_option maxRecDepth 100000 in
theorem L_J7_fill_53178_0 {p : Program} {l : Launch} {e : Env} {s : State} {m : MethodId} {args : Array Value} {below : List Frame} {meth : Method} {c : Code} {A : Nat → Prop} {D : va_G} {cs : Nat → ClassId} {ad : Nat → Nat} {h_arI_a : Nat} {arI_a_n : Nat} {R : (Nat → Int32)} {g5 : Int32 → Int32 → Int32 → (Nat → Int32) → (Option ((Nat → Int32)))} (C0 : zC p s m args meth c cJ7_fill_53178 4 none RJ7 zW) (hK : va_K D classes (zT cs) s) (hA : ∀ q : Nat, s.heap.size ≤ q → A q) (ih5 : ∀ (x1 : Int32) (x2 : Int32) (x3 : Int32) (arI_a : Nat → Int32) (h : g5 x1 x2 x3 arI_a = some R) (H : Heap) (locs : List Loc) (ls : Array Slot) (hP : va_P D classes (wl_J7_fill_53178 ad cs h_arI_a arI_a arI_a_n) H) (hD : va_D A (wl_J7_fill_53178 ad cs h_arI_a arI_a arI_a_n)) (hS : va_S A s.heap H locs) (hl : lv_has ls 4 [(0, .ref h_arI_a), (1, .int x1), (2, .int x2), (3, .int x3)]), W p l e rm_J7_fill_53178 s m args below meth c H locs 0 0 (MQ below (Q_J7_fill_53178 D cs ad h_arI_a arI_a_n A R) args s 0 0 A) (F0 m 5 ls [])) (x1 : Int32) (arI_a : Nat → Int32) (h : B_J7_fill_53178_0 g5 arI_a_n x1 arI_a = some R) (H : Heap) (locs : List Loc) (ls : Array Slot) (hP : va_P D classes (wl_J7_fill_53178 ad cs h_arI_a arI_a arI_a_n) H) (hD : va_D A (wl_J7_fill_53178 ad cs h_arI_a arI_a arI_a_n)) (hS : va_S A s.heap H locs) (hl : lv_has ls 4 [(0, .ref h_arI_a), (1, .int x1)]) : W p l e rm_J7_fill_53178 s m args below meth c H locs 0 0 (MQ below (Q_J7_fill_53178 D cs ad h_arI_a arI_a_n A R) args s 0 0 A) (F0 m 0 ls []) := by
  obtain ⟨hx, hb, hr, hml, hown, ht, hlocks⟩ := id C0
  refine lv_iconst (v := (0 : Int32)) hx hb dJ7_fill_53178_0 (by decide) ?_
  refine lv_istore_n (lv' := [(2, .int (0 : Int32)), (0, .ref h_arI_a), (1, .int x1)]) hx hb dJ7_fill_53178_1 rfl hl (by decide) rfl (fun ls hl => ?_)
  refine lv_aload_n hx hb dJ7_fill_53178_2 rfl (lv_at hl 1 rfl) ?_
  refine va_alen (v := Int32.ofNat arI_a_n) hx hb hK hP 0 0 rfl rfl rfl dJ7_fill_53178_3 ?_
  obtain ⟨v_1, ev_1, h⟩ := zk_lt h
  refine W.eq (g2 := F0 m 4 ls [.int v_1]) (by rw [ev_1]) ?_
  refine lv_istore_n (lv' := [(3, .int v_1), (2, .int (0 : Int32)), (0, .ref h_arI_a), (1, .int x1)]) hx hb dJ7_fill_53178_4 rfl hl (by decide) rfl (fun ls hl => ?_)
  exact ih5 x1 (0 : Int32) v_1 arI_a h H locs ls hP hD hS (lv_sub hl [2, 3, 1, 0] rfl)
theorem LG_J7_fill_53178 {p : Program} {l : Launch} {e : Env} {s : State} {m : MethodId} {args : Array Value} {below : List Frame} {meth : Method} {c : Code} {A : Nat → Prop} {D : va_G} {cs : Nat → ClassId} {ad : Nat → Nat} {h_arI_a : Nat} {arI_a_n : Nat} {R : (Nat → Int32)} (C0 : zC p s m args meth c cJ7_fill_53178 4 none RJ7 zW) (hK : va_K D classes (zT cs) s) (hA : ∀ q : Nat, s.heap.size ≤ q → A q) : ∀ n : Nat, (∀ (x1 : Int32) (x2 : Int32) (x3 : Int32) (arI_a : Nat → Int32) (h : (G_J7_fill_53178   arI_a_n n) x1 x2 x3 arI_a = some R) (H : Heap) (locs : List Loc) (ls : Array Slot) (hP : va_P D classes (wl_J7_fill_53178 ad cs h_arI_a arI_a arI_a_n) H) (hD : va_D A (wl_J7_fill_53178 ad cs h_arI_a arI_a arI_a_n)) (hS : va_S A s.heap H locs) (hl : lv_has ls 4 [(0, .ref h_arI_a), (1, .int x1), (2, .int x2), (3, .int x3)]), W p l e rm_J7_fill_53178 s m args below meth c H locs 0 0 (MQ below (Q_J7_fill_53178 D cs ad h_arI_a arI_a_n A R) args s 0 0 A) (F0 m 5 ls [])) := by
  intro n
  induction n with
  | zero =>
    refine ?_ <;> (intros; rename_i h _ _ _ _ _ _ _; cases h)
  | succ n ih =>
    exact L_J7_fill_53178_5 C0 hK hA  ih
set_option maxHeartbeats 4000000 in
set_option maxRecDepth 100000 in
theorem c_J7_fill_53178 (l : Launch) (D : va_G) (cs : Nat → ClassId) (ad : Nat → Nat) (h_arI_a : Nat) (sz : Nat) (n : Nat) (x1 : Int32) (arI_a : Nat → Int32) (arI_a_n : Nat) (R : (Nat → Int32)) (h : f_J7_fill_53178   n x1 arI_a arI_a_n = some R) : Met l yJ7_fill_53178 (z_J7_fill_53178) rm_J7_fill_53178 (va_Pc [.ref h_arI_a, .int x1] (zPre D cs (wl_J7_fill_53178 ad cs h_arI_a arI_a arI_a_n) sz)) (Q_J7_fill_53178 D cs ad h_arI_a arI_a_n (va_A (wl_J7_fill_53178 ad cs h_arI_a arI_a arI_a_n) sz) R) 0 0 (va_A (wl_J7_fill_53178 ad cs h_arI_a arI_a arI_a_n) sz) := by
  refine Met.ofW (cc := cJ7_fill_53178) (maxL := 4) (ret := none) (by decide) rfl ?_
  intro p e s m args below meth c s₁ B hml hv
  obtain ⟨rfl, hsz, hP, hK, hD0⟩ := hv
  subst hsz
  have hD := hD0.self (sz := s.heap.size)
  have C0 : zC p s m _ meth c cJ7_fill_53178 4 none RJ7 zW := ⟨B.exec, B.bytes, B.returns, hml, findClass_of_methodNamed B.named, fun w hw => atoms_spec (ws := z_J7_fill_53178) B.pre w (List.mem_cons_of_mem _ hw), B.notSynchronized⟩
  have hA : ∀ q : Nat, s.heap.size ≤ q → va_A (wl_J7_fill_53178 ad cs h_arI_a arI_a arI_a_n) s.heap.size q := fun q h => Or.inr h
  have hl := lv_entry ([.ref h_arI_a, .int x1]) (n := 4) (Nat.le_of_ble_eq_true rfl)
  rw [lg_entry_eq]
  generalize (lg_sl ([.ref h_arI_a, .int x1]) ++ List.replicate (4 - (lg_sl ([.ref h_arI_a, .int x1])).length) Slot.unset).toArray = ls at hl ⊢
  exact L_J7_fill_53178_0 C0 hK hA  ((LG_J7_fill_53178 C0 hK hA  n)) x1 arI_a h s.heap [] ls hP hD va_S.rf hl
theorem kw_1059 : Cond.constantLong RJ13 314 (6148914691236517205 : Int64) ∈ zW := zwI (i := 1059) (by decide +kernel) (by decide +kernel)
theorem kw_1060 : Cond.constantLong RJ13 316 (3689348814741910323 : Int64) ∈ zW := zwI (i := 1060) (by decide +kernel) (by decide +kernel)
theorem kw_1061 : Cond.constantLong RJ13 318 (1085102592571150095 : Int64) ∈ zW := zwI (i := 1061) (by decide +kernel) (by decide +kernel)
theorem dJ13_bitCount_95d88_0 : decode cJ13_bitCount_95d88 0 = .ok (.lload_n 0, 1) := by decide +kernel
theorem dJ13_bitCount_95d88_1 : decode cJ13_bitCount_95d88 1 = .ok (.lload_n 0, 1) := by decide +kernel
theorem dJ13_bitCount_95d88_2 : decode cJ13_bitCount_95d88 2 = .ok (.iconst 1, 1) := by decide +kernel
theorem dJ13_bitCount_95d88_3 : decode cJ13_bitCount_95d88 3 = .ok (.lushr, 1) := by decide +kernel
theorem dJ13_bitCount_95d88_4 : decode cJ13_bitCount_95d88 4 = .ok (.ldc2_w 314, 3) := by decide +kernel
theorem dJ13_bitCount_95d88_7 : decode cJ13_bitCount_95d88 7 = .ok (.land, 1) := by decide +kernel
theorem dJ13_bitCount_95d88_8 : decode cJ13_bitCount_95d88 8 = .ok (.lsub, 1) := by decide +kernel
theorem dJ13_bitCount_95d88_9 : decode cJ13_bitCount_95d88 9 = .ok (.lstore_n 0, 1) := by decide +kernel
theorem dJ13_bitCount_95d88_10 : decode cJ13_bitCount_95d88 10 = .ok (.lload_n 0, 1) := by decide +kernel
theorem dJ13_bitCount_95d88_11 : decode cJ13_bitCount_95d88 11 = .ok (.ldc2_w 316, 3) := by decide +kernel
theorem dJ13_bitCount_95d88_14 : decode cJ13_bitCount_95d88 14 = .ok (.land, 1) := by decide +kernel
theorem dJ13_bitCount_95d88_15 : decode cJ13_bitCount_95d88 15 = .ok (.lload_n 0, 1) := by decide +kernel
theorem dJ13_bitCount_95d88_16 : decode cJ13_bitCount_95d88 16 = .ok (.iconst 2, 1) := by decide +kernel
theorem dJ13_bitCount_95d88_17 : decode cJ13_bitCount_95d88 17 = .ok (.lushr, 1) := by decide +kernel
theorem dJ13_bitCount_95d88_18 : decode cJ13_bitCount_95d88 18 = .ok (.ldc2_w 316, 3) := by decide +kernel
theorem dJ13_bitCount_95d88_21 : decode cJ13_bitCount_95d88 21 = .ok (.land, 1) := by decide +kernel
theorem dJ13_bitCount_95d88_22 : decode cJ13_bitCount_95d88 22 = .ok (.ladd, 1) := by decide +kernel
theorem dJ13_bitCount_95d88_23 : decode cJ13_bitCount_95d88 23 = .ok (.lstore_n 0, 1) := by decide +kernel
theorem dJ13_bitCount_95d88_24 : decode cJ13_bitCount_95d88 24 = .ok (.lload_n 0, 1) := by decide +kernel
theorem dJ13_bitCount_95d88_25 : decode cJ13_bitCount_95d88 25 = .ok (.lload_n 0, 1) := by decide +kernel
theorem dJ13_bitCount_95d88_26 : decode cJ13_bitCount_95d88 26 = .ok (.iconst 4, 1) := by decide +kernel
theorem dJ13_bitCount_95d88_27 : decode cJ13_bitCount_95d88 27 = .ok (.lushr, 1) := by decide +kernel
theorem dJ13_bitCount_95d88_28 : decode cJ13_bitCount_95d88 28 = .ok (.ladd, 1) := by decide +kernel
theorem dJ13_bitCount_95d88_29 : decode cJ13_bitCount_95d88 29 = .ok (.ldc2_w 318, 3) := by decide +kernel
theorem dJ13_bitCount_95d88_32 : decode cJ13_bitCount_95d88 32 = .ok (.land, 1) := by decide +kernel
theorem dJ13_bitCount_95d88_33 : decode cJ13_bitCount_95d88 33 = .ok (.lstore_n 0, 1) := by decide +kernel
theorem dJ13_bitCount_95d88_34 : decode cJ13_bitCount_95d88 34 = .ok (.lload_n 0, 1) := by decide +kernel
theorem dJ13_bitCount_95d88_35 : decode cJ13_bitCount_95d88 35 = .ok (.lload_n 0, 1) := by decide +kernel
theorem dJ13_bitCount_95d88_36 : decode cJ13_bitCount_95d88 36 = .ok (.bipush 8, 2) := by decide +kernel
theorem dJ13_bitCount_95d88_38 : decode cJ13_bitCount_95d88 38 = .ok (.lushr, 1) := by decide +kernel
theorem dJ13_bitCount_95d88_39 : decode cJ13_bitCount_95d88 39 = .ok (.ladd, 1) := by decide +kernel
theorem dJ13_bitCount_95d88_40 : decode cJ13_bitCount_95d88 40 = .ok (.lstore_n 0, 1) := by decide +kernel
theorem dJ13_bitCount_95d88_41 : decode cJ13_bitCount_95d88 41 = .ok (.lload_n 0, 1) := by decide +kernel
theorem dJ13_bitCount_95d88_42 : decode cJ13_bitCount_95d88 42 = .ok (.lload_n 0, 1) := by decide +kernel
theorem dJ13_bitCount_95d88_43 : decode cJ13_bitCount_95d88 43 = .ok (.bipush 16, 2) := by decide +kernel
theorem dJ13_bitCount_95d88_45 : decode cJ13_bitCount_95d88 45 = .ok (.lushr, 1) := by decide +kernel
theorem dJ13_bitCount_95d88_46 : decode cJ13_bitCount_95d88 46 = .ok (.ladd, 1) := by decide +kernel
theorem dJ13_bitCount_95d88_47 : decode cJ13_bitCount_95d88 47 = .ok (.lstore_n 0, 1) := by decide +kernel
theorem dJ13_bitCount_95d88_48 : decode cJ13_bitCount_95d88 48 = .ok (.lload_n 0, 1) := by decide +kernel
theorem dJ13_bitCount_95d88_49 : decode cJ13_bitCount_95d88 49 = .ok (.lload_n 0, 1) := by decide +kernel
theorem dJ13_bitCount_95d88_50 : decode cJ13_bitCount_95d88 50 = .ok (.bipush 32, 2) := by decide +kernel
theorem dJ13_bitCount_95d88_52 : decode cJ13_bitCount_95d88 52 = .ok (.lushr, 1) := by decide +kernel
theorem dJ13_bitCount_95d88_53 : decode cJ13_bitCount_95d88 53 = .ok (.ladd, 1) := by decide +kernel
theorem dJ13_bitCount_95d88_54 : decode cJ13_bitCount_95d88 54 = .ok (.lstore_n 0, 1) := by decide +kernel
theorem dJ13_bitCount_95d88_55 : decode cJ13_bitCount_95d88 55 = .ok (.lload_n 0, 1) := by decide +kernel
theorem dJ13_bitCount_95d88_56 : decode cJ13_bitCount_95d88 56 = .ok (.l2i, 1) := by decide +kernel
theorem dJ13_bitCount_95d88_57 : decode cJ13_bitCount_95d88 57 = .ok (.bipush 127, 2) := by decide +kernel
theorem dJ13_bitCount_95d88_59 : decode cJ13_bitCount_95d88 59 = .ok (.iand, 1) := by decide +kernel
theorem dJ13_bitCount_95d88_60 : decode cJ13_bitCount_95d88 60 = .ok (.ireturn, 1) := by decide +kernel
abbrev z_J13_bitCount_95d88 : List Cond := .code yJ13_bitCount_95d88 cJ13_bitCount_95d88 2 (some .int) :: zW
abbrev wl_J13_bitCount_95d88 (ad : Nat → Nat) (cs : Nat → ClassId)   : va_W := []
def Q_J13_bitCount_95d88 (D : va_G) (cs : Nat → ClassId) (ad : Nat → Nat)   (A : Nat → Prop) (R : Int32 × Unit) : Array Value → State → Outcome → State → Prop :=
  va_Qi (fun (r : Int32) (u : Unit) => (r, u) = R) (fun (u : Unit) (t : State) => va_P D classes (wl_J13_bitCount_95d88 ad cs ) t.heap ∧ va_D A (wl_J13_bitCount_95d88 ad cs )) A
abbrev rm_J13_bitCount_95d88 : Room := { frames := 0, cells := 0, slots := 0, locals := 0 }
def B_J13_bitCount_95d88_0     (x0 : Int64) : Option (Int32 × Unit) :=
  (zk_let (x0 - (((x0.toUInt64 >>> ((1 : Int32).toInt64.toUInt64 &&& Int64.toUInt64 63)).toInt64) &&& (6148914691236517205 : Int64))) (fun v_1 => (zk_let ((v_1 &&& (3689348814741910323 : Int64)) + (((v_1.toUInt64 >>> ((2 : Int32).toInt64.toUInt64 &&& Int64.toUInt64 63)).toInt64) &&& (3689348814741910323 : Int64))) (fun v_2 => (zk_let ((v_2 + ((v_2.toUInt64 >>> ((4 : Int32).toInt64.toUInt64 &&& Int64.toUInt64 63)).toInt64)) &&& (1085102592571150095 : Int64)) (fun v_3 => (zk_let (v_3 + ((v_3.toUInt64 >>> ((8 : Int32).toInt64.toUInt64 &&& Int64.toUInt64 63)).toInt64)) (fun v_4 => (zk_let (v_4 + ((v_4.toUInt64 >>> ((16 : Int32).toInt64.toUInt64 &&& Int64.toUInt64 63)).toInt64)) (fun v_5 => (zk_let (v_5 + ((v_5.toUInt64 >>> ((32 : Int32).toInt64.toUInt64 &&& Int64.toUInt64 63)).toInt64)) (fun v_6 => (some (v_6.toInt32 &&& (127 : Int32), ()))))))))))))))
def f_J13_bitCount_95d88   (x0 : Int64)  : Option (Int32 × Unit) := B_J13_bitCount_95d88_0    x0 
set_option maxHeartbeats 4000000 in
set_option maxRecDepth 100000 in
theorem L_J13_bitCount_95d88_0 {p : Program} {l : Launch} {e : Env} {s : State} {m : MethodId} {args : Array Value} {below : List Frame} {meth : Method} {c : Code} {A : Nat → Prop} {D : va_G} {cs : Nat → ClassId} {ad : Nat → Nat} {R : Int32 × Unit} (C0 : zC p s m args meth c cJ13_bitCount_95d88 2 (some .int) RJ13 zW) (hK : va_K D classes (zT cs) s) (hA : ∀ q : Nat, s.heap.size ≤ q → A q) (x0 : Int64) (h : B_J13_bitCount_95d88_0 x0 = some R) (H : Heap) (locs : List Loc) (ls : Array Slot) (hP : va_P D classes (wl_J13_bitCount_95d88 ad cs ) H) (hD : va_D A (wl_J13_bitCount_95d88 ad cs )) (hS : va_S A s.heap H locs) (hl : lv_has ls 2 [(0, .long x0)]) : W p l e rm_J13_bitCount_95d88 s m args below meth c H locs 0 0 (MQ below (Q_J13_bitCount_95d88 D cs ad  A R) args s 0 0 A) (F0 m 0 ls []) := by
  obtain ⟨hx, hb, hr, hml, hown, ht, hlocks⟩ := id C0
  refine lv_lload_n hx hb dJ13_bitCount_95d88_0 rfl (lv_at hl 0 rfl) ?_
  refine lv_lload_n hx hb dJ13_bitCount_95d88_1 rfl (lv_at hl 0 rfl) ?_
  refine lv_iconst (v := (1 : Int32)) hx hb dJ13_bitCount_95d88_2 (by decide) ?_
  refine lv_lushr (v := (x0.toUInt64 >>> ((1 : Int32).toInt64.toUInt64 &&& Int64.toUInt64 63)).toInt64) hx hb dJ13_bitCount_95d88_3 rfl ?_
  refine lv_ldc2 (v := (6148914691236517205 : Int64)) hx hb hown (ht _ kw_1059) dJ13_bitCount_95d88_4 ?_
  refine lv_land hx hb dJ13_bitCount_95d88_7 ?_
  refine lv_lsub hx hb dJ13_bitCount_95d88_8 ?_
  obtain ⟨v_1, ev_1, h⟩ := zk_lt h
  refine W.eq (g2 := F0 m 9 ls [.long v_1]) (by rw [ev_1]) ?_
  refine lv_lstore_n (lv' := [(0, .long v_1)]) hx hb dJ13_bitCount_95d88_9 rfl hl (by decide) rfl (fun ls hl => ?_)
  refine lv_lload_n hx hb dJ13_bitCount_95d88_10 rfl (lv_at hl 0 rfl) ?_
  refine lv_ldc2 (v := (3689348814741910323 : Int64)) hx hb hown (ht _ kw_1060) dJ13_bitCount_95d88_11 ?_
  refine lv_land hx hb dJ13_bitCount_95d88_14 ?_
  refine lv_lload_n hx hb dJ13_bitCount_95d88_15 rfl (lv_at hl 0 rfl) ?_
  refine lv_iconst (v := (2 : Int32)) hx hb dJ13_bitCount_95d88_16 (by decide) ?_
  refine lv_lushr (v := (v_1.toUInt64 >>> ((2 : Int32).toInt64.toUInt64 &&& Int64.toUInt64 63)).toInt64) hx hb dJ13_bitCount_95d88_17 rfl ?_
  refine lv_ldc2 (v := (3689348814741910323 : Int64)) hx hb hown (ht _ kw_1060) dJ13_bitCount_95d88_18 ?_
  refine lv_land hx hb dJ13_bitCount_95d88_21 ?_
  refine lv_ladd hx hb dJ13_bitCount_95d88_22 ?_
  obtain ⟨v_2, ev_2, h⟩ := zk_lt h
  refine W.eq (g2 := F0 m 23 ls [.long v_2]) (by rw [ev_2]) ?_
  refine lv_lstore_n (lv' := [(0, .long v_2)]) hx hb dJ13_bitCount_95d88_23 rfl hl (by decide) rfl (fun ls hl => ?_)
  refine lv_lload_n hx hb dJ13_bitCount_95d88_24 rfl (lv_at hl 0 rfl) ?_
  refine lv_lload_n hx hb dJ13_bitCount_95d88_25 rfl (lv_at hl 0 rfl) ?_
  refine lv_iconst (v := (4 : Int32)) hx hb dJ13_bitCount_95d88_26 (by decide) ?_
  refine lv_lushr (v := (v_2.toUInt64 >>> ((4 : Int32).toInt64.toUInt64 &&& Int64.toUInt64 63)).toInt64) hx hb dJ13_bitCount_95d88_27 rfl ?_
  refine lv_ladd hx hb dJ13_bitCount_95d88_28 ?_
  refine lv_ldc2 (v := (1085102592571150095 : Int64)) hx hb hown (ht _ kw_1061) dJ13_bitCount_95d88_29 ?_
  refine lv_land hx hb dJ13_bitCount_95d88_32 ?_
  obtain ⟨v_3, ev_3, h⟩ := zk_lt h
  refine W.eq (g2 := F0 m 33 ls [.long v_3]) (by rw [ev_3]) ?_
  refine lv_lstore_n (lv' := [(0, .long v_3)]) hx hb dJ13_bitCount_95d88_33 rfl hl (by decide) rfl (fun ls hl => ?_)
  refine lv_lload_n hx hb dJ13_bitCount_95d88_34 rfl (lv_at hl 0 rfl) ?_
  refine lv_lload_n hx hb dJ13_bitCount_95d88_35 rfl (lv_at hl 0 rfl) ?_
  refine lv_bipush (v := (8 : Int32)) hx hb dJ13_bitCount_95d88_36 (by decide) ?_
  refine lv_lushr (v := (v_3.toUInt64 >>> ((8 : Int32).toInt64.toUInt64 &&& Int64.toUInt64 63)).toInt64) hx hb dJ13_bitCount_95d88_38 rfl ?_
  refine lv_ladd hx hb dJ13_bitCount_95d88_39 ?_
  obtain ⟨v_4, ev_4, h⟩ := zk_lt h
  refine W.eq (g2 := F0 m 40 ls [.long v_4]) (by rw [ev_4]) ?_
  refine lv_lstore_n (lv' := [(0, .long v_4)]) hx hb dJ13_bitCount_95d88_40 rfl hl (by decide) rfl (fun ls hl => ?_)
  refine lv_lload_n hx hb dJ13_bitCount_95d88_41 rfl (lv_at hl 0 rfl) ?_
  refine lv_lload_n hx hb dJ13_bitCount_95d88_42 rfl (lv_at hl 0 rfl) ?_
  refine lv_bipush (v := (16 : Int32)) hx hb dJ13_bitCount_95d88_43 (by decide) ?_
  refine lv_lushr (v := (v_4.toUInt64 >>> ((16 : Int32).toInt64.toUInt64 &&& Int64.toUInt64 63)).toInt64) hx hb dJ13_bitCount_95d88_45 rfl ?_
  refine lv_ladd hx hb dJ13_bitCount_95d88_46 ?_
  obtain ⟨v_5, ev_5, h⟩ := zk_lt h
  refine W.eq (g2 := F0 m 47 ls [.long v_5]) (by rw [ev_5]) ?_
  refine lv_lstore_n (lv' := [(0, .long v_5)]) hx hb dJ13_bitCount_95d88_47 rfl hl (by decide) rfl (fun ls hl => ?_)
  refine lv_lload_n hx hb dJ13_bitCount_95d88_48 rfl (lv_at hl 0 rfl) ?_
  refine lv_lload_n hx hb dJ13_bitCount_95d88_49 rfl (lv_at hl 0 rfl) ?_
  refine lv_bipush (v := (32 : Int32)) hx hb dJ13_bitCount_95d88_50 (by decide) ?_
  refine lv_lushr (v := (v_5.toUInt64 >>> ((32 : Int32).toInt64.toUInt64 &&& Int64.toUInt64 63)).toInt64) hx hb dJ13_bitCount_95d88_52 rfl ?_
  refine lv_ladd hx hb dJ13_bitCount_95d88_53 ?_
  obtain ⟨v_6, ev_6, h⟩ := zk_lt h
  refine W.eq (g2 := F0 m 54 ls [.long v_6]) (by rw [ev_6]) ?_
  refine lv_lstore_n (lv' := [(0, .long v_6)]) hx hb dJ13_bitCount_95d88_54 rfl hl (by decide) rfl (fun ls hl => ?_)
  refine lv_lload_n hx hb dJ13_bitCount_95d88_55 rfl (lv_at hl 0 rfl) ?_
  refine lv_l2i (v := v_6.toInt32) hx hb dJ13_bitCount_95d88_56 rfl ?_
  refine lv_bipush (v := (127 : Int32)) hx hb dJ13_bitCount_95d88_57 (by decide) ?_
  refine lv_iand hx hb dJ13_bitCount_95d88_59 ?_
  exact W.iret (v := v_6.toInt32 &&& (127 : Int32)) hx hb hr (fun t ht2 hW => ⟨⟨v_6.toInt32 &&& (127 : Int32), (), rfl, Option.some.inj h, by rw [ht2]; exact hP, hD⟩, hS.F ht2⟩) hS.2.2 dJ13_bitCount_95d88_60 hlocks
set_option maxHeartbeats 4000000 in
set_option maxRecDepth 100000 in
theorem c_J13_bitCount_95d88 (l : Launch) (D : va_G) (cs : Nat → ClassId) (ad : Nat → Nat) (sz : Nat) (x0 : Int64)  (R : Int32 × Unit) (h : f_J13_bitCount_95d88   x0  = some R) : Met l yJ13_bitCount_95d88 (z_J13_bitCount_95d88) rm_J13_bitCount_95d88 (va_Pc [.long x0] (zPre D cs (wl_J13_bitCount_95d88 ad cs ) sz)) (Q_J13_bitCount_95d88 D cs ad  (va_A (wl_J13_bitCount_95d88 ad cs ) sz) R) 0 0 (va_A (wl_J13_bitCount_95d88 ad cs ) sz) := by
  refine Met.ofW (cc := cJ13_bitCount_95d88) (maxL := 2) (ret := (some .int)) (by decide) rfl ?_
  intro p e s m args below meth c s₁ B hml hv
  obtain ⟨rfl, hsz, hP, hK, hD0⟩ := hv
  subst hsz
  have hD := hD0.self (sz := s.heap.size)
  have C0 : zC p s m _ meth c cJ13_bitCount_95d88 2 (some .int) RJ13 zW := ⟨B.exec, B.bytes, B.returns, hml, findClass_of_methodNamed B.named, fun w hw => atoms_spec (ws := z_J13_bitCount_95d88) B.pre w (List.mem_cons_of_mem _ hw), B.notSynchronized⟩
  have hA : ∀ q : Nat, s.heap.size ≤ q → va_A (wl_J13_bitCount_95d88 ad cs ) s.heap.size q := fun q h => Or.inr h
  have hl := lv_entry ([.long x0]) (n := 2) (Nat.le_of_ble_eq_true rfl)
  rw [lg_entry_eq]
  generalize (lg_sl ([.long x0]) ++ List.replicate (2 - (lg_sl ([.long x0])).length) Slot.unset).toArray = ls at hl ⊢
  exact L_J13_bitCount_95d88_0 C0 hK hA   x0  h s.heap [] ls hP hD va_S.rf hl
theorem kw_92 : Cond.initialized RJ7 ∈ zW := zwI (i := 92) (by decide +kernel) (by decide +kernel)
theorem kw_201 : Cond.fieldLink RX3 40 "AlreadyJudged$Inquiry" "day" "I" ∈ zW := zwI (i := 201) (by decide +kernel) (by decide +kernel)
theorem kw_202 : Cond.fieldLink RX3 44 "AlreadyJudged$Inquiry" "land" "I" ∈ zW := zwI (i := 202) (by decide +kernel) (by decide +kernel)
theorem kw_204 : Cond.fieldLink RX3 47 "AlreadyJudged$Inquiry" "shoeLeftOut" "I" ∈ zW := zwI (i := 204) (by decide +kernel) (by decide +kernel)
theorem kw_807 : Cond.methodLink RX3 50 yJ7_fill_d0a16 ∈ zW := zwI (i := 807) (by decide +kernel) (by decide +kernel)
theorem kw_808 : Cond.static yJ7_fill_d0a16 ∈ zW := zwI (i := 808) (by decide +kernel) (by decide +kernel)
theorem kw_809 : Cond.code yJ7_fill_d0a16 cJ7_fill_d0a16 5 none ∈ zW := zwI (i := 809) (by decide +kernel) (by decide +kernel)
theorem dX3_turnTo_0 : decode cX3_turnTo 0 = .ok (.aload_n 0, 1) := by decide +kernel
theorem dX3_turnTo_1 : decode cX3_turnTo 1 = .ok (.iload_n 1, 1) := by decide +kernel
theorem dX3_turnTo_2 : decode cX3_turnTo 2 = .ok (.putfield 40, 3) := by decide +kernel
theorem dX3_turnTo_5 : decode cX3_turnTo 5 = .ok (.aload_n 0, 1) := by decide +kernel
theorem dX3_turnTo_6 : decode cX3_turnTo 6 = .ok (.iload_n 2, 1) := by decide +kernel
theorem dX3_turnTo_7 : decode cX3_turnTo 7 = .ok (.putfield 44, 3) := by decide +kernel
theorem dX3_turnTo_10 : decode cX3_turnTo 10 = .ok (.aload_n 0, 1) := by decide +kernel
theorem dX3_turnTo_11 : decode cX3_turnTo 11 = .ok (.iconst (-1), 1) := by decide +kernel
theorem dX3_turnTo_12 : decode cX3_turnTo 12 = .ok (.putfield 47, 3) := by decide +kernel
theorem dX3_turnTo_15 : decode cX3_turnTo 15 = .ok (.aload_n 0, 1) := by decide +kernel
theorem dX3_turnTo_16 : decode cX3_turnTo 16 = .ok (.getfield 20, 3) := by decide +kernel
theorem dX3_turnTo_19 : decode cX3_turnTo 19 = .ok (.lconst 0, 1) := by decide +kernel
theorem dX3_turnTo_20 : decode cX3_turnTo 20 = .ok (.invokestatic 50, 3) := by decide +kernel
theorem dX3_turnTo_23 : decode cX3_turnTo 23 = .ok (.aload_n 0, 1) := by decide +kernel
theorem dX3_turnTo_24 : decode cX3_turnTo 24 = .ok (.getfield 24, 3) := by decide +kernel
theorem dX3_turnTo_27 : decode cX3_turnTo 27 = .ok (.lconst 0, 1) := by decide +kernel
theorem dX3_turnTo_28 : decode cX3_turnTo 28 = .ok (.invokestatic 50, 3) := by decide +kernel
theorem dX3_turnTo_31 : decode cX3_turnTo 31 = .ok (.return_, 1) := by decide +kernel
abbrev z_X3_turnTo : List Cond := .code yX3_turnTo cX3_turnTo 3 none :: zW
abbrev wl_X3_turnTo (ad : Nat → Nat) (cs : Nat → ClassId)  (inq_day : Int32) (inq_land : Int32) (inq_shoeLeftOut : Int32) (inq_judgedShoes : Nat → Int64) (inq_bindingShoes : Nat → Int64) : va_W := [((ad 15), .inr (3, [.ref (ad 4), .ref (ad 16), .ref (ad 17), .ref (ad 18), .ref (ad 19), .ref (ad 20), .ref (ad 21), .ref (ad 22), .int inq_day, .int inq_land, .int inq_shoeLeftOut])), ((ad 18), .inl (cs 1, 7, .inr (.inl inq_judgedShoes))), ((ad 19), .inl (cs 1, 7, .inr (.inl inq_bindingShoes)))]
def Q_X3_turnTo (D : va_G) (cs : Nat → ClassId) (ad : Nat → Nat)   (A : Nat → Prop) (R : Int32 × Int32 × Int32 × (Nat → Int64) × (Nat → Int64)) : Array Value → State → Outcome → State → Prop :=
  va_Qv (fun u : Int32 × Int32 × Int32 × (Nat → Int64) × (Nat → Int64) => u = R) (fun (u : Int32 × Int32 × Int32 × (Nat → Int64) × (Nat → Int64)) (t : State) => va_P D classes (wl_X3_turnTo ad cs u.1 u.2.1 u.2.2.1 u.2.2.2.1 u.2.2.2.2) t.heap ∧ va_D A (wl_X3_turnTo ad cs u.1 u.2.1 u.2.2.1 u.2.2.2.1 u.2.2.2.2)) A
abbrev rm_X3_turnTo : Room := { frames := 1, cells := 0, slots := 0, locals := 24 }
theorem g_X3_50 : GoodIn zW (va_wsS RX3 50 yJ7_fill_d0a16 z_J7_fill_d0a16) := zGS kw_807 kw_808 kw_92 kw_809
def B_X3_turnTo_0     (x1 : Int32) (x2 : Int32) (inq_day : Int32) (inq_land : Int32) (inq_shoeLeftOut : Int32) (inq_judgedShoes : Nat → Int64) (inq_bindingShoes : Nat → Int64) : Option (Int32 × Int32 × Int32 × (Nat → Int64) × (Nat → Int64)) :=
  (zk_b1 (f_J7_fill_d0a16 4000 (0 : Int64) inq_judgedShoes 7) (fun u_1 => (zk_b1 (f_J7_fill_d0a16 4000 (0 : Int64) inq_bindingShoes 7) (fun u_3 => (some (x1, x2, (-1 : Int32), u_1, u_3))))))
def f_X3_turnTo   (x1 : Int32) (x2 : Int32) (inq_day : Int32) (inq_land : Int32) (inq_shoeLeftOut : Int32) (inq_judgedShoes : Nat → Int64) (inq_bindingShoes : Nat → Int64) : Option (Int32 × Int32 × Int32 × (Nat → Int64) × (Nat → Int64)) := B_X3_turnTo_0    x1 x2 inq_day inq_land inq_shoeLeftOut inq_judgedShoes inq_bindingShoes
set_option maxHeartbeats 4000000 in
set_option maxRecDepth 100000 in
theorem L_X3_turnTo_0 {p : Program} {l : Launch} {e : Env} {s : State} {m : MethodId} {args : Array Value} {below : List Frame} {meth : Method} {c : Code} {A : Nat → Prop} {D : va_G} {cs : Nat → ClassId} {ad : Nat → Nat} {R : Int32 × Int32 × Int32 × (Nat → Int64) × (Nat → Int64)} (C0 : zC p s m args meth c cX3_turnTo 3 none RX3 zW) (hK : va_K D classes (zT cs) s) (hA : ∀ q : Nat, s.heap.size ≤ q → A q) (x1 : Int32) (x2 : Int32) (inq_day : Int32) (inq_land : Int32) (inq_shoeLeftOut : Int32) (inq_judgedShoes : Nat → Int64) (inq_bindingShoes : Nat → Int64) (h : B_X3_turnTo_0 x1 x2 inq_day inq_land inq_shoeLeftOut inq_judgedShoes inq_bindingShoes = some R) (H : Heap) (locs : List Loc) (ls : Array Slot) (hP : va_P D classes (wl_X3_turnTo ad cs inq_day inq_land inq_shoeLeftOut inq_judgedShoes inq_bindingShoes) H) (hD : va_D A (wl_X3_turnTo ad cs inq_day inq_land inq_shoeLeftOut inq_judgedShoes inq_bindingShoes)) (hS : va_S A s.heap H locs) (hl : lv_has ls 3 [(0, .ref (ad 15)), (1, .int x1), (2, .int x2)]) : W p l e rm_X3_turnTo s m args below meth c H locs 0 0 (MQ below (Q_X3_turnTo D cs ad  A R) args s 0 0 A) (F0 m 0 ls []) := by
  obtain ⟨hx, hb, hr, hml, hown, ht, hlocks⟩ := id C0
  refine lv_aload_n hx hb dX3_turnTo_0 rfl (lv_at hl 0 rfl) ?_
  refine lv_iload_n hx hb dX3_turnTo_1 rfl (lv_at hl 1 rfl) ?_
  refine va_put (D := D) (ci := 3) (v := .int x1) (ty := .int) (C := RX3) (T := TX3) (N := 11) hx hb ht iX3 tyX3 tyX3_ok nmX3 hown hK hP hD hS 0 rfl rfl 8 (by decide) (ht _ kw_201) (fun _ h9 => h9) rfl (by decide +kernel) rfl rfl (Nat.le_of_ble_eq_true rfl) dX3_turnTo_2 (fun H locs hP hD hS => ?_)
  have hP : va_P D classes (wl_X3_turnTo ad cs x1 inq_land inq_shoeLeftOut inq_judgedShoes inq_bindingShoes) H := hP
  have hD : va_D A (wl_X3_turnTo ad cs x1 inq_land inq_shoeLeftOut inq_judgedShoes inq_bindingShoes) := hD
  refine lv_aload_n hx hb dX3_turnTo_5 rfl (lv_at hl 0 rfl) ?_
  refine lv_iload_n hx hb dX3_turnTo_6 rfl (lv_at hl 2 rfl) ?_
  refine va_put (D := D) (ci := 3) (v := .int x2) (ty := .int) (C := RX3) (T := TX3) (N := 11) hx hb ht iX3 tyX3 tyX3_ok nmX3 hown hK hP hD hS 0 rfl rfl 9 (by decide) (ht _ kw_202) (fun _ h9 => h9) rfl (by decide +kernel) rfl rfl (Nat.le_of_ble_eq_true rfl) dX3_turnTo_7 (fun H locs hP hD hS => ?_)
  have hP : va_P D classes (wl_X3_turnTo ad cs x1 x2 inq_shoeLeftOut inq_judgedShoes inq_bindingShoes) H := hP
  have hD : va_D A (wl_X3_turnTo ad cs x1 x2 inq_shoeLeftOut inq_judgedShoes inq_bindingShoes) := hD
  refine lv_aload_n hx hb dX3_turnTo_10 rfl (lv_at hl 0 rfl) ?_
  refine lv_iconst (v := (-1 : Int32)) hx hb dX3_turnTo_11 (by decide) ?_
  refine va_put (D := D) (ci := 3) (v := .int (-1 : Int32)) (ty := .int) (C := RX3) (T := TX3) (N := 11) hx hb ht iX3 tyX3 tyX3_ok nmX3 hown hK hP hD hS 0 rfl rfl 10 (by decide) (ht _ kw_204) (fun _ h9 => h9) rfl (by decide +kernel) rfl rfl (Nat.le_of_ble_eq_true rfl) dX3_turnTo_12 (fun H locs hP hD hS => ?_)
  have hP : va_P D classes (wl_X3_turnTo ad cs x1 x2 (-1 : Int32) inq_judgedShoes inq_bindingShoes) H := hP
  have hD : va_D A (wl_X3_turnTo ad cs x1 x2 (-1 : Int32) inq_judgedShoes inq_bindingShoes) := hD
  refine lv_aload_n hx hb dX3_turnTo_15 rfl (lv_at hl 0 rfl) ?_
  refine va_get (D := D) (ci := 3) (v := .ref (ad 18)) (C := RX3) (T := TX3) (N := 11) hx hb ht iX3 hown hK hP 0 rfl rfl 3 (by decide) (ht _ kw_195) (fun _ h9 => h9) rfl dX3_turnTo_16 ?_
  refine lv_lconst (v := (0 : Int64)) hx hb dX3_turnTo_19 (by decide) ?_
  obtain ⟨u_1, hc_2, h⟩ := zk_o1 h
  refine zk_sv (post := (fun u => u = u_1)) (w1 := fun u => (wl_J7_fill_d0a16 ad cs (ad 18) u 7)) (As := [.ref (ad 18), .long (0 : Int64)]) (rest := []) (c_J7_fill_d0a16 l D cs ad (ad 18) H.size 4000 (0 : Int64) inq_judgedShoes 7 _ hc_2) ⟨hx, hb, hml, hown, ht⟩ (va_cwS 2 ht g_X3_50 rfl rfl rfl (by decide +kernel) ⟨Nat.le_of_ble_eq_true rfl, Nat.le_of_ble_eq_true rfl⟩) hP hD hS hK hA [1] [0, 2] rfl rfl rfl rfl (by decide) rfl hl.1 (Nat.le_of_ble_eq_true rfl) dX3_turnTo_20 ⟨Nat.zero_le _, Nat.zero_le _⟩ (fun u H locs hq hP hD hS => ?_)
  cases hq
  have hP : va_P D classes (wl_X3_turnTo ad cs x1 x2 (-1 : Int32) u_1 inq_bindingShoes) H := hP.sub [0, 2, 1] rfl
  have hD : va_D A (wl_X3_turnTo ad cs x1 x2 (-1 : Int32) u_1 inq_bindingShoes) := hD.sub [0, 2, 1] rfl rfl
  refine lv_aload_n hx hb dX3_turnTo_23 rfl (lv_at hl 0 rfl) ?_
  refine va_get (D := D) (ci := 3) (v := .ref (ad 19)) (C := RX3) (T := TX3) (N := 11) hx hb ht iX3 hown hK hP 0 rfl rfl 4 (by decide) (ht _ kw_196) (fun _ h9 => h9) rfl dX3_turnTo_24 ?_
  refine lv_lconst (v := (0 : Int64)) hx hb dX3_turnTo_27 (by decide) ?_
  obtain ⟨u_3, hc_4, h⟩ := zk_o1 h
  refine zk_sv (post := (fun u => u = u_3)) (w1 := fun u => (wl_J7_fill_d0a16 ad cs (ad 19) u 7)) (As := [.ref (ad 19), .long (0 : Int64)]) (rest := []) (c_J7_fill_d0a16 l D cs ad (ad 19) H.size 4000 (0 : Int64) inq_bindingShoes 7 _ hc_4) ⟨hx, hb, hml, hown, ht⟩ (va_cwS 2 ht g_X3_50 rfl rfl rfl (by decide +kernel) ⟨Nat.le_of_ble_eq_true rfl, Nat.le_of_ble_eq_true rfl⟩) hP hD hS hK hA [2] [0, 1] rfl rfl rfl rfl (by decide) rfl hl.1 (Nat.le_of_ble_eq_true rfl) dX3_turnTo_28 ⟨Nat.zero_le _, Nat.zero_le _⟩ (fun u H locs hq hP hD hS => ?_)
  cases hq
  have hP : va_P D classes (wl_X3_turnTo ad cs x1 x2 (-1 : Int32) u_1 u_3) H := hP.sub [0, 1, 2] rfl
  have hD : va_D A (wl_X3_turnTo ad cs x1 x2 (-1 : Int32) u_1 u_3) := hD.sub [0, 1, 2] rfl rfl
  exact W.vret hx hb hr (fun t ht2 hW => ⟨⟨(x1, x2, (-1 : Int32), u_1, u_3), rfl, Option.some.inj h, by rw [ht2]; exact hP, hD⟩, hS.F ht2⟩) hS.2.2 dX3_turnTo_31 hlocks
set_option maxHeartbeats 4000000 in
set_option maxRecDepth 100000 in
theorem c_X3_turnTo (l : Launch) (D : va_G) (cs : Nat → ClassId) (ad : Nat → Nat) (sz : Nat) (x1 : Int32) (x2 : Int32) (inq_day : Int32) (inq_land : Int32) (inq_shoeLeftOut : Int32) (inq_judgedShoes : Nat → Int64) (inq_bindingShoes : Nat → Int64) (R : Int32 × Int32 × Int32 × (Nat → Int64) × (Nat → Int64)) (h : f_X3_turnTo   x1 x2 inq_day inq_land inq_shoeLeftOut inq_judgedShoes inq_bindingShoes = some R) : Met l yX3_turnTo (z_X3_turnTo) rm_X3_turnTo (va_Pc [.ref (ad 15), .int x1, .int x2] (zPre D cs (wl_X3_turnTo ad cs inq_day inq_land inq_shoeLeftOut inq_judgedShoes inq_bindingShoes) sz)) (Q_X3_turnTo D cs ad  (va_A (wl_X3_turnTo ad cs inq_day inq_land inq_shoeLeftOut inq_judgedShoes inq_bindingShoes) sz) R) 0 0 (va_A (wl_X3_turnTo ad cs inq_day inq_land inq_shoeLeftOut inq_judgedShoes inq_bindingShoes) sz) := by
  refine Met.ofW (cc := cX3_turnTo) (maxL := 3) (ret := none) (by decide) rfl ?_
  intro p e s m args below meth c s₁ B hml hv
  obtain ⟨rfl, hsz, hP, hK, hD0⟩ := hv
  subst hsz
  have hD := hD0.self (sz := s.heap.size)
  have C0 : zC p s m _ meth c cX3_turnTo 3 none RX3 zW := ⟨B.exec, B.bytes, B.returns, hml, findClass_of_methodNamed B.named, fun w hw => atoms_spec (ws := z_X3_turnTo) B.pre w (List.mem_cons_of_mem _ hw), B.notSynchronized⟩
  have hA : ∀ q : Nat, s.heap.size ≤ q → va_A (wl_X3_turnTo ad cs inq_day inq_land inq_shoeLeftOut inq_judgedShoes inq_bindingShoes) s.heap.size q := fun q h => Or.inr h
  have hl := lv_entry ([.ref (ad 15), .int x1, .int x2]) (n := 3) (Nat.le_of_ble_eq_true rfl)
  rw [lg_entry_eq]
  generalize (lg_sl ([.ref (ad 15), .int x1, .int x2]) ++ List.replicate (3 - (lg_sl ([.ref (ad 15), .int x1, .int x2])).length) Slot.unset).toArray = ls at hl ⊢
  exact L_X3_turnTo_0 C0 hK hA   x1 x2 inq_day inq_land inq_shoeLeftOut inq_judgedShoes inq_bindingShoes h s.heap [] ls hP hD va_S.rf hl
theorem kw_683 : Cond.fieldLink RX6 19 "AlreadyJudged$Place" "size" "I" ∈ zW := zwI (i := 683) (by decide +kernel) (by decide +kernel)
theorem dX6_hasRange_0 : decode cX6_hasRange 0 = .ok (.iload_n 1, 1) := by decide +kernel
theorem dX6_hasRange_1 : decode cX6_hasRange 1 = .ok (.ifCond .lt 29, 3) := by decide +kernel
theorem dX6_hasRange_4 : decode cX6_hasRange 4 = .ok (.iload_n 2, 1) := by decide +kernel
theorem dX6_hasRange_5 : decode cX6_hasRange 5 = .ok (.ifCond .lt 25, 3) := by decide +kernel
theorem dX6_hasRange_8 : decode cX6_hasRange 8 = .ok (.iload_n 1, 1) := by decide +kernel
theorem dX6_hasRange_9 : decode cX6_hasRange 9 = .ok (.aload_n 0, 1) := by decide +kernel
theorem dX6_hasRange_10 : decode cX6_hasRange 10 = .ok (.getfield 19, 3) := by decide +kernel
theorem dX6_hasRange_13 : decode cX6_hasRange 13 = .ok (.if_icmp .gt 17, 3) := by decide +kernel
theorem dX6_hasRange_16 : decode cX6_hasRange 16 = .ok (.iload_n 2, 1) := by decide +kernel
theorem dX6_hasRange_17 : decode cX6_hasRange 17 = .ok (.aload_n 0, 1) := by decide +kernel
theorem dX6_hasRange_18 : decode cX6_hasRange 18 = .ok (.getfield 19, 3) := by decide +kernel
theorem dX6_hasRange_21 : decode cX6_hasRange 21 = .ok (.iload_n 1, 1) := by decide +kernel
theorem dX6_hasRange_22 : decode cX6_hasRange 22 = .ok (.isub, 1) := by decide +kernel
theorem dX6_hasRange_23 : decode cX6_hasRange 23 = .ok (.if_icmp .gt 7, 3) := by decide +kernel
theorem dX6_hasRange_26 : decode cX6_hasRange 26 = .ok (.iconst 1, 1) := by decide +kernel
theorem dX6_hasRange_27 : decode cX6_hasRange 27 = .ok (.goto 4, 3) := by decide +kernel
theorem dX6_hasRange_30 : decode cX6_hasRange 30 = .ok (.iconst 0, 1) := by decide +kernel
theorem dX6_hasRange_31 : decode cX6_hasRange 31 = .ok (.ireturn, 1) := by decide +kernel
abbrev z_X6_hasRange : List Cond := .code yX6_hasRange cX6_hasRange 3 (some .boolean) :: zW
abbrev wl_X6_hasRange (ad : Nat → Nat) (cs : Nat → ClassId) (h_pl : Nat) (h_pl_elements : Nat) (pl_holds : Int32) (pl_suit : Int32) (pl_size : Int32) : va_W := [(h_pl, .inr (6, [.int pl_holds, .int pl_suit, .int pl_size, .ref h_pl_elements]))]
def Q_X6_hasRange (D : va_G) (cs : Nat → ClassId) (ad : Nat → Nat) (h_pl : Nat) (h_pl_elements : Nat) (pl_holds : Int32) (pl_suit : Int32) (pl_size : Int32) (A : Nat → Prop) (R : Int32 × Unit) : Array Value → State → Outcome → State → Prop :=
  va_Qi (fun (r : Int32) (u : Unit) => (r, u) = R) (fun (u : Unit) (t : State) => va_P D classes (wl_X6_hasRange ad cs h_pl h_pl_elements pl_holds pl_suit pl_size) t.heap ∧ va_D A (wl_X6_hasRange ad cs h_pl h_pl_elements pl_holds pl_suit pl_size)) A
abbrev rm_X6_hasRange : Room := { frames := 0, cells := 0, slots := 0, locals := 0 }
def B_X6_hasRange_0    (pl_holds : Int32) (pl_suit : Int32) (pl_size : Int32) (x1 : Int32) (x2 : Int32) : Option (Int32 × Unit) :=
  (if x1 < 0 then (some ((0 : Int32), ())) else (if x2 < 0 then (some ((0 : Int32), ())) else (if pl_size < x1 then (some ((0 : Int32), ())) else (if (pl_size - x1) < x2 then (some ((0 : Int32), ())) else (some ((1 : Int32), ()))))))
def f_X6_hasRange   (x1 : Int32) (x2 : Int32) (pl_holds : Int32) (pl_suit : Int32) (pl_size : Int32) : Option (Int32 × Unit) := B_X6_hasRange_0   pl_holds pl_suit pl_size x1 x2 
set_option maxHeartbeats 4000000 in
set_option maxRecDepth 100000 in
theorem L_X6_hasRange_0 {p : Program} {l : Launch} {e : Env} {s : State} {m : MethodId} {args : Array Value} {below : List Frame} {meth : Method} {c : Code} {A : Nat → Prop} {D : va_G} {cs : Nat → ClassId} {ad : Nat → Nat} {h_pl : Nat} {h_pl_elements : Nat} {pl_holds : Int32} {pl_suit : Int32} {pl_size : Int32} {R : Int32 × Unit} (C0 : zC p s m args meth c cX6_hasRange 3 (some .boolean) RX6 zW) (hK : va_K D classes (zT cs) s) (hA : ∀ q : Nat, s.heap.size ≤ q → A q) (x1 : Int32) (x2 : Int32) (h : B_X6_hasRange_0 pl_holds pl_suit pl_size x1 x2 = some R) (H : Heap) (locs : List Loc) (ls : Array Slot) (hP : va_P D classes (wl_X6_hasRange ad cs h_pl h_pl_elements pl_holds pl_suit pl_size) H) (hD : va_D A (wl_X6_hasRange ad cs h_pl h_pl_elements pl_holds pl_suit pl_size)) (hS : va_S A s.heap H locs) (hl : lv_has ls 3 [(0, .ref h_pl), (1, .int x1), (2, .int x2)]) : W p l e rm_X6_hasRange s m args below meth c H locs 0 0 (MQ below (Q_X6_hasRange D cs ad h_pl h_pl_elements pl_holds pl_suit pl_size A R) args s 0 0 A) (F0 m 0 ls []) := by
  obtain ⟨hx, hb, hr, hml, hown, ht, hlocks⟩ := id C0
  refine lv_iload_n hx hb dX6_hasRange_0 rfl (lv_at hl 1 rfl) ?_
  refine lv_if_lt (tgt := 30) hx hb dX6_hasRange_1 (by decide) (fun c_1 => ?_) (fun c_1 => ?_)
  · have h := zk_t c_1 h
    refine lv_iconst (v := (0 : Int32)) hx hb dX6_hasRange_30 (by decide) ?_
    exact W.zret (ty := .boolean) (v := (0 : Int32)) hx hb hr rfl (fun t ht2 hW => ⟨⟨(0 : Int32), (), rfl, Option.some.inj h, by rw [ht2]; exact hP, hD⟩, hS.F ht2⟩) hS.2.2 dX6_hasRange_31 hlocks
  · have h := zk_f c_1 h
    refine lv_iload_n hx hb dX6_hasRange_4 rfl (lv_at hl 2 rfl) ?_
    refine lv_if_lt (tgt := 30) hx hb dX6_hasRange_5 (by decide) (fun c_2 => ?_) (fun c_2 => ?_)
    · have h := zk_t c_2 h
      refine lv_iconst (v := (0 : Int32)) hx hb dX6_hasRange_30 (by decide) ?_
      exact W.zret (ty := .boolean) (v := (0 : Int32)) hx hb hr rfl (fun t ht2 hW => ⟨⟨(0 : Int32), (), rfl, Option.some.inj h, by rw [ht2]; exact hP, hD⟩, hS.F ht2⟩) hS.2.2 dX6_hasRange_31 hlocks
    · have h := zk_f c_2 h
      refine lv_iload_n hx hb dX6_hasRange_8 rfl (lv_at hl 1 rfl) ?_
      refine lv_aload_n hx hb dX6_hasRange_9 rfl (lv_at hl 0 rfl) ?_
      refine va_get (D := D) (ci := 6) (v := .int pl_size) (C := RX6) (T := TX6) (N := 4) hx hb ht iX6 hown hK hP 0 rfl rfl 2 (by decide) (ht _ kw_683) (fun _ h9 => h9) rfl dX6_hasRange_10 ?_
      refine lv_icmp_gt (tgt := 30) hx hb dX6_hasRange_13 (by decide) (fun c_3 => ?_) (fun c_3 => ?_)
      · have h := zk_t c_3 h
        refine lv_iconst (v := (0 : Int32)) hx hb dX6_hasRange_30 (by decide) ?_
        exact W.zret (ty := .boolean) (v := (0 : Int32)) hx hb hr rfl (fun t ht2 hW => ⟨⟨(0 : Int32), (), rfl, Option.some.inj h, by rw [ht2]; exact hP, hD⟩, hS.F ht2⟩) hS.2.2 dX6_hasRange_31 hlocks
      · have h := zk_f c_3 h
        refine lv_iload_n hx hb dX6_hasRange_16 rfl (lv_at hl 2 rfl) ?_
        refine lv_aload_n hx hb dX6_hasRange_17 rfl (lv_at hl 0 rfl) ?_
        refine va_get (D := D) (ci := 6) (v := .int pl_size) (C := RX6) (T := TX6) (N := 4) hx hb ht iX6 hown hK hP 0 rfl rfl 2 (by decide) (ht _ kw_683) (fun _ h9 => h9) rfl dX6_hasRange_18 ?_
        refine lv_iload_n hx hb dX6_hasRange_21 rfl (lv_at hl 1 rfl) ?_
        refine lv_isub hx hb dX6_hasRange_22 ?_
        refine lv_icmp_gt (tgt := 30) hx hb dX6_hasRange_23 (by decide) (fun c_4 => ?_) (fun c_4 => ?_)
        · have h := zk_t c_4 h
          refine lv_iconst (v := (0 : Int32)) hx hb dX6_hasRange_30 (by decide) ?_
          exact W.zret (ty := .boolean) (v := (0 : Int32)) hx hb hr rfl (fun t ht2 hW => ⟨⟨(0 : Int32), (), rfl, Option.some.inj h, by rw [ht2]; exact hP, hD⟩, hS.F ht2⟩) hS.2.2 dX6_hasRange_31 hlocks
        · have h := zk_f c_4 h
          refine lv_iconst (v := (1 : Int32)) hx hb dX6_hasRange_26 (by decide) ?_
          refine lv_goto (tgt := 31) hx hb dX6_hasRange_27 (by decide) ?_
          exact W.zret (ty := .boolean) (v := (1 : Int32)) hx hb hr rfl (fun t ht2 hW => ⟨⟨(1 : Int32), (), rfl, Option.some.inj h, by rw [ht2]; exact hP, hD⟩, hS.F ht2⟩) hS.2.2 dX6_hasRange_31 hlocks
set_option maxHeartbeats 4000000 in
set_option maxRecDepth 100000 in
theorem c_X6_hasRange (l : Launch) (D : va_G) (cs : Nat → ClassId) (ad : Nat → Nat) (h_pl : Nat) (h_pl_elements : Nat) (sz : Nat) (x1 : Int32) (x2 : Int32) (pl_holds : Int32) (pl_suit : Int32) (pl_size : Int32) (R : Int32 × Unit) (h : f_X6_hasRange   x1 x2 pl_holds pl_suit pl_size = some R) : Met l yX6_hasRange (z_X6_hasRange) rm_X6_hasRange (va_Pc [.ref h_pl, .int x1, .int x2] (zPre D cs (wl_X6_hasRange ad cs h_pl h_pl_elements pl_holds pl_suit pl_size) sz)) (Q_X6_hasRange D cs ad h_pl h_pl_elements pl_holds pl_suit pl_size (va_A (wl_X6_hasRange ad cs h_pl h_pl_elements pl_holds pl_suit pl_size) sz) R) 0 0 (va_A (wl_X6_hasRange ad cs h_pl h_pl_elements pl_holds pl_suit pl_size) sz) := by
  refine Met.ofW (cc := cX6_hasRange) (maxL := 3) (ret := (some .boolean)) (by decide) rfl ?_
  intro p e s m args below meth c s₁ B hml hv
  obtain ⟨rfl, hsz, hP, hK, hD0⟩ := hv
  subst hsz
  have hD := hD0.self (sz := s.heap.size)
  have C0 : zC p s m _ meth c cX6_hasRange 3 (some .boolean) RX6 zW := ⟨B.exec, B.bytes, B.returns, hml, findClass_of_methodNamed B.named, fun w hw => atoms_spec (ws := z_X6_hasRange) B.pre w (List.mem_cons_of_mem _ hw), B.notSynchronized⟩
  have hA : ∀ q : Nat, s.heap.size ≤ q → va_A (wl_X6_hasRange ad cs h_pl h_pl_elements pl_holds pl_suit pl_size) s.heap.size q := fun q h => Or.inr h
  have hl := lv_entry ([.ref h_pl, .int x1, .int x2]) (n := 3) (Nat.le_of_ble_eq_true rfl)
  rw [lg_entry_eq]
  generalize (lg_sl ([.ref h_pl, .int x1, .int x2]) ++ List.replicate (3 - (lg_sl ([.ref h_pl, .int x1, .int x2])).length) Slot.unset).toArray = ls at hl ⊢
  exact L_X6_hasRange_0 C0 hK hA   x1 x2  h s.heap [] ls hP hD va_S.rf hl
