theorem kw_111 : Cond.methodLink RX2 3 objectInit ∈ zW := zwI (i := 111) (by decide +kernel) (by decide +kernel)
theorem kw_112 : Cond.classLink RX2 36 "AlreadyJudged$Suit" ∈ zW := zwI (i := 112) (by decide +kernel) (by decide +kernel)
theorem kw_114 : Cond.classLink RX2 42 "AlreadyJudged$Law" ∈ zW := zwI (i := 114) (by decide +kernel) (by decide +kernel)
theorem kw_116 : Cond.fieldLink RX2 9 "AlreadyJudged$Court" "shoePerson" "[I" ∈ zW := zwI (i := 116) (by decide +kernel) (by decide +kernel)
theorem kw_119 : Cond.fieldLink RX2 15 "AlreadyJudged$Court" "shoeOther" "[I" ∈ zW := zwI (i := 119) (by decide +kernel) (by decide +kernel)
theorem kw_122 : Cond.fieldLink RX2 18 "AlreadyJudged$Court" "shoeSort" "[I" ∈ zW := zwI (i := 122) (by decide +kernel) (by decide +kernel)
theorem kw_125 : Cond.fieldLink RX2 21 "AlreadyJudged$Court" "shoeDay" "[I" ∈ zW := zwI (i := 125) (by decide +kernel) (by decide +kernel)
theorem kw_129 : Cond.fieldLink RX2 24 "AlreadyJudged$Court" "claimWho" "[I" ∈ zW := zwI (i := 129) (by decide +kernel) (by decide +kernel)
theorem kw_133 : Cond.fieldLink RX2 27 "AlreadyJudged$Court" "claimAgainst" "[I" ∈ zW := zwI (i := 133) (by decide +kernel) (by decide +kernel)
theorem kw_137 : Cond.fieldLink RX2 30 "AlreadyJudged$Court" "claimFact" "[I" ∈ zW := zwI (i := 137) (by decide +kernel) (by decide +kernel)
theorem kw_140 : Cond.fieldLink RX2 33 "AlreadyJudged$Court" "claimPlea" "[I" ∈ zW := zwI (i := 140) (by decide +kernel) (by decide +kernel)
theorem kw_143 : Cond.fieldLink RX2 38 "AlreadyJudged$Court" "suits" "[LAlreadyJudged$Suit;" ∈ zW := zwI (i := 143) (by decide +kernel) (by decide +kernel)
theorem kw_145 : Cond.fieldLink RX2 44 "AlreadyJudged$Court" "laws" "[LAlreadyJudged$Law;" ∈ zW := zwI (i := 145) (by decide +kernel) (by decide +kernel)
theorem dX2_init_0 : decode cX2_init 0 = .ok (.aload_n 0, 1) := by decide +kernel
theorem dX2_init_1 : decode cX2_init 1 = .ok (.invokespecial 3, 3) := by decide +kernel
theorem dX2_init_4 : decode cX2_init 4 = .ok (.aload_n 0, 1) := by decide +kernel
theorem dX2_init_5 : decode cX2_init 5 = .ok (.bipush 40, 2) := by decide +kernel
theorem dX2_init_7 : decode cX2_init 7 = .ok (.newarray .int, 2) := by decide +kernel
theorem dX2_init_9 : decode cX2_init 9 = .ok (.putfield 9, 3) := by decide +kernel
theorem dX2_init_12 : decode cX2_init 12 = .ok (.aload_n 0, 1) := by decide +kernel
theorem dX2_init_13 : decode cX2_init 13 = .ok (.bipush 40, 2) := by decide +kernel
theorem dX2_init_15 : decode cX2_init 15 = .ok (.newarray .int, 2) := by decide +kernel
theorem dX2_init_17 : decode cX2_init 17 = .ok (.putfield 15, 3) := by decide +kernel
theorem dX2_init_20 : decode cX2_init 20 = .ok (.aload_n 0, 1) := by decide +kernel
theorem dX2_init_21 : decode cX2_init 21 = .ok (.bipush 40, 2) := by decide +kernel
theorem dX2_init_23 : decode cX2_init 23 = .ok (.newarray .int, 2) := by decide +kernel
theorem dX2_init_25 : decode cX2_init 25 = .ok (.putfield 18, 3) := by decide +kernel
theorem dX2_init_28 : decode cX2_init 28 = .ok (.aload_n 0, 1) := by decide +kernel
theorem dX2_init_29 : decode cX2_init 29 = .ok (.bipush 40, 2) := by decide +kernel
theorem dX2_init_31 : decode cX2_init 31 = .ok (.newarray .int, 2) := by decide +kernel
theorem dX2_init_33 : decode cX2_init 33 = .ok (.putfield 21, 3) := by decide +kernel
theorem dX2_init_36 : decode cX2_init 36 = .ok (.aload_n 0, 1) := by decide +kernel
theorem dX2_init_37 : decode cX2_init 37 = .ok (.bipush 32, 2) := by decide +kernel
theorem dX2_init_39 : decode cX2_init 39 = .ok (.newarray .int, 2) := by decide +kernel
theorem dX2_init_41 : decode cX2_init 41 = .ok (.putfield 24, 3) := by decide +kernel
theorem dX2_init_44 : decode cX2_init 44 = .ok (.aload_n 0, 1) := by decide +kernel
theorem dX2_init_45 : decode cX2_init 45 = .ok (.bipush 32, 2) := by decide +kernel
theorem dX2_init_47 : decode cX2_init 47 = .ok (.newarray .int, 2) := by decide +kernel
theorem dX2_init_49 : decode cX2_init 49 = .ok (.putfield 27, 3) := by decide +kernel
theorem dX2_init_52 : decode cX2_init 52 = .ok (.aload_n 0, 1) := by decide +kernel
theorem dX2_init_53 : decode cX2_init 53 = .ok (.bipush 32, 2) := by decide +kernel
theorem dX2_init_55 : decode cX2_init 55 = .ok (.newarray .int, 2) := by decide +kernel
theorem dX2_init_57 : decode cX2_init 57 = .ok (.putfield 30, 3) := by decide +kernel
theorem dX2_init_60 : decode cX2_init 60 = .ok (.aload_n 0, 1) := by decide +kernel
theorem dX2_init_61 : decode cX2_init 61 = .ok (.bipush 32, 2) := by decide +kernel
theorem dX2_init_63 : decode cX2_init 63 = .ok (.newarray .int, 2) := by decide +kernel
theorem dX2_init_65 : decode cX2_init 65 = .ok (.putfield 33, 3) := by decide +kernel
theorem dX2_init_68 : decode cX2_init 68 = .ok (.aload_n 0, 1) := by decide +kernel
theorem dX2_init_69 : decode cX2_init 69 = .ok (.bipush 40, 2) := by decide +kernel
theorem dX2_init_71 : decode cX2_init 71 = .ok (.anewarray 36, 3) := by decide +kernel
theorem dX2_init_74 : decode cX2_init 74 = .ok (.putfield 38, 3) := by decide +kernel
theorem dX2_init_77 : decode cX2_init 77 = .ok (.aload_n 0, 1) := by decide +kernel
theorem dX2_init_78 : decode cX2_init 78 = .ok (.bipush 32, 2) := by decide +kernel
theorem dX2_init_80 : decode cX2_init 80 = .ok (.anewarray 42, 3) := by decide +kernel
theorem dX2_init_83 : decode cX2_init 83 = .ok (.putfield 44, 3) := by decide +kernel
theorem dX2_init_86 : decode cX2_init 86 = .ok (.return_, 1) := by decide +kernel
abbrev z_X2_init : List Cond := .code yX2_init cX2_init 1 none :: zW
abbrev rm_X2_init : Room := { frames := 1, cells := 10, slots := 360, locals := 20 }
set_option maxHeartbeats 4000000 in
set_option maxRecDepth 100000 in
theorem ci_X2_init (l : Launch) (D : va_G) (cs : Nat → ClassId) (h0 : Nat)  (sz : Nat) : Met l yX2_init z_X2_init rm_X2_init (va_Pc [.ref h0] (zPreO D cs [(h0, .inr (2, [.null, .null, .null, .null, .null, .null, .null, .null, .null, .null, .int 0, .int 0, .int 0]))] sz)) (va_Qv (fun _ : Nat → Nat => True) (fun (u : Nat → Nat) (t : State) => va_P D classes [(h0, .inr (2, [.ref (u 0), .ref (u 1), .ref (u 2), .ref (u 3), .ref (u 4), .ref (u 5), .ref (u 6), .ref (u 7), .ref (u 8), .ref (u 9), .int 0, .int 0, .int 0])), ((u 0), .inl (cs 0, 40, .inl (fun _ => 0))), ((u 1), .inl (cs 0, 40, .inl (fun _ => 0))), ((u 2), .inl (cs 0, 40, .inl (fun _ => 0))), ((u 3), .inl (cs 0, 40, .inl (fun _ => 0))), ((u 4), .inl (cs 0, 32, .inl (fun _ => 0))), ((u 5), .inl (cs 0, 32, .inl (fun _ => 0))), ((u 6), .inl (cs 0, 32, .inl (fun _ => 0))), ((u 7), .inl (cs 0, 32, .inl (fun _ => 0))), ((u 8), .inl (cs 5, 40, .inr (.inr (.inr (.inr (fun _ => none)))))), ((u 9), .inl (cs 6, 32, .inr (.inr (.inr (.inr (fun _ => none))))))] t.heap ∧ va_D (va_A [(h0, .inr (2, [.null, .null, .null, .null, .null, .null, .null, .null, .null, .null, .int 0, .int 0, .int 0]))] sz) [(h0, .inr (2, [.ref (u 0), .ref (u 1), .ref (u 2), .ref (u 3), .ref (u 4), .ref (u 5), .ref (u 6), .ref (u 7), .ref (u 8), .ref (u 9), .int 0, .int 0, .int 0])), ((u 0), .inl (cs 0, 40, .inl (fun _ => 0))), ((u 1), .inl (cs 0, 40, .inl (fun _ => 0))), ((u 2), .inl (cs 0, 40, .inl (fun _ => 0))), ((u 3), .inl (cs 0, 40, .inl (fun _ => 0))), ((u 4), .inl (cs 0, 32, .inl (fun _ => 0))), ((u 5), .inl (cs 0, 32, .inl (fun _ => 0))), ((u 6), .inl (cs 0, 32, .inl (fun _ => 0))), ((u 7), .inl (cs 0, 32, .inl (fun _ => 0))), ((u 8), .inl (cs 5, 40, .inr (.inr (.inr (.inr (fun _ => none)))))), ((u 9), .inl (cs 6, 32, .inr (.inr (.inr (.inr (fun _ => none))))))]) (va_A [(h0, .inr (2, [.null, .null, .null, .null, .null, .null, .null, .null, .null, .null, .int 0, .int 0, .int 0]))] sz)) 10 360 (va_A [(h0, .inr (2, [.null, .null, .null, .null, .null, .null, .null, .null, .null, .null, .int 0, .int 0, .int 0]))] sz) := by
  refine Met.ofW (cc := cX2_init) (maxL := 1) (ret := none) (by decide) rfl ?_
  intro p e s m args below meth c s₁ B hml hv
  obtain ⟨rfl, ⟨hsz, hP, hK, hD0⟩, hO⟩ := hv
  subst hsz
  have hD := hD0.self (sz := s.heap.size)
  have hx := B.exec
  have hb := B.bytes
  have hr := B.returns
  have ht : ∀ w ∈ zW, w.before _ s = true := fun w hw => atoms_spec (ws := z_X2_init) B.pre w (List.mem_cons_of_mem _ hw)
  have hown : s.vm.findClass RX2 = some m.cls := findClass_of_methodNamed B.named
  have hlocks := B.notSynchronized
  have hin : meth.name = "<init>" := (name_of_methodNamed B.named B.method).1
  generalize hAe : va_A [(h0, .inr (2, [.null, .null, .null, .null, .null, .null, .null, .null, .null, .null, .int 0, .int 0, .int 0]))] s.heap.size = A at hD ⊢
  have hA : ∀ q : Nat, s.heap.size ≤ q → A q := fun q h => by rw [← hAe]; exact Or.inr h
  have hS : va_S A s.heap s.heap [] := va_S.rf
  have hl := lv_entry ([.ref h0]) (n := 1) (Nat.le_of_ble_eq_true rfl)
  rw [lg_entry_eq]
  generalize (lg_sl ([.ref h0]) ++ List.replicate (1 - (lg_sl ([.ref h0])).length) Slot.unset).toArray = ls at hl ⊢
  obtain ⟨H, hH⟩ : ∃ H, H = s.heap := ⟨_, rfl⟩
  have hS : va_S A s.heap H [] := by rw [hH]; exact va_S.rf
  rw [← hH]
  have hP : va_P D classes [(h0, .inr (2, [.null, .null, .null, .null, .null, .null, .null, .null, .null, .null, .int 0, .int 0, .int 0]))] H := by rw [hH]; exact hP
  clear hH
  refine lv_aload_n hx hb dX2_init_0 rfl (lv_at hl 0 rfl) ?_
  refine W.objInit hx hb hown (ht _ kw_111) (ht _ kw_104) (ht _ kw_105) rfl (by rw [hml]; exact hl.1) rfl dX2_init_1 (Nat.le_of_ble_eq_true rfl) (Nat.le_of_ble_eq_true rfl) ?_
  refine W.eq (g2 := F0 m 4 ls []) rfl ?_
  refine lv_aload_n hx hb dX2_init_4 rfl (lv_at hl 0 rfl) ?_
  refine lv_bipush (v := (40 : Int32)) hx hb dX2_init_5 (by decide) ?_
  refine zk_newa (atype := .int) (ty := .int) (a0 := (40, .inl (fun _ => 0))) (N' := 40) hx hb (ht _ kw_184) rfl hK 0 rfl (by intro C h; cases h) hP hD hS hA (fun _ => rfl) (by decide) (by decide) (Nat.le_of_ble_eq_true rfl) (Nat.le_of_ble_eq_true rfl) (Nat.le_of_ble_eq_true rfl) dX2_init_7 (fun q_0 H hP hD hS => ?_)
  have hP : va_P D classes [(h0, .inr (2, [.null, .null, .null, .null, .null, .null, .null, .null, .null, .null, .int 0, .int 0, .int 0])), (q_0, .inl (cs 0, 40, .inl (fun _ => 0)))] H := hP
  have hD : va_D A [(h0, .inr (2, [.null, .null, .null, .null, .null, .null, .null, .null, .null, .null, .int 0, .int 0, .int 0])), (q_0, .inl (cs 0, 40, .inl (fun _ => 0)))] := hD
  refine va_putF (D := D) (ci := 2) (v := .ref q_0) (ty := .array .int) (C := RX2) (T := TX2) (N := 13) hx hb ht iX2 tyX2 tyX2_ok nmX2 hown hK hP hD hS 0 rfl rfl 0 (by decide) (ht _ kw_116) (fun _ h9 => h9) rfl hin rfl (by decide +kernel) rfl rfl (Nat.le_of_ble_eq_true rfl) dX2_init_9 (fun H locs hP hD hS => ?_)
  have hP : va_P D classes [(h0, .inr (2, [.ref q_0, .null, .null, .null, .null, .null, .null, .null, .null, .null, .int 0, .int 0, .int 0])), (q_0, .inl (cs 0, 40, .inl (fun _ => 0)))] H := hP
  have hD : va_D A [(h0, .inr (2, [.ref q_0, .null, .null, .null, .null, .null, .null, .null, .null, .null, .int 0, .int 0, .int 0])), (q_0, .inl (cs 0, 40, .inl (fun _ => 0)))] := hD
  refine lv_aload_n hx hb dX2_init_12 rfl (lv_at hl 0 rfl) ?_
  refine lv_bipush (v := (40 : Int32)) hx hb dX2_init_13 (by decide) ?_
  refine zk_newa (atype := .int) (ty := .int) (a0 := (40, .inl (fun _ => 0))) (N' := 40) hx hb (ht _ kw_184) rfl hK 0 rfl (by intro C h; cases h) hP hD hS hA (fun _ => rfl) (by decide) (by decide) (Nat.le_of_ble_eq_true rfl) (Nat.le_of_ble_eq_true rfl) (Nat.le_of_ble_eq_true rfl) dX2_init_15 (fun q_1 H hP hD hS => ?_)
  have hP : va_P D classes [(h0, .inr (2, [.ref q_0, .null, .null, .null, .null, .null, .null, .null, .null, .null, .int 0, .int 0, .int 0])), (q_0, .inl (cs 0, 40, .inl (fun _ => 0))), (q_1, .inl (cs 0, 40, .inl (fun _ => 0)))] H := hP
  have hD : va_D A [(h0, .inr (2, [.ref q_0, .null, .null, .null, .null, .null, .null, .null, .null, .null, .int 0, .int 0, .int 0])), (q_0, .inl (cs 0, 40, .inl (fun _ => 0))), (q_1, .inl (cs 0, 40, .inl (fun _ => 0)))] := hD
  refine va_putF (D := D) (ci := 2) (v := .ref q_1) (ty := .array .int) (C := RX2) (T := TX2) (N := 13) hx hb ht iX2 tyX2 tyX2_ok nmX2 hown hK hP hD hS 0 rfl rfl 1 (by decide) (ht _ kw_119) (fun _ h9 => h9) rfl hin rfl (by decide +kernel) rfl rfl (Nat.le_of_ble_eq_true rfl) dX2_init_17 (fun H locs hP hD hS => ?_)
  have hP : va_P D classes [(h0, .inr (2, [.ref q_0, .ref q_1, .null, .null, .null, .null, .null, .null, .null, .null, .int 0, .int 0, .int 0])), (q_0, .inl (cs 0, 40, .inl (fun _ => 0))), (q_1, .inl (cs 0, 40, .inl (fun _ => 0)))] H := hP
  have hD : va_D A [(h0, .inr (2, [.ref q_0, .ref q_1, .null, .null, .null, .null, .null, .null, .null, .null, .int 0, .int 0, .int 0])), (q_0, .inl (cs 0, 40, .inl (fun _ => 0))), (q_1, .inl (cs 0, 40, .inl (fun _ => 0)))] := hD
  refine lv_aload_n hx hb dX2_init_20 rfl (lv_at hl 0 rfl) ?_
  refine lv_bipush (v := (40 : Int32)) hx hb dX2_init_21 (by decide) ?_
  refine zk_newa (atype := .int) (ty := .int) (a0 := (40, .inl (fun _ => 0))) (N' := 40) hx hb (ht _ kw_184) rfl hK 0 rfl (by intro C h; cases h) hP hD hS hA (fun _ => rfl) (by decide) (by decide) (Nat.le_of_ble_eq_true rfl) (Nat.le_of_ble_eq_true rfl) (Nat.le_of_ble_eq_true rfl) dX2_init_23 (fun q_2 H hP hD hS => ?_)
  have hP : va_P D classes [(h0, .inr (2, [.ref q_0, .ref q_1, .null, .null, .null, .null, .null, .null, .null, .null, .int 0, .int 0, .int 0])), (q_0, .inl (cs 0, 40, .inl (fun _ => 0))), (q_1, .inl (cs 0, 40, .inl (fun _ => 0))), (q_2, .inl (cs 0, 40, .inl (fun _ => 0)))] H := hP
  have hD : va_D A [(h0, .inr (2, [.ref q_0, .ref q_1, .null, .null, .null, .null, .null, .null, .null, .null, .int 0, .int 0, .int 0])), (q_0, .inl (cs 0, 40, .inl (fun _ => 0))), (q_1, .inl (cs 0, 40, .inl (fun _ => 0))), (q_2, .inl (cs 0, 40, .inl (fun _ => 0)))] := hD
  refine va_putF (D := D) (ci := 2) (v := .ref q_2) (ty := .array .int) (C := RX2) (T := TX2) (N := 13) hx hb ht iX2 tyX2 tyX2_ok nmX2 hown hK hP hD hS 0 rfl rfl 2 (by decide) (ht _ kw_122) (fun _ h9 => h9) rfl hin rfl (by decide +kernel) rfl rfl (Nat.le_of_ble_eq_true rfl) dX2_init_25 (fun H locs hP hD hS => ?_)
  have hP : va_P D classes [(h0, .inr (2, [.ref q_0, .ref q_1, .ref q_2, .null, .null, .null, .null, .null, .null, .null, .int 0, .int 0, .int 0])), (q_0, .inl (cs 0, 40, .inl (fun _ => 0))), (q_1, .inl (cs 0, 40, .inl (fun _ => 0))), (q_2, .inl (cs 0, 40, .inl (fun _ => 0)))] H := hP
  have hD : va_D A [(h0, .inr (2, [.ref q_0, .ref q_1, .ref q_2, .null, .null, .null, .null, .null, .null, .null, .int 0, .int 0, .int 0])), (q_0, .inl (cs 0, 40, .inl (fun _ => 0))), (q_1, .inl (cs 0, 40, .inl (fun _ => 0))), (q_2, .inl (cs 0, 40, .inl (fun _ => 0)))] := hD
  refine lv_aload_n hx hb dX2_init_28 rfl (lv_at hl 0 rfl) ?_
  refine lv_bipush (v := (40 : Int32)) hx hb dX2_init_29 (by decide) ?_
  refine zk_newa (atype := .int) (ty := .int) (a0 := (40, .inl (fun _ => 0))) (N' := 40) hx hb (ht _ kw_184) rfl hK 0 rfl (by intro C h; cases h) hP hD hS hA (fun _ => rfl) (by decide) (by decide) (Nat.le_of_ble_eq_true rfl) (Nat.le_of_ble_eq_true rfl) (Nat.le_of_ble_eq_true rfl) dX2_init_31 (fun q_3 H hP hD hS => ?_)
  have hP : va_P D classes [(h0, .inr (2, [.ref q_0, .ref q_1, .ref q_2, .null, .null, .null, .null, .null, .null, .null, .int 0, .int 0, .int 0])), (q_0, .inl (cs 0, 40, .inl (fun _ => 0))), (q_1, .inl (cs 0, 40, .inl (fun _ => 0))), (q_2, .inl (cs 0, 40, .inl (fun _ => 0))), (q_3, .inl (cs 0, 40, .inl (fun _ => 0)))] H := hP
  have hD : va_D A [(h0, .inr (2, [.ref q_0, .ref q_1, .ref q_2, .null, .null, .null, .null, .null, .null, .null, .int 0, .int 0, .int 0])), (q_0, .inl (cs 0, 40, .inl (fun _ => 0))), (q_1, .inl (cs 0, 40, .inl (fun _ => 0))), (q_2, .inl (cs 0, 40, .inl (fun _ => 0))), (q_3, .inl (cs 0, 40, .inl (fun _ => 0)))] := hD
  refine va_putF (D := D) (ci := 2) (v := .ref q_3) (ty := .array .int) (C := RX2) (T := TX2) (N := 13) hx hb ht iX2 tyX2 tyX2_ok nmX2 hown hK hP hD hS 0 rfl rfl 3 (by decide) (ht _ kw_125) (fun _ h9 => h9) rfl hin rfl (by decide +kernel) rfl rfl (Nat.le_of_ble_eq_true rfl) dX2_init_33 (fun H locs hP hD hS => ?_)
  have hP : va_P D classes [(h0, .inr (2, [.ref q_0, .ref q_1, .ref q_2, .ref q_3, .null, .null, .null, .null, .null, .null, .int 0, .int 0, .int 0])), (q_0, .inl (cs 0, 40, .inl (fun _ => 0))), (q_1, .inl (cs 0, 40, .inl (fun _ => 0))), (q_2, .inl (cs 0, 40, .inl (fun _ => 0))), (q_3, .inl (cs 0, 40, .inl (fun _ => 0)))] H := hP
  have hD : va_D A [(h0, .inr (2, [.ref q_0, .ref q_1, .ref q_2, .ref q_3, .null, .null, .null, .null, .null, .null, .int 0, .int 0, .int 0])), (q_0, .inl (cs 0, 40, .inl (fun _ => 0))), (q_1, .inl (cs 0, 40, .inl (fun _ => 0))), (q_2, .inl (cs 0, 40, .inl (fun _ => 0))), (q_3, .inl (cs 0, 40, .inl (fun _ => 0)))] := hD
  refine lv_aload_n hx hb dX2_init_36 rfl (lv_at hl 0 rfl) ?_
  refine lv_bipush (v := (32 : Int32)) hx hb dX2_init_37 (by decide) ?_
  refine zk_newa (atype := .int) (ty := .int) (a0 := (32, .inl (fun _ => 0))) (N' := 32) hx hb (ht _ kw_184) rfl hK 0 rfl (by intro C h; cases h) hP hD hS hA (fun _ => rfl) (by decide) (by decide) (Nat.le_of_ble_eq_true rfl) (Nat.le_of_ble_eq_true rfl) (Nat.le_of_ble_eq_true rfl) dX2_init_39 (fun q_4 H hP hD hS => ?_)
  have hP : va_P D classes [(h0, .inr (2, [.ref q_0, .ref q_1, .ref q_2, .ref q_3, .null, .null, .null, .null, .null, .null, .int 0, .int 0, .int 0])), (q_0, .inl (cs 0, 40, .inl (fun _ => 0))), (q_1, .inl (cs 0, 40, .inl (fun _ => 0))), (q_2, .inl (cs 0, 40, .inl (fun _ => 0))), (q_3, .inl (cs 0, 40, .inl (fun _ => 0))), (q_4, .inl (cs 0, 32, .inl (fun _ => 0)))] H := hP
  have hD : va_D A [(h0, .inr (2, [.ref q_0, .ref q_1, .ref q_2, .ref q_3, .null, .null, .null, .null, .null, .null, .int 0, .int 0, .int 0])), (q_0, .inl (cs 0, 40, .inl (fun _ => 0))), (q_1, .inl (cs 0, 40, .inl (fun _ => 0))), (q_2, .inl (cs 0, 40, .inl (fun _ => 0))), (q_3, .inl (cs 0, 40, .inl (fun _ => 0))), (q_4, .inl (cs 0, 32, .inl (fun _ => 0)))] := hD
  refine va_putF (D := D) (ci := 2) (v := .ref q_4) (ty := .array .int) (C := RX2) (T := TX2) (N := 13) hx hb ht iX2 tyX2 tyX2_ok nmX2 hown hK hP hD hS 0 rfl rfl 4 (by decide) (ht _ kw_129) (fun _ h9 => h9) rfl hin rfl (by decide +kernel) rfl rfl (Nat.le_of_ble_eq_true rfl) dX2_init_41 (fun H locs hP hD hS => ?_)
  have hP : va_P D classes [(h0, .inr (2, [.ref q_0, .ref q_1, .ref q_2, .ref q_3, .ref q_4, .null, .null, .null, .null, .null, .int 0, .int 0, .int 0])), (q_0, .inl (cs 0, 40, .inl (fun _ => 0))), (q_1, .inl (cs 0, 40, .inl (fun _ => 0))), (q_2, .inl (cs 0, 40, .inl (fun _ => 0))), (q_3, .inl (cs 0, 40, .inl (fun _ => 0))), (q_4, .inl (cs 0, 32, .inl (fun _ => 0)))] H := hP
  have hD : va_D A [(h0, .inr (2, [.ref q_0, .ref q_1, .ref q_2, .ref q_3, .ref q_4, .null, .null, .null, .null, .null, .int 0, .int 0, .int 0])), (q_0, .inl (cs 0, 40, .inl (fun _ => 0))), (q_1, .inl (cs 0, 40, .inl (fun _ => 0))), (q_2, .inl (cs 0, 40, .inl (fun _ => 0))), (q_3, .inl (cs 0, 40, .inl (fun _ => 0))), (q_4, .inl (cs 0, 32, .inl (fun _ => 0)))] := hD
  refine lv_aload_n hx hb dX2_init_44 rfl (lv_at hl 0 rfl) ?_
  refine lv_bipush (v := (32 : Int32)) hx hb dX2_init_45 (by decide) ?_
  refine zk_newa (atype := .int) (ty := .int) (a0 := (32, .inl (fun _ => 0))) (N' := 32) hx hb (ht _ kw_184) rfl hK 0 rfl (by intro C h; cases h) hP hD hS hA (fun _ => rfl) (by decide) (by decide) (Nat.le_of_ble_eq_true rfl) (Nat.le_of_ble_eq_true rfl) (Nat.le_of_ble_eq_true rfl) dX2_init_47 (fun q_5 H hP hD hS => ?_)
  have hP : va_P D classes [(h0, .inr (2, [.ref q_0, .ref q_1, .ref q_2, .ref q_3, .ref q_4, .null, .null, .null, .null, .null, .int 0, .int 0, .int 0])), (q_0, .inl (cs 0, 40, .inl (fun _ => 0))), (q_1, .inl (cs 0, 40, .inl (fun _ => 0))), (q_2, .inl (cs 0, 40, .inl (fun _ => 0))), (q_3, .inl (cs 0, 40, .inl (fun _ => 0))), (q_4, .inl (cs 0, 32, .inl (fun _ => 0))), (q_5, .inl (cs 0, 32, .inl (fun _ => 0)))] H := hP
  have hD : va_D A [(h0, .inr (2, [.ref q_0, .ref q_1, .ref q_2, .ref q_3, .ref q_4, .null, .null, .null, .null, .null, .int 0, .int 0, .int 0])), (q_0, .inl (cs 0, 40, .inl (fun _ => 0))), (q_1, .inl (cs 0, 40, .inl (fun _ => 0))), (q_2, .inl (cs 0, 40, .inl (fun _ => 0))), (q_3, .inl (cs 0, 40, .inl (fun _ => 0))), (q_4, .inl (cs 0, 32, .inl (fun _ => 0))), (q_5, .inl (cs 0, 32, .inl (fun _ => 0)))] := hD
  refine va_putF (D := D) (ci := 2) (v := .ref q_5) (ty := .array .int) (C := RX2) (T := TX2) (N := 13) hx hb ht iX2 tyX2 tyX2_ok nmX2 hown hK hP hD hS 0 rfl rfl 5 (by decide) (ht _ kw_133) (fun _ h9 => h9) rfl hin rfl (by decide +kernel) rfl rfl (Nat.le_of_ble_eq_true rfl) dX2_init_49 (fun H locs hP hD hS => ?_)
  have hP : va_P D classes [(h0, .inr (2, [.ref q_0, .ref q_1, .ref q_2, .ref q_3, .ref q_4, .ref q_5, .null, .null, .null, .null, .int 0, .int 0, .int 0])), (q_0, .inl (cs 0, 40, .inl (fun _ => 0))), (q_1, .inl (cs 0, 40, .inl (fun _ => 0))), (q_2, .inl (cs 0, 40, .inl (fun _ => 0))), (q_3, .inl (cs 0, 40, .inl (fun _ => 0))), (q_4, .inl (cs 0, 32, .inl (fun _ => 0))), (q_5, .inl (cs 0, 32, .inl (fun _ => 0)))] H := hP
  have hD : va_D A [(h0, .inr (2, [.ref q_0, .ref q_1, .ref q_2, .ref q_3, .ref q_4, .ref q_5, .null, .null, .null, .null, .int 0, .int 0, .int 0])), (q_0, .inl (cs 0, 40, .inl (fun _ => 0))), (q_1, .inl (cs 0, 40, .inl (fun _ => 0))), (q_2, .inl (cs 0, 40, .inl (fun _ => 0))), (q_3, .inl (cs 0, 40, .inl (fun _ => 0))), (q_4, .inl (cs 0, 32, .inl (fun _ => 0))), (q_5, .inl (cs 0, 32, .inl (fun _ => 0)))] := hD
  refine lv_aload_n hx hb dX2_init_52 rfl (lv_at hl 0 rfl) ?_
  refine lv_bipush (v := (32 : Int32)) hx hb dX2_init_53 (by decide) ?_
  refine zk_newa (atype := .int) (ty := .int) (a0 := (32, .inl (fun _ => 0))) (N' := 32) hx hb (ht _ kw_184) rfl hK 0 rfl (by intro C h; cases h) hP hD hS hA (fun _ => rfl) (by decide) (by decide) (Nat.le_of_ble_eq_true rfl) (Nat.le_of_ble_eq_true rfl) (Nat.le_of_ble_eq_true rfl) dX2_init_55 (fun q_6 H hP hD hS => ?_)
  have hP : va_P D classes [(h0, .inr (2, [.ref q_0, .ref q_1, .ref q_2, .ref q_3, .ref q_4, .ref q_5, .null, .null, .null, .null, .int 0, .int 0, .int 0])), (q_0, .inl (cs 0, 40, .inl (fun _ => 0))), (q_1, .inl (cs 0, 40, .inl (fun _ => 0))), (q_2, .inl (cs 0, 40, .inl (fun _ => 0))), (q_3, .inl (cs 0, 40, .inl (fun _ => 0))), (q_4, .inl (cs 0, 32, .inl (fun _ => 0))), (q_5, .inl (cs 0, 32, .inl (fun _ => 0))), (q_6, .inl (cs 0, 32, .inl (fun _ => 0)))] H := hP
  have hD : va_D A [(h0, .inr (2, [.ref q_0, .ref q_1, .ref q_2, .ref q_3, .ref q_4, .ref q_5, .null, .null, .null, .null, .int 0, .int 0, .int 0])), (q_0, .inl (cs 0, 40, .inl (fun _ => 0))), (q_1, .inl (cs 0, 40, .inl (fun _ => 0))), (q_2, .inl (cs 0, 40, .inl (fun _ => 0))), (q_3, .inl (cs 0, 40, .inl (fun _ => 0))), (q_4, .inl (cs 0, 32, .inl (fun _ => 0))), (q_5, .inl (cs 0, 32, .inl (fun _ => 0))), (q_6, .inl (cs 0, 32, .inl (fun _ => 0)))] := hD
  refine va_putF (D := D) (ci := 2) (v := .ref q_6) (ty := .array .int) (C := RX2) (T := TX2) (N := 13) hx hb ht iX2 tyX2 tyX2_ok nmX2 hown hK hP hD hS 0 rfl rfl 6 (by decide) (ht _ kw_137) (fun _ h9 => h9) rfl hin rfl (by decide +kernel) rfl rfl (Nat.le_of_ble_eq_true rfl) dX2_init_57 (fun H locs hP hD hS => ?_)
  have hP : va_P D classes [(h0, .inr (2, [.ref q_0, .ref q_1, .ref q_2, .ref q_3, .ref q_4, .ref q_5, .ref q_6, .null, .null, .null, .int 0, .int 0, .int 0])), (q_0, .inl (cs 0, 40, .inl (fun _ => 0))), (q_1, .inl (cs 0, 40, .inl (fun _ => 0))), (q_2, .inl (cs 0, 40, .inl (fun _ => 0))), (q_3, .inl (cs 0, 40, .inl (fun _ => 0))), (q_4, .inl (cs 0, 32, .inl (fun _ => 0))), (q_5, .inl (cs 0, 32, .inl (fun _ => 0))), (q_6, .inl (cs 0, 32, .inl (fun _ => 0)))] H := hP
  have hD : va_D A [(h0, .inr (2, [.ref q_0, .ref q_1, .ref q_2, .ref q_3, .ref q_4, .ref q_5, .ref q_6, .null, .null, .null, .int 0, .int 0, .int 0])), (q_0, .inl (cs 0, 40, .inl (fun _ => 0))), (q_1, .inl (cs 0, 40, .inl (fun _ => 0))), (q_2, .inl (cs 0, 40, .inl (fun _ => 0))), (q_3, .inl (cs 0, 40, .inl (fun _ => 0))), (q_4, .inl (cs 0, 32, .inl (fun _ => 0))), (q_5, .inl (cs 0, 32, .inl (fun _ => 0))), (q_6, .inl (cs 0, 32, .inl (fun _ => 0)))] := hD
  refine lv_aload_n hx hb dX2_init_60 rfl (lv_at hl 0 rfl) ?_
  refine lv_bipush (v := (32 : Int32)) hx hb dX2_init_61 (by decide) ?_
  refine zk_newa (atype := .int) (ty := .int) (a0 := (32, .inl (fun _ => 0))) (N' := 32) hx hb (ht _ kw_184) rfl hK 0 rfl (by intro C h; cases h) hP hD hS hA (fun _ => rfl) (by decide) (by decide) (Nat.le_of_ble_eq_true rfl) (Nat.le_of_ble_eq_true rfl) (Nat.le_of_ble_eq_true rfl) dX2_init_63 (fun q_7 H hP hD hS => ?_)
  have hP : va_P D classes [(h0, .inr (2, [.ref q_0, .ref q_1, .ref q_2, .ref q_3, .ref q_4, .ref q_5, .ref q_6, .null, .null, .null, .int 0, .int 0, .int 0])), (q_0, .inl (cs 0, 40, .inl (fun _ => 0))), (q_1, .inl (cs 0, 40, .inl (fun _ => 0))), (q_2, .inl (cs 0, 40, .inl (fun _ => 0))), (q_3, .inl (cs 0, 40, .inl (fun _ => 0))), (q_4, .inl (cs 0, 32, .inl (fun _ => 0))), (q_5, .inl (cs 0, 32, .inl (fun _ => 0))), (q_6, .inl (cs 0, 32, .inl (fun _ => 0))), (q_7, .inl (cs 0, 32, .inl (fun _ => 0)))] H := hP
  have hD : va_D A [(h0, .inr (2, [.ref q_0, .ref q_1, .ref q_2, .ref q_3, .ref q_4, .ref q_5, .ref q_6, .null, .null, .null, .int 0, .int 0, .int 0])), (q_0, .inl (cs 0, 40, .inl (fun _ => 0))), (q_1, .inl (cs 0, 40, .inl (fun _ => 0))), (q_2, .inl (cs 0, 40, .inl (fun _ => 0))), (q_3, .inl (cs 0, 40, .inl (fun _ => 0))), (q_4, .inl (cs 0, 32, .inl (fun _ => 0))), (q_5, .inl (cs 0, 32, .inl (fun _ => 0))), (q_6, .inl (cs 0, 32, .inl (fun _ => 0))), (q_7, .inl (cs 0, 32, .inl (fun _ => 0)))] := hD
  refine va_putF (D := D) (ci := 2) (v := .ref q_7) (ty := .array .int) (C := RX2) (T := TX2) (N := 13) hx hb ht iX2 tyX2 tyX2_ok nmX2 hown hK hP hD hS 0 rfl rfl 7 (by decide) (ht _ kw_140) (fun _ h9 => h9) rfl hin rfl (by decide +kernel) rfl rfl (Nat.le_of_ble_eq_true rfl) dX2_init_65 (fun H locs hP hD hS => ?_)
  have hP : va_P D classes [(h0, .inr (2, [.ref q_0, .ref q_1, .ref q_2, .ref q_3, .ref q_4, .ref q_5, .ref q_6, .ref q_7, .null, .null, .int 0, .int 0, .int 0])), (q_0, .inl (cs 0, 40, .inl (fun _ => 0))), (q_1, .inl (cs 0, 40, .inl (fun _ => 0))), (q_2, .inl (cs 0, 40, .inl (fun _ => 0))), (q_3, .inl (cs 0, 40, .inl (fun _ => 0))), (q_4, .inl (cs 0, 32, .inl (fun _ => 0))), (q_5, .inl (cs 0, 32, .inl (fun _ => 0))), (q_6, .inl (cs 0, 32, .inl (fun _ => 0))), (q_7, .inl (cs 0, 32, .inl (fun _ => 0)))] H := hP
  have hD : va_D A [(h0, .inr (2, [.ref q_0, .ref q_1, .ref q_2, .ref q_3, .ref q_4, .ref q_5, .ref q_6, .ref q_7, .null, .null, .int 0, .int 0, .int 0])), (q_0, .inl (cs 0, 40, .inl (fun _ => 0))), (q_1, .inl (cs 0, 40, .inl (fun _ => 0))), (q_2, .inl (cs 0, 40, .inl (fun _ => 0))), (q_3, .inl (cs 0, 40, .inl (fun _ => 0))), (q_4, .inl (cs 0, 32, .inl (fun _ => 0))), (q_5, .inl (cs 0, 32, .inl (fun _ => 0))), (q_6, .inl (cs 0, 32, .inl (fun _ => 0))), (q_7, .inl (cs 0, 32, .inl (fun _ => 0)))] := hD
  refine lv_aload_n hx hb dX2_init_68 rfl (lv_at hl 0 rfl) ?_
  refine lv_bipush (v := (40 : Int32)) hx hb dX2_init_69 (by decide) ?_
  refine zk_newq (C := "AlreadyJudged$Suit") (N' := 40) hx hb hown (ht _ kw_112) hO.1 hK 5 rfl hP hD hS hA (by decide) (by decide) (Nat.le_of_ble_eq_true rfl) (Nat.le_of_ble_eq_true rfl) (Nat.le_of_ble_eq_true rfl) dX2_init_71 (fun q_8 H hP hD hS => ?_)
  have hP : va_P D classes [(h0, .inr (2, [.ref q_0, .ref q_1, .ref q_2, .ref q_3, .ref q_4, .ref q_5, .ref q_6, .ref q_7, .null, .null, .int 0, .int 0, .int 0])), (q_0, .inl (cs 0, 40, .inl (fun _ => 0))), (q_1, .inl (cs 0, 40, .inl (fun _ => 0))), (q_2, .inl (cs 0, 40, .inl (fun _ => 0))), (q_3, .inl (cs 0, 40, .inl (fun _ => 0))), (q_4, .inl (cs 0, 32, .inl (fun _ => 0))), (q_5, .inl (cs 0, 32, .inl (fun _ => 0))), (q_6, .inl (cs 0, 32, .inl (fun _ => 0))), (q_7, .inl (cs 0, 32, .inl (fun _ => 0))), (q_8, .inl (cs 5, 40, .inr (.inr (.inr (.inr (fun _ => none))))))] H := hP
  have hD : va_D A [(h0, .inr (2, [.ref q_0, .ref q_1, .ref q_2, .ref q_3, .ref q_4, .ref q_5, .ref q_6, .ref q_7, .null, .null, .int 0, .int 0, .int 0])), (q_0, .inl (cs 0, 40, .inl (fun _ => 0))), (q_1, .inl (cs 0, 40, .inl (fun _ => 0))), (q_2, .inl (cs 0, 40, .inl (fun _ => 0))), (q_3, .inl (cs 0, 40, .inl (fun _ => 0))), (q_4, .inl (cs 0, 32, .inl (fun _ => 0))), (q_5, .inl (cs 0, 32, .inl (fun _ => 0))), (q_6, .inl (cs 0, 32, .inl (fun _ => 0))), (q_7, .inl (cs 0, 32, .inl (fun _ => 0))), (q_8, .inl (cs 5, 40, .inr (.inr (.inr (.inr (fun _ => none))))))] := hD
  refine va_putF (D := D) (ci := 2) (v := .ref q_8) (ty := .array (.object "AlreadyJudged$Suit")) (C := RX2) (T := TX2) (N := 13) hx hb ht iX2 tyX2 tyX2_ok nmX2 hown hK hP hD hS 0 rfl rfl 8 (by decide) (ht _ kw_143) (fun _ h9 => h9) rfl hin rfl (by decide +kernel) rfl rfl (Nat.le_of_ble_eq_true rfl) dX2_init_74 (fun H locs hP hD hS => ?_)
  have hP : va_P D classes [(h0, .inr (2, [.ref q_0, .ref q_1, .ref q_2, .ref q_3, .ref q_4, .ref q_5, .ref q_6, .ref q_7, .ref q_8, .null, .int 0, .int 0, .int 0])), (q_0, .inl (cs 0, 40, .inl (fun _ => 0))), (q_1, .inl (cs 0, 40, .inl (fun _ => 0))), (q_2, .inl (cs 0, 40, .inl (fun _ => 0))), (q_3, .inl (cs 0, 40, .inl (fun _ => 0))), (q_4, .inl (cs 0, 32, .inl (fun _ => 0))), (q_5, .inl (cs 0, 32, .inl (fun _ => 0))), (q_6, .inl (cs 0, 32, .inl (fun _ => 0))), (q_7, .inl (cs 0, 32, .inl (fun _ => 0))), (q_8, .inl (cs 5, 40, .inr (.inr (.inr (.inr (fun _ => none))))))] H := hP
  have hD : va_D A [(h0, .inr (2, [.ref q_0, .ref q_1, .ref q_2, .ref q_3, .ref q_4, .ref q_5, .ref q_6, .ref q_7, .ref q_8, .null, .int 0, .int 0, .int 0])), (q_0, .inl (cs 0, 40, .inl (fun _ => 0))), (q_1, .inl (cs 0, 40, .inl (fun _ => 0))), (q_2, .inl (cs 0, 40, .inl (fun _ => 0))), (q_3, .inl (cs 0, 40, .inl (fun _ => 0))), (q_4, .inl (cs 0, 32, .inl (fun _ => 0))), (q_5, .inl (cs 0, 32, .inl (fun _ => 0))), (q_6, .inl (cs 0, 32, .inl (fun _ => 0))), (q_7, .inl (cs 0, 32, .inl (fun _ => 0))), (q_8, .inl (cs 5, 40, .inr (.inr (.inr (.inr (fun _ => none))))))] := hD
  refine lv_aload_n hx hb dX2_init_77 rfl (lv_at hl 0 rfl) ?_
  refine lv_bipush (v := (32 : Int32)) hx hb dX2_init_78 (by decide) ?_
  refine zk_newq (C := "AlreadyJudged$Law") (N' := 32) hx hb hown (ht _ kw_114) hO.2.1 hK 6 rfl hP hD hS hA (by decide) (by decide) (Nat.le_of_ble_eq_true rfl) (Nat.le_of_ble_eq_true rfl) (Nat.le_of_ble_eq_true rfl) dX2_init_80 (fun q_9 H hP hD hS => ?_)
  have hP : va_P D classes [(h0, .inr (2, [.ref q_0, .ref q_1, .ref q_2, .ref q_3, .ref q_4, .ref q_5, .ref q_6, .ref q_7, .ref q_8, .null, .int 0, .int 0, .int 0])), (q_0, .inl (cs 0, 40, .inl (fun _ => 0))), (q_1, .inl (cs 0, 40, .inl (fun _ => 0))), (q_2, .inl (cs 0, 40, .inl (fun _ => 0))), (q_3, .inl (cs 0, 40, .inl (fun _ => 0))), (q_4, .inl (cs 0, 32, .inl (fun _ => 0))), (q_5, .inl (cs 0, 32, .inl (fun _ => 0))), (q_6, .inl (cs 0, 32, .inl (fun _ => 0))), (q_7, .inl (cs 0, 32, .inl (fun _ => 0))), (q_8, .inl (cs 5, 40, .inr (.inr (.inr (.inr (fun _ => none)))))), (q_9, .inl (cs 6, 32, .inr (.inr (.inr (.inr (fun _ => none))))))] H := hP
  have hD : va_D A [(h0, .inr (2, [.ref q_0, .ref q_1, .ref q_2, .ref q_3, .ref q_4, .ref q_5, .ref q_6, .ref q_7, .ref q_8, .null, .int 0, .int 0, .int 0])), (q_0, .inl (cs 0, 40, .inl (fun _ => 0))), (q_1, .inl (cs 0, 40, .inl (fun _ => 0))), (q_2, .inl (cs 0, 40, .inl (fun _ => 0))), (q_3, .inl (cs 0, 40, .inl (fun _ => 0))), (q_4, .inl (cs 0, 32, .inl (fun _ => 0))), (q_5, .inl (cs 0, 32, .inl (fun _ => 0))), (q_6, .inl (cs 0, 32, .inl (fun _ => 0))), (q_7, .inl (cs 0, 32, .inl (fun _ => 0))), (q_8, .inl (cs 5, 40, .inr (.inr (.inr (.inr (fun _ => none)))))), (q_9, .inl (cs 6, 32, .inr (.inr (.inr (.inr (fun _ => none))))))] := hD
  refine va_putF (D := D) (ci := 2) (v := .ref q_9) (ty := .array (.object "AlreadyJudged$Law")) (C := RX2) (T := TX2) (N := 13) hx hb ht iX2 tyX2 tyX2_ok nmX2 hown hK hP hD hS 0 rfl rfl 9 (by decide) (ht _ kw_145) (fun _ h9 => h9) rfl hin rfl (by decide +kernel) rfl rfl (Nat.le_of_ble_eq_true rfl) dX2_init_83 (fun H locs hP hD hS => ?_)
  have hP : va_P D classes [(h0, .inr (2, [.ref q_0, .ref q_1, .ref q_2, .ref q_3, .ref q_4, .ref q_5, .ref q_6, .ref q_7, .ref q_8, .ref q_9, .int 0, .int 0, .int 0])), (q_0, .inl (cs 0, 40, .inl (fun _ => 0))), (q_1, .inl (cs 0, 40, .inl (fun _ => 0))), (q_2, .inl (cs 0, 40, .inl (fun _ => 0))), (q_3, .inl (cs 0, 40, .inl (fun _ => 0))), (q_4, .inl (cs 0, 32, .inl (fun _ => 0))), (q_5, .inl (cs 0, 32, .inl (fun _ => 0))), (q_6, .inl (cs 0, 32, .inl (fun _ => 0))), (q_7, .inl (cs 0, 32, .inl (fun _ => 0))), (q_8, .inl (cs 5, 40, .inr (.inr (.inr (.inr (fun _ => none)))))), (q_9, .inl (cs 6, 32, .inr (.inr (.inr (.inr (fun _ => none))))))] H := hP
  have hD : va_D A [(h0, .inr (2, [.ref q_0, .ref q_1, .ref q_2, .ref q_3, .ref q_4, .ref q_5, .ref q_6, .ref q_7, .ref q_8, .ref q_9, .int 0, .int 0, .int 0])), (q_0, .inl (cs 0, 40, .inl (fun _ => 0))), (q_1, .inl (cs 0, 40, .inl (fun _ => 0))), (q_2, .inl (cs 0, 40, .inl (fun _ => 0))), (q_3, .inl (cs 0, 40, .inl (fun _ => 0))), (q_4, .inl (cs 0, 32, .inl (fun _ => 0))), (q_5, .inl (cs 0, 32, .inl (fun _ => 0))), (q_6, .inl (cs 0, 32, .inl (fun _ => 0))), (q_7, .inl (cs 0, 32, .inl (fun _ => 0))), (q_8, .inl (cs 5, 40, .inr (.inr (.inr (.inr (fun _ => none)))))), (q_9, .inl (cs 6, 32, .inr (.inr (.inr (.inr (fun _ => none))))))] := hD
  refine W.widen (k := 10) (n := 360) (Nat.le_of_ble_eq_true rfl) (Nat.le_of_ble_eq_true rfl) ?_
  exact W.vret hx hb hr (fun t ht2 hW => ⟨⟨fun k => [q_0, q_1, q_2, q_3, q_4, q_5, q_6, q_7, q_8, q_9].getD k 0, rfl, trivial, by rw [ht2]; exact hP, hD⟩, hS.F ht2⟩) hS.2.2 dX2_init_86 hlocks
theorem kw_234 : Cond.methodLink RX9 3 objectInit ∈ zW := zwI (i := 234) (by decide +kernel) (by decide +kernel)
theorem kw_235 : Cond.fieldLink RX9 9 "AlreadyJudged$Tape" "bytes" "[I" ∈ zW := zwI (i := 235) (by decide +kernel) (by decide +kernel)
theorem dX9_init_0 : decode cX9_init 0 = .ok (.aload_n 0, 1) := by decide +kernel
theorem dX9_init_1 : decode cX9_init 1 = .ok (.invokespecial 3, 3) := by decide +kernel
theorem dX9_init_4 : decode cX9_init 4 = .ok (.aload_n 0, 1) := by decide +kernel
theorem dX9_init_5 : decode cX9_init 5 = .ok (.bipush 120, 2) := by decide +kernel
theorem dX9_init_7 : decode cX9_init 7 = .ok (.newarray .int, 2) := by decide +kernel
theorem dX9_init_9 : decode cX9_init 9 = .ok (.putfield 9, 3) := by decide +kernel
theorem dX9_init_12 : decode cX9_init 12 = .ok (.return_, 1) := by decide +kernel
abbrev z_X9_init : List Cond := .code yX9_init cX9_init 1 none :: zW
abbrev rm_X9_init : Room := { frames := 1, cells := 1, slots := 120, locals := 20 }
set_option maxHeartbeats 4000000 in
set_option maxRecDepth 100000 in
theorem ci_X9_init (l : Launch) (D : va_G) (cs : Nat → ClassId) (h0 : Nat)  (sz : Nat) : Met l yX9_init z_X9_init rm_X9_init (va_Pc [.ref h0] (zPre D cs [(h0, .inr (9, [.null, .int 0]))] sz)) (va_Qv (fun _ : Nat → Nat => True) (fun (u : Nat → Nat) (t : State) => va_P D classes [(h0, .inr (9, [.ref (u 0), .int 0])), ((u 0), .inl (cs 0, 120, .inl (fun _ => 0)))] t.heap ∧ va_D (va_A [(h0, .inr (9, [.null, .int 0]))] sz) [(h0, .inr (9, [.ref (u 0), .int 0])), ((u 0), .inl (cs 0, 120, .inl (fun _ => 0)))]) (va_A [(h0, .inr (9, [.null, .int 0]))] sz)) 1 120 (va_A [(h0, .inr (9, [.null, .int 0]))] sz) := by
  refine Met.ofW (cc := cX9_init) (maxL := 1) (ret := none) (by decide) rfl ?_
  intro p e s m args below meth c s₁ B hml hv
  obtain ⟨rfl, hsz, hP, hK, hD0⟩ := hv
  subst hsz
  have hD := hD0.self (sz := s.heap.size)
  have hx := B.exec
  have hb := B.bytes
  have hr := B.returns
  have ht : ∀ w ∈ zW, w.before _ s = true := fun w hw => atoms_spec (ws := z_X9_init) B.pre w (List.mem_cons_of_mem _ hw)
  have hown : s.vm.findClass RX9 = some m.cls := findClass_of_methodNamed B.named
  have hlocks := B.notSynchronized
  have hin : meth.name = "<init>" := (name_of_methodNamed B.named B.method).1
  generalize hAe : va_A [(h0, .inr (9, [.null, .int 0]))] s.heap.size = A at hD ⊢
  have hA : ∀ q : Nat, s.heap.size ≤ q → A q := fun q h => by rw [← hAe]; exact Or.inr h
  have hS : va_S A s.heap s.heap [] := va_S.rf
  have hl := lv_entry ([.ref h0]) (n := 1) (Nat.le_of_ble_eq_true rfl)
  rw [lg_entry_eq]
  generalize (lg_sl ([.ref h0]) ++ List.replicate (1 - (lg_sl ([.ref h0])).length) Slot.unset).toArray = ls at hl ⊢
  obtain ⟨H, hH⟩ : ∃ H, H = s.heap := ⟨_, rfl⟩
  have hS : va_S A s.heap H [] := by rw [hH]; exact va_S.rf
  rw [← hH]
  have hP : va_P D classes [(h0, .inr (9, [.null, .int 0]))] H := by rw [hH]; exact hP
  clear hH
  refine lv_aload_n hx hb dX9_init_0 rfl (lv_at hl 0 rfl) ?_
  refine W.objInit hx hb hown (ht _ kw_234) (ht _ kw_104) (ht _ kw_105) rfl (by rw [hml]; exact hl.1) rfl dX9_init_1 (Nat.le_of_ble_eq_true rfl) (Nat.le_of_ble_eq_true rfl) ?_
  refine W.eq (g2 := F0 m 4 ls []) rfl ?_
  refine lv_aload_n hx hb dX9_init_4 rfl (lv_at hl 0 rfl) ?_
  refine lv_bipush (v := (120 : Int32)) hx hb dX9_init_5 (by decide) ?_
  refine zk_newa (atype := .int) (ty := .int) (a0 := (120, .inl (fun _ => 0))) (N' := 120) hx hb (ht _ kw_184) rfl hK 0 rfl (by intro C h; cases h) hP hD hS hA (fun _ => rfl) (by decide) (by decide) (Nat.le_of_ble_eq_true rfl) (Nat.le_of_ble_eq_true rfl) (Nat.le_of_ble_eq_true rfl) dX9_init_7 (fun q_0 H hP hD hS => ?_)
  have hP : va_P D classes [(h0, .inr (9, [.null, .int 0])), (q_0, .inl (cs 0, 120, .inl (fun _ => 0)))] H := hP
  have hD : va_D A [(h0, .inr (9, [.null, .int 0])), (q_0, .inl (cs 0, 120, .inl (fun _ => 0)))] := hD
  refine va_putF (D := D) (ci := 9) (v := .ref q_0) (ty := .array .int) (C := RX9) (T := TX9) (N := 2) hx hb ht iX9 tyX9 tyX9_ok nmX9 hown hK hP hD hS 0 rfl rfl 0 (by decide) (ht _ kw_235) (fun _ h9 => h9) rfl hin rfl (by decide +kernel) rfl rfl (Nat.le_of_ble_eq_true rfl) dX9_init_9 (fun H locs hP hD hS => ?_)
  have hP : va_P D classes [(h0, .inr (9, [.ref q_0, .int 0])), (q_0, .inl (cs 0, 120, .inl (fun _ => 0)))] H := hP
  have hD : va_D A [(h0, .inr (9, [.ref q_0, .int 0])), (q_0, .inl (cs 0, 120, .inl (fun _ => 0)))] := hD
  refine W.widen (k := 1) (n := 120) (Nat.le_of_ble_eq_true rfl) (Nat.le_of_ble_eq_true rfl) ?_
  exact W.vret hx hb hr (fun t ht2 hW => ⟨⟨fun k => [q_0].getD k 0, rfl, trivial, by rw [ht2]; exact hP, hD⟩, hS.F ht2⟩) hS.2.2 dX9_init_12 hlocks
theorem kw_273 : Cond.methodLink RX5 3 objectInit ∈ zW := zwI (i := 273) (by decide +kernel) (by decide +kernel)
theorem kw_274 : Cond.fieldLink RX5 15 "AlreadyJudged$LawReader" "tape" "LAlreadyJudged$Tape;" ∈ zW := zwI (i := 274) (by decide +kernel) (by decide +kernel)
theorem kw_275 : Cond.fieldLink RX5 9 "AlreadyJudged$LawReader" "code" "[I" ∈ zW := zwI (i := 275) (by decide +kernel) (by decide +kernel)
theorem dX5_init_0 : decode cX5_init 0 = .ok (.aload_n 0, 1) := by decide +kernel
theorem dX5_init_1 : decode cX5_init 1 = .ok (.invokespecial 3, 3) := by decide +kernel
theorem dX5_init_4 : decode cX5_init 4 = .ok (.aload_n 0, 1) := by decide +kernel
theorem dX5_init_5 : decode cX5_init 5 = .ok (.bipush 121, 2) := by decide +kernel
theorem dX5_init_7 : decode cX5_init 7 = .ok (.newarray .int, 2) := by decide +kernel
theorem dX5_init_9 : decode cX5_init 9 = .ok (.putfield 9, 3) := by decide +kernel
theorem dX5_init_12 : decode cX5_init 12 = .ok (.aload_n 0, 1) := by decide +kernel
theorem dX5_init_13 : decode cX5_init 13 = .ok (.aload_n 1, 1) := by decide +kernel
theorem dX5_init_14 : decode cX5_init 14 = .ok (.putfield 15, 3) := by decide +kernel
theorem dX5_init_17 : decode cX5_init 17 = .ok (.return_, 1) := by decide +kernel
abbrev z_X5_init : List Cond := .code yX5_init cX5_init 2 none :: zW
abbrev rm_X5_init : Room := { frames := 1, cells := 1, slots := 121, locals := 20 }
set_option maxHeartbeats 4000000 in
set_option maxRecDepth 100000 in
theorem ci_X5_init (l : Launch) (D : va_G) (cs : Nat → ClassId) (h0 : Nat) (p1 : Nat) (sz : Nat) : Met l yX5_init z_X5_init rm_X5_init (va_Pc [.ref h0, .ref p1] (zPre D cs [(h0, .inr (5, [.null, .null, .int 0, .int 0, .int 0]))] sz)) (va_Qv (fun _ : Nat → Nat => True) (fun (u : Nat → Nat) (t : State) => va_P D classes [(h0, .inr (5, [.ref p1, .ref (u 0), .int 0, .int 0, .int 0])), ((u 0), .inl (cs 0, 121, .inl (fun _ => 0)))] t.heap ∧ va_D (va_A [(h0, .inr (5, [.null, .null, .int 0, .int 0, .int 0]))] sz) [(h0, .inr (5, [.ref p1, .ref (u 0), .int 0, .int 0, .int 0])), ((u 0), .inl (cs 0, 121, .inl (fun _ => 0)))]) (va_A [(h0, .inr (5, [.null, .null, .int 0, .int 0, .int 0]))] sz)) 1 121 (va_A [(h0, .inr (5, [.null, .null, .int 0, .int 0, .int 0]))] sz) := by
  refine Met.ofW (cc := cX5_init) (maxL := 2) (ret := none) (by decide) rfl ?_
  intro p e s m args below meth c s₁ B hml hv
  obtain ⟨rfl, hsz, hP, hK, hD0⟩ := hv
  subst hsz
  have hD := hD0.self (sz := s.heap.size)
  have hx := B.exec
  have hb := B.bytes
  have hr := B.returns
  have ht : ∀ w ∈ zW, w.before _ s = true := fun w hw => atoms_spec (ws := z_X5_init) B.pre w (List.mem_cons_of_mem _ hw)
  have hown : s.vm.findClass RX5 = some m.cls := findClass_of_methodNamed B.named
  have hlocks := B.notSynchronized
  have hin : meth.name = "<init>" := (name_of_methodNamed B.named B.method).1
  generalize hAe : va_A [(h0, .inr (5, [.null, .null, .int 0, .int 0, .int 0]))] s.heap.size = A at hD ⊢
  have hA : ∀ q : Nat, s.heap.size ≤ q → A q := fun q h => by rw [← hAe]; exact Or.inr h
  have hS : va_S A s.heap s.heap [] := va_S.rf
  have hl := lv_entry ([.ref h0, .ref p1]) (n := 2) (Nat.le_of_ble_eq_true rfl)
  rw [lg_entry_eq]
  generalize (lg_sl ([.ref h0, .ref p1]) ++ List.replicate (2 - (lg_sl ([.ref h0, .ref p1])).length) Slot.unset).toArray = ls at hl ⊢
  obtain ⟨H, hH⟩ : ∃ H, H = s.heap := ⟨_, rfl⟩
  have hS : va_S A s.heap H [] := by rw [hH]; exact va_S.rf
  rw [← hH]
  have hP : va_P D classes [(h0, .inr (5, [.null, .null, .int 0, .int 0, .int 0]))] H := by rw [hH]; exact hP
  clear hH
  refine lv_aload_n hx hb dX5_init_0 rfl (lv_at hl 0 rfl) ?_
  refine W.objInit hx hb hown (ht _ kw_273) (ht _ kw_104) (ht _ kw_105) rfl (by rw [hml]; exact hl.1) rfl dX5_init_1 (Nat.le_of_ble_eq_true rfl) (Nat.le_of_ble_eq_true rfl) ?_
  refine W.eq (g2 := F0 m 4 ls []) rfl ?_
  refine lv_aload_n hx hb dX5_init_4 rfl (lv_at hl 0 rfl) ?_
  refine lv_bipush (v := (121 : Int32)) hx hb dX5_init_5 (by decide) ?_
  refine zk_newa (atype := .int) (ty := .int) (a0 := (121, .inl (fun _ => 0))) (N' := 121) hx hb (ht _ kw_184) rfl hK 0 rfl (by intro C h; cases h) hP hD hS hA (fun _ => rfl) (by decide) (by decide) (Nat.le_of_ble_eq_true rfl) (Nat.le_of_ble_eq_true rfl) (Nat.le_of_ble_eq_true rfl) dX5_init_7 (fun q_0 H hP hD hS => ?_)
  have hP : va_P D classes [(h0, .inr (5, [.null, .null, .int 0, .int 0, .int 0])), (q_0, .inl (cs 0, 121, .inl (fun _ => 0)))] H := hP
  have hD : va_D A [(h0, .inr (5, [.null, .null, .int 0, .int 0, .int 0])), (q_0, .inl (cs 0, 121, .inl (fun _ => 0)))] := hD
  refine va_putF (D := D) (ci := 5) (v := .ref q_0) (ty := .array .int) (C := RX5) (T := TX5) (N := 5) hx hb ht iX5 tyX5 tyX5_ok nmX5 hown hK hP hD hS 0 rfl rfl 1 (by decide) (ht _ kw_275) (fun _ h9 => h9) rfl hin rfl (by decide +kernel) rfl rfl (Nat.le_of_ble_eq_true rfl) dX5_init_9 (fun H locs hP hD hS => ?_)
  have hP : va_P D classes [(h0, .inr (5, [.null, .ref q_0, .int 0, .int 0, .int 0])), (q_0, .inl (cs 0, 121, .inl (fun _ => 0)))] H := hP
  have hD : va_D A [(h0, .inr (5, [.null, .ref q_0, .int 0, .int 0, .int 0])), (q_0, .inl (cs 0, 121, .inl (fun _ => 0)))] := hD
  refine lv_aload_n hx hb dX5_init_12 rfl (lv_at hl 0 rfl) ?_
  refine lv_aload_n hx hb dX5_init_13 rfl (lv_at hl 1 rfl) ?_
  refine va_putF (D := D) (ci := 5) (v := .ref p1) (ty := .object "AlreadyJudged$Tape") (C := RX5) (T := TX5) (N := 5) hx hb ht iX5 tyX5 tyX5_ok nmX5 hown hK hP hD hS 0 rfl rfl 0 (by decide) (ht _ kw_274) (fun _ h9 => h9) rfl hin rfl (by decide +kernel) rfl rfl (Nat.le_of_ble_eq_true rfl) dX5_init_14 (fun H locs hP hD hS => ?_)
  have hP : va_P D classes [(h0, .inr (5, [.ref p1, .ref q_0, .int 0, .int 0, .int 0])), (q_0, .inl (cs 0, 121, .inl (fun _ => 0)))] H := hP
  have hD : va_D A [(h0, .inr (5, [.ref p1, .ref q_0, .int 0, .int 0, .int 0])), (q_0, .inl (cs 0, 121, .inl (fun _ => 0)))] := hD
  refine W.widen (k := 1) (n := 121) (Nat.le_of_ble_eq_true rfl) (Nat.le_of_ble_eq_true rfl) ?_
  exact W.vret hx hb hr (fun t ht2 hW => ⟨⟨fun k => [q_0].getD k 0, rfl, trivial, by rw [ht2]; exact hP, hD⟩, hS.F ht2⟩) hS.2.2 dX5_init_17 hlocks
theorem kw_250 : Cond.methodLink RX8 3 objectInit ∈ zW := zwI (i := 250) (by decide +kernel) (by decide +kernel)
theorem kw_251 : Cond.fieldLink RX8 9 "AlreadyJudged$SuitReader" "tape" "LAlreadyJudged$Tape;" ∈ zW := zwI (i := 251) (by decide +kernel) (by decide +kernel)
theorem dX8_init_0 : decode cX8_init 0 = .ok (.aload_n 0, 1) := by decide +kernel
theorem dX8_init_1 : decode cX8_init 1 = .ok (.invokespecial 3, 3) := by decide +kernel
theorem dX8_init_4 : decode cX8_init 4 = .ok (.aload_n 0, 1) := by decide +kernel
theorem dX8_init_5 : decode cX8_init 5 = .ok (.aload_n 1, 1) := by decide +kernel
theorem dX8_init_6 : decode cX8_init 6 = .ok (.putfield 9, 3) := by decide +kernel
theorem dX8_init_9 : decode cX8_init 9 = .ok (.return_, 1) := by decide +kernel
abbrev z_X8_init : List Cond := .code yX8_init cX8_init 2 none :: zW
abbrev rm_X8_init : Room := { frames := 1, cells := 0, slots := 0, locals := 20 }
set_option maxHeartbeats 4000000 in
set_option maxRecDepth 100000 in
theorem ci_X8_init (l : Launch) (D : va_G) (cs : Nat → ClassId) (h0 : Nat) (p1 : Nat) (sz : Nat) : Met l yX8_init z_X8_init rm_X8_init (va_Pc [.ref h0, .ref p1] (zPre D cs [(h0, .inr (8, [.null, .null, .int 0, .int 0, .int 0]))] sz)) (va_Qv (fun _ : Nat → Nat => True) (fun (u : Nat → Nat) (t : State) => va_P D classes [(h0, .inr (8, [.ref p1, .null, .int 0, .int 0, .int 0]))] t.heap ∧ va_D (va_A [(h0, .inr (8, [.null, .null, .int 0, .int 0, .int 0]))] sz) [(h0, .inr (8, [.ref p1, .null, .int 0, .int 0, .int 0]))]) (va_A [(h0, .inr (8, [.null, .null, .int 0, .int 0, .int 0]))] sz)) 0 0 (va_A [(h0, .inr (8, [.null, .null, .int 0, .int 0, .int 0]))] sz) := by
  refine Met.ofW (cc := cX8_init) (maxL := 2) (ret := none) (by decide) rfl ?_
  intro p e s m args below meth c s₁ B hml hv
  obtain ⟨rfl, hsz, hP, hK, hD0⟩ := hv
  subst hsz
  have hD := hD0.self (sz := s.heap.size)
  have hx := B.exec
  have hb := B.bytes
  have hr := B.returns
  have ht : ∀ w ∈ zW, w.before _ s = true := fun w hw => atoms_spec (ws := z_X8_init) B.pre w (List.mem_cons_of_mem _ hw)
  have hown : s.vm.findClass RX8 = some m.cls := findClass_of_methodNamed B.named
  have hlocks := B.notSynchronized
  have hin : meth.name = "<init>" := (name_of_methodNamed B.named B.method).1
  generalize hAe : va_A [(h0, .inr (8, [.null, .null, .int 0, .int 0, .int 0]))] s.heap.size = A at hD ⊢
  have hA : ∀ q : Nat, s.heap.size ≤ q → A q := fun q h => by rw [← hAe]; exact Or.inr h
  have hS : va_S A s.heap s.heap [] := va_S.rf
  have hl := lv_entry ([.ref h0, .ref p1]) (n := 2) (Nat.le_of_ble_eq_true rfl)
  rw [lg_entry_eq]
  generalize (lg_sl ([.ref h0, .ref p1]) ++ List.replicate (2 - (lg_sl ([.ref h0, .ref p1])).length) Slot.unset).toArray = ls at hl ⊢
  obtain ⟨H, hH⟩ : ∃ H, H = s.heap := ⟨_, rfl⟩
  have hS : va_S A s.heap H [] := by rw [hH]; exact va_S.rf
  rw [← hH]
  have hP : va_P D classes [(h0, .inr (8, [.null, .null, .int 0, .int 0, .int 0]))] H := by rw [hH]; exact hP
  clear hH
  refine lv_aload_n hx hb dX8_init_0 rfl (lv_at hl 0 rfl) ?_
  refine W.objInit hx hb hown (ht _ kw_250) (ht _ kw_104) (ht _ kw_105) rfl (by rw [hml]; exact hl.1) rfl dX8_init_1 (Nat.le_of_ble_eq_true rfl) (Nat.le_of_ble_eq_true rfl) ?_
  refine W.eq (g2 := F0 m 4 ls []) rfl ?_
  refine lv_aload_n hx hb dX8_init_4 rfl (lv_at hl 0 rfl) ?_
  refine lv_aload_n hx hb dX8_init_5 rfl (lv_at hl 1 rfl) ?_
  refine va_putF (D := D) (ci := 8) (v := .ref p1) (ty := .object "AlreadyJudged$Tape") (C := RX8) (T := TX8) (N := 5) hx hb ht iX8 tyX8 tyX8_ok nmX8 hown hK hP hD hS 0 rfl rfl 0 (by decide) (ht _ kw_251) (fun _ h9 => h9) rfl hin rfl (by decide +kernel) rfl rfl (Nat.le_of_ble_eq_true rfl) dX8_init_6 (fun H locs hP hD hS => ?_)
  have hP : va_P D classes [(h0, .inr (8, [.ref p1, .null, .int 0, .int 0, .int 0]))] H := hP
  have hD : va_D A [(h0, .inr (8, [.ref p1, .null, .int 0, .int 0, .int 0]))] := hD
  refine W.widen (k := 0) (n := 0) (Nat.le_of_ble_eq_true rfl) (Nat.le_of_ble_eq_true rfl) ?_
  exact W.vret hx hb hr (fun t ht2 hW => ⟨⟨fun k => [].getD k 0, rfl, trivial, by rw [ht2]; exact hP, hD⟩, hS.F ht2⟩) hS.2.2 dX8_init_9 hlocks
theorem kw_302 : Cond.methodLink RX7 3 objectInit ∈ zW := zwI (i := 302) (by decide +kernel) (by decide +kernel)
theorem kw_330 : Cond.fieldLink RX7 9 "AlreadyJudged$Suit" "undoneFrom" "I" ∈ zW := zwI (i := 330) (by decide +kernel) (by decide +kernel)
theorem kw_333 : Cond.fieldLink RX7 15 "AlreadyJudged$Suit" "asked" "[I" ∈ zW := zwI (i := 333) (by decide +kernel) (by decide +kernel)
theorem dX7_init_0 : decode cX7_init 0 = .ok (.aload_n 0, 1) := by decide +kernel
theorem dX7_init_1 : decode cX7_init 1 = .ok (.invokespecial 3, 3) := by decide +kernel
theorem dX7_init_4 : decode cX7_init 4 = .ok (.aload_n 0, 1) := by decide +kernel
theorem dX7_init_5 : decode cX7_init 5 = .ok (.iconst (-1), 1) := by decide +kernel
theorem dX7_init_6 : decode cX7_init 6 = .ok (.putfield 9, 3) := by decide +kernel
theorem dX7_init_9 : decode cX7_init 9 = .ok (.aload_n 0, 1) := by decide +kernel
theorem dX7_init_10 : decode cX7_init 10 = .ok (.bipush 32, 2) := by decide +kernel
theorem dX7_init_12 : decode cX7_init 12 = .ok (.newarray .int, 2) := by decide +kernel
theorem dX7_init_14 : decode cX7_init 14 = .ok (.putfield 15, 3) := by decide +kernel
theorem dX7_init_17 : decode cX7_init 17 = .ok (.return_, 1) := by decide +kernel
abbrev z_X7_init : List Cond := .code yX7_init cX7_init 1 none :: zW
abbrev rm_X7_init : Room := { frames := 1, cells := 1, slots := 32, locals := 20 }
set_option maxHeartbeats 4000000 in
set_option maxRecDepth 100000 in
theorem ci_X7_init (l : Launch) (D : va_G) (cs : Nat → ClassId) (h0 : Nat)  (sz : Nat) : Met l yX7_init z_X7_init rm_X7_init (va_Pc [.ref h0] (zPre D cs [(h0, .inr (7, [.int 0, .int 0, .int 0, .int 0, .int 0, .int 0, .int 0, .null, .int 0, .int 0, .int 0, .int 0, .int 0, .int 0, .int 0]))] sz)) (va_Qv (fun _ : Nat → Nat => True) (fun (u : Nat → Nat) (t : State) => va_P D classes [(h0, .inr (7, [.int 0, .int 0, .int 0, .int 0, .int 0, .int 0, .int (-1 : Int32), .ref (u 0), .int 0, .int 0, .int 0, .int 0, .int 0, .int 0, .int 0])), ((u 0), .inl (cs 0, 32, .inl (fun _ => 0)))] t.heap ∧ va_D (va_A [(h0, .inr (7, [.int 0, .int 0, .int 0, .int 0, .int 0, .int 0, .int 0, .null, .int 0, .int 0, .int 0, .int 0, .int 0, .int 0, .int 0]))] sz) [(h0, .inr (7, [.int 0, .int 0, .int 0, .int 0, .int 0, .int 0, .int (-1 : Int32), .ref (u 0), .int 0, .int 0, .int 0, .int 0, .int 0, .int 0, .int 0])), ((u 0), .inl (cs 0, 32, .inl (fun _ => 0)))]) (va_A [(h0, .inr (7, [.int 0, .int 0, .int 0, .int 0, .int 0, .int 0, .int 0, .null, .int 0, .int 0, .int 0, .int 0, .int 0, .int 0, .int 0]))] sz)) 1 32 (va_A [(h0, .inr (7, [.int 0, .int 0, .int 0, .int 0, .int 0, .int 0, .int 0, .null, .int 0, .int 0, .int 0, .int 0, .int 0, .int 0, .int 0]))] sz) := by
  refine Met.ofW (cc := cX7_init) (maxL := 1) (ret := none) (by decide) rfl ?_
  intro p e s m args below meth c s₁ B hml hv
  obtain ⟨rfl, hsz, hP, hK, hD0⟩ := hv
  subst hsz
  have hD := hD0.self (sz := s.heap.size)
  have hx := B.exec
  have hb := B.bytes
  have hr := B.returns
  have ht : ∀ w ∈ zW, w.before _ s = true := fun w hw => atoms_spec (ws := z_X7_init) B.pre w (List.mem_cons_of_mem _ hw)
  have hown : s.vm.findClass RX7 = some m.cls := findClass_of_methodNamed B.named
  have hlocks := B.notSynchronized
  have hin : meth.name = "<init>" := (name_of_methodNamed B.named B.method).1
  generalize hAe : va_A [(h0, .inr (7, [.int 0, .int 0, .int 0, .int 0, .int 0, .int 0, .int 0, .null, .int 0, .int 0, .int 0, .int 0, .int 0, .int 0, .int 0]))] s.heap.size = A at hD ⊢
  have hA : ∀ q : Nat, s.heap.size ≤ q → A q := fun q h => by rw [← hAe]; exact Or.inr h
  have hS : va_S A s.heap s.heap [] := va_S.rf
  have hl := lv_entry ([.ref h0]) (n := 1) (Nat.le_of_ble_eq_true rfl)
  rw [lg_entry_eq]
  generalize (lg_sl ([.ref h0]) ++ List.replicate (1 - (lg_sl ([.ref h0])).length) Slot.unset).toArray = ls at hl ⊢
  obtain ⟨H, hH⟩ : ∃ H, H = s.heap := ⟨_, rfl⟩
  have hS : va_S A s.heap H [] := by rw [hH]; exact va_S.rf
  rw [← hH]
  have hP : va_P D classes [(h0, .inr (7, [.int 0, .int 0, .int 0, .int 0, .int 0, .int 0, .int 0, .null, .int 0, .int 0, .int 0, .int 0, .int 0, .int 0, .int 0]))] H := by rw [hH]; exact hP
  clear hH
  refine lv_aload_n hx hb dX7_init_0 rfl (lv_at hl 0 rfl) ?_
  refine W.objInit hx hb hown (ht _ kw_302) (ht _ kw_104) (ht _ kw_105) rfl (by rw [hml]; exact hl.1) rfl dX7_init_1 (Nat.le_of_ble_eq_true rfl) (Nat.le_of_ble_eq_true rfl) ?_
  refine W.eq (g2 := F0 m 4 ls []) rfl ?_
  refine lv_aload_n hx hb dX7_init_4 rfl (lv_at hl 0 rfl) ?_
  refine lv_iconst (v := (-1 : Int32)) hx hb dX7_init_5 (by decide) ?_
  refine va_put (D := D) (ci := 7) (v := .int (-1 : Int32)) (ty := .int) (C := RX7) (T := TX7) (N := 15) hx hb ht iX7 tyX7 tyX7_ok nmX7 hown hK hP hD hS 0 rfl rfl 6 (by decide) (ht _ kw_330) (fun _ h9 => h9) rfl (by decide +kernel) rfl rfl (Nat.le_of_ble_eq_true rfl) dX7_init_6 (fun H locs hP hD hS => ?_)
  have hP : va_P D classes [(h0, .inr (7, [.int 0, .int 0, .int 0, .int 0, .int 0, .int 0, .int (-1 : Int32), .null, .int 0, .int 0, .int 0, .int 0, .int 0, .int 0, .int 0]))] H := hP
  have hD : va_D A [(h0, .inr (7, [.int 0, .int 0, .int 0, .int 0, .int 0, .int 0, .int (-1 : Int32), .null, .int 0, .int 0, .int 0, .int 0, .int 0, .int 0, .int 0]))] := hD
  refine lv_aload_n hx hb dX7_init_9 rfl (lv_at hl 0 rfl) ?_
  refine lv_bipush (v := (32 : Int32)) hx hb dX7_init_10 (by decide) ?_
  refine zk_newa (atype := .int) (ty := .int) (a0 := (32, .inl (fun _ => 0))) (N' := 32) hx hb (ht _ kw_184) rfl hK 0 rfl (by intro C h; cases h) hP hD hS hA (fun _ => rfl) (by decide) (by decide) (Nat.le_of_ble_eq_true rfl) (Nat.le_of_ble_eq_true rfl) (Nat.le_of_ble_eq_true rfl) dX7_init_12 (fun q_0 H hP hD hS => ?_)
  have hP : va_P D classes [(h0, .inr (7, [.int 0, .int 0, .int 0, .int 0, .int 0, .int 0, .int (-1 : Int32), .null, .int 0, .int 0, .int 0, .int 0, .int 0, .int 0, .int 0])), (q_0, .inl (cs 0, 32, .inl (fun _ => 0)))] H := hP
  have hD : va_D A [(h0, .inr (7, [.int 0, .int 0, .int 0, .int 0, .int 0, .int 0, .int (-1 : Int32), .null, .int 0, .int 0, .int 0, .int 0, .int 0, .int 0, .int 0])), (q_0, .inl (cs 0, 32, .inl (fun _ => 0)))] := hD
  refine va_putF (D := D) (ci := 7) (v := .ref q_0) (ty := .array .int) (C := RX7) (T := TX7) (N := 15) hx hb ht iX7 tyX7 tyX7_ok nmX7 hown hK hP hD hS 0 rfl rfl 7 (by decide) (ht _ kw_333) (fun _ h9 => h9) rfl hin rfl (by decide +kernel) rfl rfl (Nat.le_of_ble_eq_true rfl) dX7_init_14 (fun H locs hP hD hS => ?_)
  have hP : va_P D classes [(h0, .inr (7, [.int 0, .int 0, .int 0, .int 0, .int 0, .int 0, .int (-1 : Int32), .ref q_0, .int 0, .int 0, .int 0, .int 0, .int 0, .int 0, .int 0])), (q_0, .inl (cs 0, 32, .inl (fun _ => 0)))] H := hP
  have hD : va_D A [(h0, .inr (7, [.int 0, .int 0, .int 0, .int 0, .int 0, .int 0, .int (-1 : Int32), .ref q_0, .int 0, .int 0, .int 0, .int 0, .int 0, .int 0, .int 0])), (q_0, .inl (cs 0, 32, .inl (fun _ => 0)))] := hD
  refine W.widen (k := 1) (n := 32) (Nat.le_of_ble_eq_true rfl) (Nat.le_of_ble_eq_true rfl) ?_
  exact W.vret hx hb hr (fun t ht2 hW => ⟨⟨fun k => [q_0].getD k 0, rfl, trivial, by rw [ht2]; exact hP, hD⟩, hS.F ht2⟩) hS.2.2 dX7_init_17 hlocks
theorem kw_82 : Cond.initialized RX7 ∈ zW := zwI (i := 82) (by decide +kernel) (by decide +kernel)
theorem kw_296 : Cond.methodLink RX10 3 objectInit ∈ zW := zwI (i := 296) (by decide +kernel) (by decide +kernel)
theorem kw_297 : Cond.classLink RX10 27 RX7 ∈ zW := zwI (i := 297) (by decide +kernel) (by decide +kernel)
theorem kw_298 : Cond.instantiable RX7 15 ∈ zW := zwI (i := 298) (by decide +kernel) (by decide +kernel)
theorem kw_300 : Cond.instanceMethod yX7_init ∈ zW := zwI (i := 300) (by decide +kernel) (by decide +kernel)
theorem kw_301 : Cond.code yX7_init cX7_init 1 none ∈ zW := zwI (i := 301) (by decide +kernel) (by decide +kernel)
theorem kw_387 : Cond.fieldLink RX10 9 "AlreadyJudged$Wishes" "claims" "[I" ∈ zW := zwI (i := 387) (by decide +kernel) (by decide +kernel)
theorem kw_388 : Cond.fieldLink RX10 15 "AlreadyJudged$Wishes" "wins" "[I" ∈ zW := zwI (i := 388) (by decide +kernel) (by decide +kernel)
theorem kw_391 : Cond.fieldLink RX10 18 "AlreadyJudged$Wishes" "closed" "[I" ∈ zW := zwI (i := 391) (by decide +kernel) (by decide +kernel)
theorem kw_392 : Cond.fieldLink RX10 21 "AlreadyJudged$Wishes" "closers" "[I" ∈ zW := zwI (i := 392) (by decide +kernel) (by decide +kernel)
theorem kw_393 : Cond.fieldLink RX10 24 "AlreadyJudged$Wishes" "placeOn" "[I" ∈ zW := zwI (i := 393) (by decide +kernel) (by decide +kernel)
theorem kw_394 : Cond.fieldLink RX10 30 "AlreadyJudged$Wishes" "brought" "LAlreadyJudged$Suit;" ∈ zW := zwI (i := 394) (by decide +kernel) (by decide +kernel)
theorem dX10_init_0 : decode cX10_init 0 = .ok (.aload_n 0, 1) := by decide +kernel
theorem dX10_init_1 : decode cX10_init 1 = .ok (.invokespecial 3, 3) := by decide +kernel
theorem dX10_init_4 : decode cX10_init 4 = .ok (.aload_n 0, 1) := by decide +kernel
theorem dX10_init_5 : decode cX10_init 5 = .ok (.iconst 5, 1) := by decide +kernel
theorem dX10_init_6 : decode cX10_init 6 = .ok (.newarray .int, 2) := by decide +kernel
theorem dX10_init_8 : decode cX10_init 8 = .ok (.putfield 9, 3) := by decide +kernel
theorem dX10_init_11 : decode cX10_init 11 = .ok (.aload_n 0, 1) := by decide +kernel
theorem dX10_init_12 : decode cX10_init 12 = .ok (.iconst 5, 1) := by decide +kernel
theorem dX10_init_13 : decode cX10_init 13 = .ok (.newarray .int, 2) := by decide +kernel
theorem dX10_init_15 : decode cX10_init 15 = .ok (.putfield 15, 3) := by decide +kernel
theorem dX10_init_18 : decode cX10_init 18 = .ok (.aload_n 0, 1) := by decide +kernel
theorem dX10_init_19 : decode cX10_init 19 = .ok (.iconst 5, 1) := by decide +kernel
theorem dX10_init_20 : decode cX10_init 20 = .ok (.newarray .int, 2) := by decide +kernel
theorem dX10_init_22 : decode cX10_init 22 = .ok (.putfield 18, 3) := by decide +kernel
theorem dX10_init_25 : decode cX10_init 25 = .ok (.aload_n 0, 1) := by decide +kernel
theorem dX10_init_26 : decode cX10_init 26 = .ok (.bipush 125, 2) := by decide +kernel
theorem dX10_init_28 : decode cX10_init 28 = .ok (.newarray .int, 2) := by decide +kernel
theorem dX10_init_30 : decode cX10_init 30 = .ok (.putfield 21, 3) := by decide +kernel
theorem dX10_init_33 : decode cX10_init 33 = .ok (.aload_n 0, 1) := by decide +kernel
theorem dX10_init_34 : decode cX10_init 34 = .ok (.iconst 5, 1) := by decide +kernel
theorem dX10_init_35 : decode cX10_init 35 = .ok (.newarray .int, 2) := by decide +kernel
theorem dX10_init_37 : decode cX10_init 37 = .ok (.putfield 24, 3) := by decide +kernel
theorem dX10_init_40 : decode cX10_init 40 = .ok (.aload_n 0, 1) := by decide +kernel
theorem dX10_init_41 : decode cX10_init 41 = .ok (.new 27, 3) := by decide +kernel
theorem dX10_init_44 : decode cX10_init 44 = .ok (.dup, 1) := by decide +kernel
theorem dX10_init_45 : decode cX10_init 45 = .ok (.invokespecial 29, 3) := by decide +kernel
theorem dX10_init_48 : decode cX10_init 48 = .ok (.putfield 30, 3) := by decide +kernel
theorem dX10_init_51 : decode cX10_init 51 = .ok (.return_, 1) := by decide +kernel
abbrev z_X10_init : List Cond := .code yX10_init cX10_init 1 none :: zW
abbrev rm_X10_init : Room := { frames := 2, cells := 7, slots := 192, locals := 40 }
set_option maxHeartbeats 4000000 in
set_option maxRecDepth 100000 in
theorem ci_X10_init (l : Launch) (D : va_G) (cs : Nat → ClassId) (h0 : Nat)  (sz : Nat) : Met l yX10_init z_X10_init rm_X10_init (va_Pc [.ref h0] (zPreO D cs [(h0, .inr (10, [.null, .null, .int 0, .null, .null, .null, .null, .int 0, .int 0]))] sz)) (va_Qv (fun _ : Nat → Nat => True) (fun (u : Nat → Nat) (t : State) => va_P D classes [(h0, .inr (10, [.ref (u 0), .ref (u 1), .int 0, .ref (u 2), .ref (u 3), .ref (u 4), .ref (u 5), .int 0, .int 0])), ((u 0), .inl (cs 0, 5, .inl (fun _ => 0))), ((u 1), .inl (cs 0, 5, .inl (fun _ => 0))), ((u 2), .inl (cs 0, 5, .inl (fun _ => 0))), ((u 3), .inl (cs 0, 125, .inl (fun _ => 0))), ((u 4), .inl (cs 0, 5, .inl (fun _ => 0))), ((u 5), .inr (7, [.int 0, .int 0, .int 0, .int 0, .int 0, .int 0, .int (-1 : Int32), .ref (u 6), .int 0, .int 0, .int 0, .int 0, .int 0, .int 0, .int 0])), ((u 6), .inl (cs 0, 32, .inl (fun _ => 0)))] t.heap ∧ va_D (va_A [(h0, .inr (10, [.null, .null, .int 0, .null, .null, .null, .null, .int 0, .int 0]))] sz) [(h0, .inr (10, [.ref (u 0), .ref (u 1), .int 0, .ref (u 2), .ref (u 3), .ref (u 4), .ref (u 5), .int 0, .int 0])), ((u 0), .inl (cs 0, 5, .inl (fun _ => 0))), ((u 1), .inl (cs 0, 5, .inl (fun _ => 0))), ((u 2), .inl (cs 0, 5, .inl (fun _ => 0))), ((u 3), .inl (cs 0, 125, .inl (fun _ => 0))), ((u 4), .inl (cs 0, 5, .inl (fun _ => 0))), ((u 5), .inr (7, [.int 0, .int 0, .int 0, .int 0, .int 0, .int 0, .int (-1 : Int32), .ref (u 6), .int 0, .int 0, .int 0, .int 0, .int 0, .int 0, .int 0])), ((u 6), .inl (cs 0, 32, .inl (fun _ => 0)))]) (va_A [(h0, .inr (10, [.null, .null, .int 0, .null, .null, .null, .null, .int 0, .int 0]))] sz)) 7 192 (va_A [(h0, .inr (10, [.null, .null, .int 0, .null, .null, .null, .null, .int 0, .int 0]))] sz) := by
  refine Met.ofW (cc := cX10_init) (maxL := 1) (ret := none) (by decide) rfl ?_
  intro p e s m args below meth c s₁ B hml hv
  obtain ⟨rfl, ⟨hsz, hP, hK, hD0⟩, hO⟩ := hv
  subst hsz
  have hD := hD0.self (sz := s.heap.size)
  have hx := B.exec
  have hb := B.bytes
  have hr := B.returns
  have ht : ∀ w ∈ zW, w.before _ s = true := fun w hw => atoms_spec (ws := z_X10_init) B.pre w (List.mem_cons_of_mem _ hw)
  have hown : s.vm.findClass RX10 = some m.cls := findClass_of_methodNamed B.named
  have hlocks := B.notSynchronized
  have hin : meth.name = "<init>" := (name_of_methodNamed B.named B.method).1
  generalize hAe : va_A [(h0, .inr (10, [.null, .null, .int 0, .null, .null, .null, .null, .int 0, .int 0]))] s.heap.size = A at hD ⊢
  have hA : ∀ q : Nat, s.heap.size ≤ q → A q := fun q h => by rw [← hAe]; exact Or.inr h
  have hS : va_S A s.heap s.heap [] := va_S.rf
  have hl := lv_entry ([.ref h0]) (n := 1) (Nat.le_of_ble_eq_true rfl)
  rw [lg_entry_eq]
  generalize (lg_sl ([.ref h0]) ++ List.replicate (1 - (lg_sl ([.ref h0])).length) Slot.unset).toArray = ls at hl ⊢
  obtain ⟨H, hH⟩ : ∃ H, H = s.heap := ⟨_, rfl⟩
  have hS : va_S A s.heap H [] := by rw [hH]; exact va_S.rf
  rw [← hH]
  have hP : va_P D classes [(h0, .inr (10, [.null, .null, .int 0, .null, .null, .null, .null, .int 0, .int 0]))] H := by rw [hH]; exact hP
  clear hH
  refine lv_aload_n hx hb dX10_init_0 rfl (lv_at hl 0 rfl) ?_
  refine W.objInit hx hb hown (ht _ kw_296) (ht _ kw_104) (ht _ kw_105) rfl (by rw [hml]; exact hl.1) rfl dX10_init_1 (Nat.le_of_ble_eq_true rfl) (Nat.le_of_ble_eq_true rfl) ?_
  refine W.eq (g2 := F0 m 4 ls []) rfl ?_
  refine lv_aload_n hx hb dX10_init_4 rfl (lv_at hl 0 rfl) ?_
  refine lv_iconst (v := (5 : Int32)) hx hb dX10_init_5 (by decide) ?_
  refine zk_newa (atype := .int) (ty := .int) (a0 := (5, .inl (fun _ => 0))) (N' := 5) hx hb (ht _ kw_184) rfl hK 0 rfl (by intro C h; cases h) hP hD hS hA (fun _ => rfl) (by decide) (by decide) (Nat.le_of_ble_eq_true rfl) (Nat.le_of_ble_eq_true rfl) (Nat.le_of_ble_eq_true rfl) dX10_init_6 (fun q_0 H hP hD hS => ?_)
  have hP : va_P D classes [(h0, .inr (10, [.null, .null, .int 0, .null, .null, .null, .null, .int 0, .int 0])), (q_0, .inl (cs 0, 5, .inl (fun _ => 0)))] H := hP
  have hD : va_D A [(h0, .inr (10, [.null, .null, .int 0, .null, .null, .null, .null, .int 0, .int 0])), (q_0, .inl (cs 0, 5, .inl (fun _ => 0)))] := hD
  refine va_putF (D := D) (ci := 10) (v := .ref q_0) (ty := .array .int) (C := RX10) (T := TX10) (N := 9) hx hb ht iX10 tyX10 tyX10_ok nmX10 hown hK hP hD hS 0 rfl rfl 0 (by decide) (ht _ kw_387) (fun _ h9 => h9) rfl hin rfl (by decide +kernel) rfl rfl (Nat.le_of_ble_eq_true rfl) dX10_init_8 (fun H locs hP hD hS => ?_)
  have hP : va_P D classes [(h0, .inr (10, [.ref q_0, .null, .int 0, .null, .null, .null, .null, .int 0, .int 0])), (q_0, .inl (cs 0, 5, .inl (fun _ => 0)))] H := hP
  have hD : va_D A [(h0, .inr (10, [.ref q_0, .null, .int 0, .null, .null, .null, .null, .int 0, .int 0])), (q_0, .inl (cs 0, 5, .inl (fun _ => 0)))] := hD
  refine lv_aload_n hx hb dX10_init_11 rfl (lv_at hl 0 rfl) ?_
  refine lv_iconst (v := (5 : Int32)) hx hb dX10_init_12 (by decide) ?_
  refine zk_newa (atype := .int) (ty := .int) (a0 := (5, .inl (fun _ => 0))) (N' := 5) hx hb (ht _ kw_184) rfl hK 0 rfl (by intro C h; cases h) hP hD hS hA (fun _ => rfl) (by decide) (by decide) (Nat.le_of_ble_eq_true rfl) (Nat.le_of_ble_eq_true rfl) (Nat.le_of_ble_eq_true rfl) dX10_init_13 (fun q_1 H hP hD hS => ?_)
  have hP : va_P D classes [(h0, .inr (10, [.ref q_0, .null, .int 0, .null, .null, .null, .null, .int 0, .int 0])), (q_0, .inl (cs 0, 5, .inl (fun _ => 0))), (q_1, .inl (cs 0, 5, .inl (fun _ => 0)))] H := hP
  have hD : va_D A [(h0, .inr (10, [.ref q_0, .null, .int 0, .null, .null, .null, .null, .int 0, .int 0])), (q_0, .inl (cs 0, 5, .inl (fun _ => 0))), (q_1, .inl (cs 0, 5, .inl (fun _ => 0)))] := hD
  refine va_putF (D := D) (ci := 10) (v := .ref q_1) (ty := .array .int) (C := RX10) (T := TX10) (N := 9) hx hb ht iX10 tyX10 tyX10_ok nmX10 hown hK hP hD hS 0 rfl rfl 1 (by decide) (ht _ kw_388) (fun _ h9 => h9) rfl hin rfl (by decide +kernel) rfl rfl (Nat.le_of_ble_eq_true rfl) dX10_init_15 (fun H locs hP hD hS => ?_)
  have hP : va_P D classes [(h0, .inr (10, [.ref q_0, .ref q_1, .int 0, .null, .null, .null, .null, .int 0, .int 0])), (q_0, .inl (cs 0, 5, .inl (fun _ => 0))), (q_1, .inl (cs 0, 5, .inl (fun _ => 0)))] H := hP
  have hD : va_D A [(h0, .inr (10, [.ref q_0, .ref q_1, .int 0, .null, .null, .null, .null, .int 0, .int 0])), (q_0, .inl (cs 0, 5, .inl (fun _ => 0))), (q_1, .inl (cs 0, 5, .inl (fun _ => 0)))] := hD
  refine lv_aload_n hx hb dX10_init_18 rfl (lv_at hl 0 rfl) ?_
  refine lv_iconst (v := (5 : Int32)) hx hb dX10_init_19 (by decide) ?_
  refine zk_newa (atype := .int) (ty := .int) (a0 := (5, .inl (fun _ => 0))) (N' := 5) hx hb (ht _ kw_184) rfl hK 0 rfl (by intro C h; cases h) hP hD hS hA (fun _ => rfl) (by decide) (by decide) (Nat.le_of_ble_eq_true rfl) (Nat.le_of_ble_eq_true rfl) (Nat.le_of_ble_eq_true rfl) dX10_init_20 (fun q_2 H hP hD hS => ?_)
  have hP : va_P D classes [(h0, .inr (10, [.ref q_0, .ref q_1, .int 0, .null, .null, .null, .null, .int 0, .int 0])), (q_0, .inl (cs 0, 5, .inl (fun _ => 0))), (q_1, .inl (cs 0, 5, .inl (fun _ => 0))), (q_2, .inl (cs 0, 5, .inl (fun _ => 0)))] H := hP
  have hD : va_D A [(h0, .inr (10, [.ref q_0, .ref q_1, .int 0, .null, .null, .null, .null, .int 0, .int 0])), (q_0, .inl (cs 0, 5, .inl (fun _ => 0))), (q_1, .inl (cs 0, 5, .inl (fun _ => 0))), (q_2, .inl (cs 0, 5, .inl (fun _ => 0)))] := hD
  refine va_putF (D := D) (ci := 10) (v := .ref q_2) (ty := .array .int) (C := RX10) (T := TX10) (N := 9) hx hb ht iX10 tyX10 tyX10_ok nmX10 hown hK hP hD hS 0 rfl rfl 3 (by decide) (ht _ kw_391) (fun _ h9 => h9) rfl hin rfl (by decide +kernel) rfl rfl (Nat.le_of_ble_eq_true rfl) dX10_init_22 (fun H locs hP hD hS => ?_)
  have hP : va_P D classes [(h0, .inr (10, [.ref q_0, .ref q_1, .int 0, .ref q_2, .null, .null, .null, .int 0, .int 0])), (q_0, .inl (cs 0, 5, .inl (fun _ => 0))), (q_1, .inl (cs 0, 5, .inl (fun _ => 0))), (q_2, .inl (cs 0, 5, .inl (fun _ => 0)))] H := hP
  have hD : va_D A [(h0, .inr (10, [.ref q_0, .ref q_1, .int 0, .ref q_2, .null, .null, .null, .int 0, .int 0])), (q_0, .inl (cs 0, 5, .inl (fun _ => 0))), (q_1, .inl (cs 0, 5, .inl (fun _ => 0))), (q_2, .inl (cs 0, 5, .inl (fun _ => 0)))] := hD
  refine lv_aload_n hx hb dX10_init_25 rfl (lv_at hl 0 rfl) ?_
  refine lv_bipush (v := (125 : Int32)) hx hb dX10_init_26 (by decide) ?_
  refine zk_newa (atype := .int) (ty := .int) (a0 := (125, .inl (fun _ => 0))) (N' := 125) hx hb (ht _ kw_184) rfl hK 0 rfl (by intro C h; cases h) hP hD hS hA (fun _ => rfl) (by decide) (by decide) (Nat.le_of_ble_eq_true rfl) (Nat.le_of_ble_eq_true rfl) (Nat.le_of_ble_eq_true rfl) dX10_init_28 (fun q_3 H hP hD hS => ?_)
  have hP : va_P D classes [(h0, .inr (10, [.ref q_0, .ref q_1, .int 0, .ref q_2, .null, .null, .null, .int 0, .int 0])), (q_0, .inl (cs 0, 5, .inl (fun _ => 0))), (q_1, .inl (cs 0, 5, .inl (fun _ => 0))), (q_2, .inl (cs 0, 5, .inl (fun _ => 0))), (q_3, .inl (cs 0, 125, .inl (fun _ => 0)))] H := hP
  have hD : va_D A [(h0, .inr (10, [.ref q_0, .ref q_1, .int 0, .ref q_2, .null, .null, .null, .int 0, .int 0])), (q_0, .inl (cs 0, 5, .inl (fun _ => 0))), (q_1, .inl (cs 0, 5, .inl (fun _ => 0))), (q_2, .inl (cs 0, 5, .inl (fun _ => 0))), (q_3, .inl (cs 0, 125, .inl (fun _ => 0)))] := hD
  refine va_putF (D := D) (ci := 10) (v := .ref q_3) (ty := .array .int) (C := RX10) (T := TX10) (N := 9) hx hb ht iX10 tyX10 tyX10_ok nmX10 hown hK hP hD hS 0 rfl rfl 4 (by decide) (ht _ kw_392) (fun _ h9 => h9) rfl hin rfl (by decide +kernel) rfl rfl (Nat.le_of_ble_eq_true rfl) dX10_init_30 (fun H locs hP hD hS => ?_)
  have hP : va_P D classes [(h0, .inr (10, [.ref q_0, .ref q_1, .int 0, .ref q_2, .ref q_3, .null, .null, .int 0, .int 0])), (q_0, .inl (cs 0, 5, .inl (fun _ => 0))), (q_1, .inl (cs 0, 5, .inl (fun _ => 0))), (q_2, .inl (cs 0, 5, .inl (fun _ => 0))), (q_3, .inl (cs 0, 125, .inl (fun _ => 0)))] H := hP
  have hD : va_D A [(h0, .inr (10, [.ref q_0, .ref q_1, .int 0, .ref q_2, .ref q_3, .null, .null, .int 0, .int 0])), (q_0, .inl (cs 0, 5, .inl (fun _ => 0))), (q_1, .inl (cs 0, 5, .inl (fun _ => 0))), (q_2, .inl (cs 0, 5, .inl (fun _ => 0))), (q_3, .inl (cs 0, 125, .inl (fun _ => 0)))] := hD
  refine lv_aload_n hx hb dX10_init_33 rfl (lv_at hl 0 rfl) ?_
  refine lv_iconst (v := (5 : Int32)) hx hb dX10_init_34 (by decide) ?_
  refine zk_newa (atype := .int) (ty := .int) (a0 := (5, .inl (fun _ => 0))) (N' := 5) hx hb (ht _ kw_184) rfl hK 0 rfl (by intro C h; cases h) hP hD hS hA (fun _ => rfl) (by decide) (by decide) (Nat.le_of_ble_eq_true rfl) (Nat.le_of_ble_eq_true rfl) (Nat.le_of_ble_eq_true rfl) dX10_init_35 (fun q_4 H hP hD hS => ?_)
  have hP : va_P D classes [(h0, .inr (10, [.ref q_0, .ref q_1, .int 0, .ref q_2, .ref q_3, .null, .null, .int 0, .int 0])), (q_0, .inl (cs 0, 5, .inl (fun _ => 0))), (q_1, .inl (cs 0, 5, .inl (fun _ => 0))), (q_2, .inl (cs 0, 5, .inl (fun _ => 0))), (q_3, .inl (cs 0, 125, .inl (fun _ => 0))), (q_4, .inl (cs 0, 5, .inl (fun _ => 0)))] H := hP
  have hD : va_D A [(h0, .inr (10, [.ref q_0, .ref q_1, .int 0, .ref q_2, .ref q_3, .null, .null, .int 0, .int 0])), (q_0, .inl (cs 0, 5, .inl (fun _ => 0))), (q_1, .inl (cs 0, 5, .inl (fun _ => 0))), (q_2, .inl (cs 0, 5, .inl (fun _ => 0))), (q_3, .inl (cs 0, 125, .inl (fun _ => 0))), (q_4, .inl (cs 0, 5, .inl (fun _ => 0)))] := hD
  refine va_putF (D := D) (ci := 10) (v := .ref q_4) (ty := .array .int) (C := RX10) (T := TX10) (N := 9) hx hb ht iX10 tyX10 tyX10_ok nmX10 hown hK hP hD hS 0 rfl rfl 5 (by decide) (ht _ kw_393) (fun _ h9 => h9) rfl hin rfl (by decide +kernel) rfl rfl (Nat.le_of_ble_eq_true rfl) dX10_init_37 (fun H locs hP hD hS => ?_)
  have hP : va_P D classes [(h0, .inr (10, [.ref q_0, .ref q_1, .int 0, .ref q_2, .ref q_3, .ref q_4, .null, .int 0, .int 0])), (q_0, .inl (cs 0, 5, .inl (fun _ => 0))), (q_1, .inl (cs 0, 5, .inl (fun _ => 0))), (q_2, .inl (cs 0, 5, .inl (fun _ => 0))), (q_3, .inl (cs 0, 125, .inl (fun _ => 0))), (q_4, .inl (cs 0, 5, .inl (fun _ => 0)))] H := hP
  have hD : va_D A [(h0, .inr (10, [.ref q_0, .ref q_1, .int 0, .ref q_2, .ref q_3, .ref q_4, .null, .int 0, .int 0])), (q_0, .inl (cs 0, 5, .inl (fun _ => 0))), (q_1, .inl (cs 0, 5, .inl (fun _ => 0))), (q_2, .inl (cs 0, 5, .inl (fun _ => 0))), (q_3, .inl (cs 0, 125, .inl (fun _ => 0))), (q_4, .inl (cs 0, 5, .inl (fun _ => 0)))] := hD
  refine lv_aload_n hx hb dX10_init_40 rfl (lv_at hl 0 rfl) ?_
  refine va_new (ci := 7) (fs := [.int 0, .int 0, .int 0, .int 0, .int 0, .int 0, .int 0, .null, .int 0, .int 0, .int 0, .int 0, .int 0, .int 0, .int 0]) (C := RX7) (T := TX7) (N := 15) hx hb ht iX7 tyX7 tyX7_ok hown (ht _ kw_297) (ht _ kw_298) (ht _ kw_82) hK hP hD hS hA rfl (zkDX7) (Nat.le_of_ble_eq_true rfl) (Nat.le_of_ble_eq_true rfl) dX10_init_41 (fun q_5 H hP hD hS => ?_)
  have hP : va_P D classes [(h0, .inr (10, [.ref q_0, .ref q_1, .int 0, .ref q_2, .ref q_3, .ref q_4, .null, .int 0, .int 0])), (q_0, .inl (cs 0, 5, .inl (fun _ => 0))), (q_1, .inl (cs 0, 5, .inl (fun _ => 0))), (q_2, .inl (cs 0, 5, .inl (fun _ => 0))), (q_3, .inl (cs 0, 125, .inl (fun _ => 0))), (q_4, .inl (cs 0, 5, .inl (fun _ => 0))), (q_5, .inr (7, [.int 0, .int 0, .int 0, .int 0, .int 0, .int 0, .int 0, .null, .int 0, .int 0, .int 0, .int 0, .int 0, .int 0, .int 0]))] H := hP
  have hD : va_D A [(h0, .inr (10, [.ref q_0, .ref q_1, .int 0, .ref q_2, .ref q_3, .ref q_4, .null, .int 0, .int 0])), (q_0, .inl (cs 0, 5, .inl (fun _ => 0))), (q_1, .inl (cs 0, 5, .inl (fun _ => 0))), (q_2, .inl (cs 0, 5, .inl (fun _ => 0))), (q_3, .inl (cs 0, 125, .inl (fun _ => 0))), (q_4, .inl (cs 0, 5, .inl (fun _ => 0))), (q_5, .inr (7, [.int 0, .int 0, .int 0, .int 0, .int 0, .int 0, .int 0, .null, .int 0, .int 0, .int 0, .int 0, .int 0, .int 0, .int 0]))] := hD
  refine lv_dup hx hb dX10_init_44 rfl ?_
  refine zk_jv (post := fun _ => True) (w1 := fun (u : Nat → Nat) => [(q_5, .inr (7, [.int 0, .int 0, .int 0, .int 0, .int 0, .int 0, .int (-1 : Int32), .ref (u 0), .int 0, .int 0, .int 0, .int 0, .int 0, .int 0, .int 0])), ((u 0), .inl (cs 0, 32, .inl (fun _ => 0)))]) (As := []) (rest := [.ref q_5, .ref h0]) (ci_X7_init l D cs q_5  H.size) ⟨hx, hb, hml, hown, ht⟩ (⟨va_cnB 0 ht (zGN kw_301) rfl rfl rfl (zOn hO 3 rfl) (ht _ kw_82) (by decide +kernel) ⟨Nat.le_of_ble_eq_true rfl, Nat.le_of_ble_eq_true rfl⟩, rfl, ht _ kw_300⟩) hP hD hS hK hA [6] [0, 1, 2, 3, 4, 5] rfl rfl rfl rfl (by decide) rfl hl.1 (Nat.le_of_ble_eq_true rfl) dX10_init_45 ⟨Nat.le_of_ble_eq_true rfl, Nat.le_of_ble_eq_true rfl⟩ (fun qq_45 H locs hq hP hD hS => ?_)
  have hP : va_P D classes [(h0, .inr (10, [.ref q_0, .ref q_1, .int 0, .ref q_2, .ref q_3, .ref q_4, .null, .int 0, .int 0])), (q_0, .inl (cs 0, 5, .inl (fun _ => 0))), (q_1, .inl (cs 0, 5, .inl (fun _ => 0))), (q_2, .inl (cs 0, 5, .inl (fun _ => 0))), (q_3, .inl (cs 0, 125, .inl (fun _ => 0))), (q_4, .inl (cs 0, 5, .inl (fun _ => 0))), (q_5, .inr (7, [.int 0, .int 0, .int 0, .int 0, .int 0, .int 0, .int (-1 : Int32), .ref (qq_45 0), .int 0, .int 0, .int 0, .int 0, .int 0, .int 0, .int 0])), ((qq_45 0), .inl (cs 0, 32, .inl (fun _ => 0)))] H := hP
  have hD : va_D A [(h0, .inr (10, [.ref q_0, .ref q_1, .int 0, .ref q_2, .ref q_3, .ref q_4, .null, .int 0, .int 0])), (q_0, .inl (cs 0, 5, .inl (fun _ => 0))), (q_1, .inl (cs 0, 5, .inl (fun _ => 0))), (q_2, .inl (cs 0, 5, .inl (fun _ => 0))), (q_3, .inl (cs 0, 125, .inl (fun _ => 0))), (q_4, .inl (cs 0, 5, .inl (fun _ => 0))), (q_5, .inr (7, [.int 0, .int 0, .int 0, .int 0, .int 0, .int 0, .int (-1 : Int32), .ref (qq_45 0), .int 0, .int 0, .int 0, .int 0, .int 0, .int 0, .int 0])), ((qq_45 0), .inl (cs 0, 32, .inl (fun _ => 0)))] := hD
  refine va_putF (D := D) (ci := 10) (v := .ref q_5) (ty := .object "AlreadyJudged$Suit") (C := RX10) (T := TX10) (N := 9) hx hb ht iX10 tyX10 tyX10_ok nmX10 hown hK hP hD hS 0 rfl rfl 6 (by decide) (ht _ kw_394) (fun _ h9 => h9) rfl hin rfl (by decide +kernel) rfl rfl (Nat.le_of_ble_eq_true rfl) dX10_init_48 (fun H locs hP hD hS => ?_)
  have hP : va_P D classes [(h0, .inr (10, [.ref q_0, .ref q_1, .int 0, .ref q_2, .ref q_3, .ref q_4, .ref q_5, .int 0, .int 0])), (q_0, .inl (cs 0, 5, .inl (fun _ => 0))), (q_1, .inl (cs 0, 5, .inl (fun _ => 0))), (q_2, .inl (cs 0, 5, .inl (fun _ => 0))), (q_3, .inl (cs 0, 125, .inl (fun _ => 0))), (q_4, .inl (cs 0, 5, .inl (fun _ => 0))), (q_5, .inr (7, [.int 0, .int 0, .int 0, .int 0, .int 0, .int 0, .int (-1 : Int32), .ref (qq_45 0), .int 0, .int 0, .int 0, .int 0, .int 0, .int 0, .int 0])), ((qq_45 0), .inl (cs 0, 32, .inl (fun _ => 0)))] H := hP
  have hD : va_D A [(h0, .inr (10, [.ref q_0, .ref q_1, .int 0, .ref q_2, .ref q_3, .ref q_4, .ref q_5, .int 0, .int 0])), (q_0, .inl (cs 0, 5, .inl (fun _ => 0))), (q_1, .inl (cs 0, 5, .inl (fun _ => 0))), (q_2, .inl (cs 0, 5, .inl (fun _ => 0))), (q_3, .inl (cs 0, 125, .inl (fun _ => 0))), (q_4, .inl (cs 0, 5, .inl (fun _ => 0))), (q_5, .inr (7, [.int 0, .int 0, .int 0, .int 0, .int 0, .int 0, .int (-1 : Int32), .ref (qq_45 0), .int 0, .int 0, .int 0, .int 0, .int 0, .int 0, .int 0])), ((qq_45 0), .inl (cs 0, 32, .inl (fun _ => 0)))] := hD
  refine W.widen (k := 7) (n := 192) (Nat.le_of_ble_eq_true rfl) (Nat.le_of_ble_eq_true rfl) ?_
  exact W.vret hx hb hr (fun t ht2 hW => ⟨⟨fun k => [q_0, q_1, q_2, q_3, q_4, q_5, (qq_45 0)].getD k 0, rfl, trivial, by rw [ht2]; exact hP, hD⟩, hS.F ht2⟩) hS.2.2 dX10_init_51 hlocks
theorem kw_423 : Cond.methodLink RX1 3 objectInit ∈ zW := zwI (i := 423) (by decide +kernel) (by decide +kernel)
theorem kw_424 : Cond.fieldLink RX1 24 "AlreadyJudged$Changes" "court" "LAlreadyJudged$Court;" ∈ zW := zwI (i := 424) (by decide +kernel) (by decide +kernel)
theorem kw_425 : Cond.fieldLink RX1 9 "AlreadyJudged$Changes" "sorts" "[I" ∈ zW := zwI (i := 425) (by decide +kernel) (by decide +kernel)
theorem kw_426 : Cond.fieldLink RX1 15 "AlreadyJudged$Changes" "numbers" "[I" ∈ zW := zwI (i := 426) (by decide +kernel) (by decide +kernel)
theorem kw_427 : Cond.fieldLink RX1 18 "AlreadyJudged$Changes" "befores" "[I" ∈ zW := zwI (i := 427) (by decide +kernel) (by decide +kernel)
theorem kw_428 : Cond.fieldLink RX1 21 "AlreadyJudged$Changes" "afters" "[I" ∈ zW := zwI (i := 428) (by decide +kernel) (by decide +kernel)
theorem dX1_init_0 : decode cX1_init 0 = .ok (.aload_n 0, 1) := by decide +kernel
theorem dX1_init_1 : decode cX1_init 1 = .ok (.invokespecial 3, 3) := by decide +kernel
theorem dX1_init_4 : decode cX1_init 4 = .ok (.aload_n 0, 1) := by decide +kernel
theorem dX1_init_5 : decode cX1_init 5 = .ok (.bipush 40, 2) := by decide +kernel
theorem dX1_init_7 : decode cX1_init 7 = .ok (.newarray .int, 2) := by decide +kernel
theorem dX1_init_9 : decode cX1_init 9 = .ok (.putfield 9, 3) := by decide +kernel
theorem dX1_init_12 : decode cX1_init 12 = .ok (.aload_n 0, 1) := by decide +kernel
theorem dX1_init_13 : decode cX1_init 13 = .ok (.bipush 40, 2) := by decide +kernel
theorem dX1_init_15 : decode cX1_init 15 = .ok (.newarray .int, 2) := by decide +kernel
theorem dX1_init_17 : decode cX1_init 17 = .ok (.putfield 15, 3) := by decide +kernel
theorem dX1_init_20 : decode cX1_init 20 = .ok (.aload_n 0, 1) := by decide +kernel
theorem dX1_init_21 : decode cX1_init 21 = .ok (.bipush 40, 2) := by decide +kernel
theorem dX1_init_23 : decode cX1_init 23 = .ok (.newarray .int, 2) := by decide +kernel
theorem dX1_init_25 : decode cX1_init 25 = .ok (.putfield 18, 3) := by decide +kernel
theorem dX1_init_28 : decode cX1_init 28 = .ok (.aload_n 0, 1) := by decide +kernel
theorem dX1_init_29 : decode cX1_init 29 = .ok (.bipush 40, 2) := by decide +kernel
theorem dX1_init_31 : decode cX1_init 31 = .ok (.newarray .int, 2) := by decide +kernel
theorem dX1_init_33 : decode cX1_init 33 = .ok (.putfield 21, 3) := by decide +kernel
theorem dX1_init_36 : decode cX1_init 36 = .ok (.aload_n 0, 1) := by decide +kernel
theorem dX1_init_37 : decode cX1_init 37 = .ok (.aload_n 1, 1) := by decide +kernel
theorem dX1_init_38 : decode cX1_init 38 = .ok (.putfield 24, 3) := by decide +kernel
theorem dX1_init_41 : decode cX1_init 41 = .ok (.return_, 1) := by decide +kernel
abbrev z_X1_init : List Cond := .code yX1_init cX1_init 2 none :: zW
abbrev rm_X1_init : Room := { frames := 1, cells := 4, slots := 160, locals := 20 }
set_option maxHeartbeats 4000000 in
set_option maxRecDepth 100000 in
theorem ci_X1_init (l : Launch) (D : va_G) (cs : Nat → ClassId) (h0 : Nat) (p1 : Nat) (sz : Nat) : Met l yX1_init z_X1_init rm_X1_init (va_Pc [.ref h0, .ref p1] (zPre D cs [(h0, .inr (1, [.null, .null, .null, .null, .null, .int 0, .int 0]))] sz)) (va_Qv (fun _ : Nat → Nat => True) (fun (u : Nat → Nat) (t : State) => va_P D classes [(h0, .inr (1, [.ref p1, .ref (u 0), .ref (u 1), .ref (u 2), .ref (u 3), .int 0, .int 0])), ((u 0), .inl (cs 0, 40, .inl (fun _ => 0))), ((u 1), .inl (cs 0, 40, .inl (fun _ => 0))), ((u 2), .inl (cs 0, 40, .inl (fun _ => 0))), ((u 3), .inl (cs 0, 40, .inl (fun _ => 0)))] t.heap ∧ va_D (va_A [(h0, .inr (1, [.null, .null, .null, .null, .null, .int 0, .int 0]))] sz) [(h0, .inr (1, [.ref p1, .ref (u 0), .ref (u 1), .ref (u 2), .ref (u 3), .int 0, .int 0])), ((u 0), .inl (cs 0, 40, .inl (fun _ => 0))), ((u 1), .inl (cs 0, 40, .inl (fun _ => 0))), ((u 2), .inl (cs 0, 40, .inl (fun _ => 0))), ((u 3), .inl (cs 0, 40, .inl (fun _ => 0)))]) (va_A [(h0, .inr (1, [.null, .null, .null, .null, .null, .int 0, .int 0]))] sz)) 4 160 (va_A [(h0, .inr (1, [.null, .null, .null, .null, .null, .int 0, .int 0]))] sz) := by
  refine Met.ofW (cc := cX1_init) (maxL := 2) (ret := none) (by decide) rfl ?_
  intro p e s m args below meth c s₁ B hml hv
  obtain ⟨rfl, hsz, hP, hK, hD0⟩ := hv
  subst hsz
  have hD := hD0.self (sz := s.heap.size)
  have hx := B.exec
  have hb := B.bytes
  have hr := B.returns
  have ht : ∀ w ∈ zW, w.before _ s = true := fun w hw => atoms_spec (ws := z_X1_init) B.pre w (List.mem_cons_of_mem _ hw)
  have hown : s.vm.findClass RX1 = some m.cls := findClass_of_methodNamed B.named
  have hlocks := B.notSynchronized
  have hin : meth.name = "<init>" := (name_of_methodNamed B.named B.method).1
  generalize hAe : va_A [(h0, .inr (1, [.null, .null, .null, .null, .null, .int 0, .int 0]))] s.heap.size = A at hD ⊢
  have hA : ∀ q : Nat, s.heap.size ≤ q → A q := fun q h => by rw [← hAe]; exact Or.inr h
  have hS : va_S A s.heap s.heap [] := va_S.rf
  have hl := lv_entry ([.ref h0, .ref p1]) (n := 2) (Nat.le_of_ble_eq_true rfl)
  rw [lg_entry_eq]
  generalize (lg_sl ([.ref h0, .ref p1]) ++ List.replicate (2 - (lg_sl ([.ref h0, .ref p1])).length) Slot.unset).toArray = ls at hl ⊢
  obtain ⟨H, hH⟩ : ∃ H, H = s.heap := ⟨_, rfl⟩
  have hS : va_S A s.heap H [] := by rw [hH]; exact va_S.rf
  rw [← hH]
  have hP : va_P D classes [(h0, .inr (1, [.null, .null, .null, .null, .null, .int 0, .int 0]))] H := by rw [hH]; exact hP
  clear hH
  refine lv_aload_n hx hb dX1_init_0 rfl (lv_at hl 0 rfl) ?_
  refine W.objInit hx hb hown (ht _ kw_423) (ht _ kw_104) (ht _ kw_105) rfl (by rw [hml]; exact hl.1) rfl dX1_init_1 (Nat.le_of_ble_eq_true rfl) (Nat.le_of_ble_eq_true rfl) ?_
  refine W.eq (g2 := F0 m 4 ls []) rfl ?_
  refine lv_aload_n hx hb dX1_init_4 rfl (lv_at hl 0 rfl) ?_
  refine lv_bipush (v := (40 : Int32)) hx hb dX1_init_5 (by decide) ?_
  refine zk_newa (atype := .int) (ty := .int) (a0 := (40, .inl (fun _ => 0))) (N' := 40) hx hb (ht _ kw_184) rfl hK 0 rfl (by intro C h; cases h) hP hD hS hA (fun _ => rfl) (by decide) (by decide) (Nat.le_of_ble_eq_true rfl) (Nat.le_of_ble_eq_true rfl) (Nat.le_of_ble_eq_true rfl) dX1_init_7 (fun q_0 H hP hD hS => ?_)
  have hP : va_P D classes [(h0, .inr (1, [.null, .null, .null, .null, .null, .int 0, .int 0])), (q_0, .inl (cs 0, 40, .inl (fun _ => 0)))] H := hP
  have hD : va_D A [(h0, .inr (1, [.null, .null, .null, .null, .null, .int 0, .int 0])), (q_0, .inl (cs 0, 40, .inl (fun _ => 0)))] := hD
  refine va_putF (D := D) (ci := 1) (v := .ref q_0) (ty := .array .int) (C := RX1) (T := TX1) (N := 7) hx hb ht iX1 tyX1 tyX1_ok nmX1 hown hK hP hD hS 0 rfl rfl 1 (by decide) (ht _ kw_425) (fun _ h9 => h9) rfl hin rfl (by decide +kernel) rfl rfl (Nat.le_of_ble_eq_true rfl) dX1_init_9 (fun H locs hP hD hS => ?_)
  have hP : va_P D classes [(h0, .inr (1, [.null, .ref q_0, .null, .null, .null, .int 0, .int 0])), (q_0, .inl (cs 0, 40, .inl (fun _ => 0)))] H := hP
  have hD : va_D A [(h0, .inr (1, [.null, .ref q_0, .null, .null, .null, .int 0, .int 0])), (q_0, .inl (cs 0, 40, .inl (fun _ => 0)))] := hD
  refine lv_aload_n hx hb dX1_init_12 rfl (lv_at hl 0 rfl) ?_
  refine lv_bipush (v := (40 : Int32)) hx hb dX1_init_13 (by decide) ?_
  refine zk_newa (atype := .int) (ty := .int) (a0 := (40, .inl (fun _ => 0))) (N' := 40) hx hb (ht _ kw_184) rfl hK 0 rfl (by intro C h; cases h) hP hD hS hA (fun _ => rfl) (by decide) (by decide) (Nat.le_of_ble_eq_true rfl) (Nat.le_of_ble_eq_true rfl) (Nat.le_of_ble_eq_true rfl) dX1_init_15 (fun q_1 H hP hD hS => ?_)
  have hP : va_P D classes [(h0, .inr (1, [.null, .ref q_0, .null, .null, .null, .int 0, .int 0])), (q_0, .inl (cs 0, 40, .inl (fun _ => 0))), (q_1, .inl (cs 0, 40, .inl (fun _ => 0)))] H := hP
  have hD : va_D A [(h0, .inr (1, [.null, .ref q_0, .null, .null, .null, .int 0, .int 0])), (q_0, .inl (cs 0, 40, .inl (fun _ => 0))), (q_1, .inl (cs 0, 40, .inl (fun _ => 0)))] := hD
  refine va_putF (D := D) (ci := 1) (v := .ref q_1) (ty := .array .int) (C := RX1) (T := TX1) (N := 7) hx hb ht iX1 tyX1 tyX1_ok nmX1 hown hK hP hD hS 0 rfl rfl 2 (by decide) (ht _ kw_426) (fun _ h9 => h9) rfl hin rfl (by decide +kernel) rfl rfl (Nat.le_of_ble_eq_true rfl) dX1_init_17 (fun H locs hP hD hS => ?_)
  have hP : va_P D classes [(h0, .inr (1, [.null, .ref q_0, .ref q_1, .null, .null, .int 0, .int 0])), (q_0, .inl (cs 0, 40, .inl (fun _ => 0))), (q_1, .inl (cs 0, 40, .inl (fun _ => 0)))] H := hP
  have hD : va_D A [(h0, .inr (1, [.null, .ref q_0, .ref q_1, .null, .null, .int 0, .int 0])), (q_0, .inl (cs 0, 40, .inl (fun _ => 0))), (q_1, .inl (cs 0, 40, .inl (fun _ => 0)))] := hD
  refine lv_aload_n hx hb dX1_init_20 rfl (lv_at hl 0 rfl) ?_
  refine lv_bipush (v := (40 : Int32)) hx hb dX1_init_21 (by decide) ?_
  refine zk_newa (atype := .int) (ty := .int) (a0 := (40, .inl (fun _ => 0))) (N' := 40) hx hb (ht _ kw_184) rfl hK 0 rfl (by intro C h; cases h) hP hD hS hA (fun _ => rfl) (by decide) (by decide) (Nat.le_of_ble_eq_true rfl) (Nat.le_of_ble_eq_true rfl) (Nat.le_of_ble_eq_true rfl) dX1_init_23 (fun q_2 H hP hD hS => ?_)
  have hP : va_P D classes [(h0, .inr (1, [.null, .ref q_0, .ref q_1, .null, .null, .int 0, .int 0])), (q_0, .inl (cs 0, 40, .inl (fun _ => 0))), (q_1, .inl (cs 0, 40, .inl (fun _ => 0))), (q_2, .inl (cs 0, 40, .inl (fun _ => 0)))] H := hP
  have hD : va_D A [(h0, .inr (1, [.null, .ref q_0, .ref q_1, .null, .null, .int 0, .int 0])), (q_0, .inl (cs 0, 40, .inl (fun _ => 0))), (q_1, .inl (cs 0, 40, .inl (fun _ => 0))), (q_2, .inl (cs 0, 40, .inl (fun _ => 0)))] := hD
  refine va_putF (D := D) (ci := 1) (v := .ref q_2) (ty := .array .int) (C := RX1) (T := TX1) (N := 7) hx hb ht iX1 tyX1 tyX1_ok nmX1 hown hK hP hD hS 0 rfl rfl 3 (by decide) (ht _ kw_427) (fun _ h9 => h9) rfl hin rfl (by decide +kernel) rfl rfl (Nat.le_of_ble_eq_true rfl) dX1_init_25 (fun H locs hP hD hS => ?_)
  have hP : va_P D classes [(h0, .inr (1, [.null, .ref q_0, .ref q_1, .ref q_2, .null, .int 0, .int 0])), (q_0, .inl (cs 0, 40, .inl (fun _ => 0))), (q_1, .inl (cs 0, 40, .inl (fun _ => 0))), (q_2, .inl (cs 0, 40, .inl (fun _ => 0)))] H := hP
  have hD : va_D A [(h0, .inr (1, [.null, .ref q_0, .ref q_1, .ref q_2, .null, .int 0, .int 0])), (q_0, .inl (cs 0, 40, .inl (fun _ => 0))), (q_1, .inl (cs 0, 40, .inl (fun _ => 0))), (q_2, .inl (cs 0, 40, .inl (fun _ => 0)))] := hD
  refine lv_aload_n hx hb dX1_init_28 rfl (lv_at hl 0 rfl) ?_
  refine lv_bipush (v := (40 : Int32)) hx hb dX1_init_29 (by decide) ?_
  refine zk_newa (atype := .int) (ty := .int) (a0 := (40, .inl (fun _ => 0))) (N' := 40) hx hb (ht _ kw_184) rfl hK 0 rfl (by intro C h; cases h) hP hD hS hA (fun _ => rfl) (by decide) (by decide) (Nat.le_of_ble_eq_true rfl) (Nat.le_of_ble_eq_true rfl) (Nat.le_of_ble_eq_true rfl) dX1_init_31 (fun q_3 H hP hD hS => ?_)
  have hP : va_P D classes [(h0, .inr (1, [.null, .ref q_0, .ref q_1, .ref q_2, .null, .int 0, .int 0])), (q_0, .inl (cs 0, 40, .inl (fun _ => 0))), (q_1, .inl (cs 0, 40, .inl (fun _ => 0))), (q_2, .inl (cs 0, 40, .inl (fun _ => 0))), (q_3, .inl (cs 0, 40, .inl (fun _ => 0)))] H := hP
  have hD : va_D A [(h0, .inr (1, [.null, .ref q_0, .ref q_1, .ref q_2, .null, .int 0, .int 0])), (q_0, .inl (cs 0, 40, .inl (fun _ => 0))), (q_1, .inl (cs 0, 40, .inl (fun _ => 0))), (q_2, .inl (cs 0, 40, .inl (fun _ => 0))), (q_3, .inl (cs 0, 40, .inl (fun _ => 0)))] := hD
  refine va_putF (D := D) (ci := 1) (v := .ref q_3) (ty := .array .int) (C := RX1) (T := TX1) (N := 7) hx hb ht iX1 tyX1 tyX1_ok nmX1 hown hK hP hD hS 0 rfl rfl 4 (by decide) (ht _ kw_428) (fun _ h9 => h9) rfl hin rfl (by decide +kernel) rfl rfl (Nat.le_of_ble_eq_true rfl) dX1_init_33 (fun H locs hP hD hS => ?_)
  have hP : va_P D classes [(h0, .inr (1, [.null, .ref q_0, .ref q_1, .ref q_2, .ref q_3, .int 0, .int 0])), (q_0, .inl (cs 0, 40, .inl (fun _ => 0))), (q_1, .inl (cs 0, 40, .inl (fun _ => 0))), (q_2, .inl (cs 0, 40, .inl (fun _ => 0))), (q_3, .inl (cs 0, 40, .inl (fun _ => 0)))] H := hP
  have hD : va_D A [(h0, .inr (1, [.null, .ref q_0, .ref q_1, .ref q_2, .ref q_3, .int 0, .int 0])), (q_0, .inl (cs 0, 40, .inl (fun _ => 0))), (q_1, .inl (cs 0, 40, .inl (fun _ => 0))), (q_2, .inl (cs 0, 40, .inl (fun _ => 0))), (q_3, .inl (cs 0, 40, .inl (fun _ => 0)))] := hD
  refine lv_aload_n hx hb dX1_init_36 rfl (lv_at hl 0 rfl) ?_
  refine lv_aload_n hx hb dX1_init_37 rfl (lv_at hl 1 rfl) ?_
  refine va_putF (D := D) (ci := 1) (v := .ref p1) (ty := .object "AlreadyJudged$Court") (C := RX1) (T := TX1) (N := 7) hx hb ht iX1 tyX1 tyX1_ok nmX1 hown hK hP hD hS 0 rfl rfl 0 (by decide) (ht _ kw_424) (fun _ h9 => h9) rfl hin rfl (by decide +kernel) rfl rfl (Nat.le_of_ble_eq_true rfl) dX1_init_38 (fun H locs hP hD hS => ?_)
  have hP : va_P D classes [(h0, .inr (1, [.ref p1, .ref q_0, .ref q_1, .ref q_2, .ref q_3, .int 0, .int 0])), (q_0, .inl (cs 0, 40, .inl (fun _ => 0))), (q_1, .inl (cs 0, 40, .inl (fun _ => 0))), (q_2, .inl (cs 0, 40, .inl (fun _ => 0))), (q_3, .inl (cs 0, 40, .inl (fun _ => 0)))] H := hP
  have hD : va_D A [(h0, .inr (1, [.ref p1, .ref q_0, .ref q_1, .ref q_2, .ref q_3, .int 0, .int 0])), (q_0, .inl (cs 0, 40, .inl (fun _ => 0))), (q_1, .inl (cs 0, 40, .inl (fun _ => 0))), (q_2, .inl (cs 0, 40, .inl (fun _ => 0))), (q_3, .inl (cs 0, 40, .inl (fun _ => 0)))] := hD
  refine W.widen (k := 4) (n := 160) (Nat.le_of_ble_eq_true rfl) (Nat.le_of_ble_eq_true rfl) ?_
  exact W.vret hx hb hr (fun t ht2 hW => ⟨⟨fun k => [q_0, q_1, q_2, q_3].getD k 0, rfl, trivial, by rw [ht2]; exact hP, hD⟩, hS.F ht2⟩) hS.2.2 dX1_init_41 hlocks
theorem kw_452 : Cond.methodLink RX0 3 objectInit ∈ zW := zwI (i := 452) (by decide +kernel) (by decide +kernel)
theorem kw_453 : Cond.fieldLink RX0 9 "AlreadyJudged$Acts" "bodies" "[I" ∈ zW := zwI (i := 453) (by decide +kernel) (by decide +kernel)
theorem dX0_init_0 : decode cX0_init 0 = .ok (.aload_n 0, 1) := by decide +kernel
theorem dX0_init_1 : decode cX0_init 1 = .ok (.invokespecial 3, 3) := by decide +kernel
theorem dX0_init_4 : decode cX0_init 4 = .ok (.aload_n 0, 1) := by decide +kernel
theorem dX0_init_5 : decode cX0_init 5 = .ok (.bipush 24, 2) := by decide +kernel
theorem dX0_init_7 : decode cX0_init 7 = .ok (.newarray .int, 2) := by decide +kernel
theorem dX0_init_9 : decode cX0_init 9 = .ok (.putfield 9, 3) := by decide +kernel
theorem dX0_init_12 : decode cX0_init 12 = .ok (.return_, 1) := by decide +kernel
abbrev z_X0_init : List Cond := .code yX0_init cX0_init 1 none :: zW
abbrev rm_X0_init : Room := { frames := 1, cells := 1, slots := 24, locals := 20 }
set_option maxHeartbeats 4000000 in
set_option maxRecDepth 100000 in
theorem ci_X0_init (l : Launch) (D : va_G) (cs : Nat → ClassId) (h0 : Nat)  (sz : Nat) : Met l yX0_init z_X0_init rm_X0_init (va_Pc [.ref h0] (zPre D cs [(h0, .inr (0, [.null, .int 0, .int 0, .int 0, .int 0]))] sz)) (va_Qv (fun _ : Nat → Nat => True) (fun (u : Nat → Nat) (t : State) => va_P D classes [(h0, .inr (0, [.ref (u 0), .int 0, .int 0, .int 0, .int 0])), ((u 0), .inl (cs 0, 24, .inl (fun _ => 0)))] t.heap ∧ va_D (va_A [(h0, .inr (0, [.null, .int 0, .int 0, .int 0, .int 0]))] sz) [(h0, .inr (0, [.ref (u 0), .int 0, .int 0, .int 0, .int 0])), ((u 0), .inl (cs 0, 24, .inl (fun _ => 0)))]) (va_A [(h0, .inr (0, [.null, .int 0, .int 0, .int 0, .int 0]))] sz)) 1 24 (va_A [(h0, .inr (0, [.null, .int 0, .int 0, .int 0, .int 0]))] sz) := by
  refine Met.ofW (cc := cX0_init) (maxL := 1) (ret := none) (by decide) rfl ?_
  intro p e s m args below meth c s₁ B hml hv
  obtain ⟨rfl, hsz, hP, hK, hD0⟩ := hv
  subst hsz
  have hD := hD0.self (sz := s.heap.size)
  have hx := B.exec
  have hb := B.bytes
  have hr := B.returns
  have ht : ∀ w ∈ zW, w.before _ s = true := fun w hw => atoms_spec (ws := z_X0_init) B.pre w (List.mem_cons_of_mem _ hw)
  have hown : s.vm.findClass RX0 = some m.cls := findClass_of_methodNamed B.named
  have hlocks := B.notSynchronized
  have hin : meth.name = "<init>" := (name_of_methodNamed B.named B.method).1
  generalize hAe : va_A [(h0, .inr (0, [.null, .int 0, .int 0, .int 0, .int 0]))] s.heap.size = A at hD ⊢
  have hA : ∀ q : Nat, s.heap.size ≤ q → A q := fun q h => by rw [← hAe]; exact Or.inr h
  have hS : va_S A s.heap s.heap [] := va_S.rf
  have hl := lv_entry ([.ref h0]) (n := 1) (Nat.le_of_ble_eq_true rfl)
  rw [lg_entry_eq]
  generalize (lg_sl ([.ref h0]) ++ List.replicate (1 - (lg_sl ([.ref h0])).length) Slot.unset).toArray = ls at hl ⊢
  obtain ⟨H, hH⟩ : ∃ H, H = s.heap := ⟨_, rfl⟩
  have hS : va_S A s.heap H [] := by rw [hH]; exact va_S.rf
  rw [← hH]
  have hP : va_P D classes [(h0, .inr (0, [.null, .int 0, .int 0, .int 0, .int 0]))] H := by rw [hH]; exact hP
  clear hH
  refine lv_aload_n hx hb dX0_init_0 rfl (lv_at hl 0 rfl) ?_
  refine W.objInit hx hb hown (ht _ kw_452) (ht _ kw_104) (ht _ kw_105) rfl (by rw [hml]; exact hl.1) rfl dX0_init_1 (Nat.le_of_ble_eq_true rfl) (Nat.le_of_ble_eq_true rfl) ?_
  refine W.eq (g2 := F0 m 4 ls []) rfl ?_
  refine lv_aload_n hx hb dX0_init_4 rfl (lv_at hl 0 rfl) ?_
  refine lv_bipush (v := (24 : Int32)) hx hb dX0_init_5 (by decide) ?_
  refine zk_newa (atype := .int) (ty := .int) (a0 := (24, .inl (fun _ => 0))) (N' := 24) hx hb (ht _ kw_184) rfl hK 0 rfl (by intro C h; cases h) hP hD hS hA (fun _ => rfl) (by decide) (by decide) (Nat.le_of_ble_eq_true rfl) (Nat.le_of_ble_eq_true rfl) (Nat.le_of_ble_eq_true rfl) dX0_init_7 (fun q_0 H hP hD hS => ?_)
  have hP : va_P D classes [(h0, .inr (0, [.null, .int 0, .int 0, .int 0, .int 0])), (q_0, .inl (cs 0, 24, .inl (fun _ => 0)))] H := hP
  have hD : va_D A [(h0, .inr (0, [.null, .int 0, .int 0, .int 0, .int 0])), (q_0, .inl (cs 0, 24, .inl (fun _ => 0)))] := hD
  refine va_putF (D := D) (ci := 0) (v := .ref q_0) (ty := .array .int) (C := RX0) (T := TX0) (N := 5) hx hb ht iX0 tyX0 tyX0_ok nmX0 hown hK hP hD hS 0 rfl rfl 0 (by decide) (ht _ kw_453) (fun _ h9 => h9) rfl hin rfl (by decide +kernel) rfl rfl (Nat.le_of_ble_eq_true rfl) dX0_init_9 (fun H locs hP hD hS => ?_)
  have hP : va_P D classes [(h0, .inr (0, [.ref q_0, .int 0, .int 0, .int 0, .int 0])), (q_0, .inl (cs 0, 24, .inl (fun _ => 0)))] H := hP
  have hD : va_D A [(h0, .inr (0, [.ref q_0, .int 0, .int 0, .int 0, .int 0])), (q_0, .inl (cs 0, 24, .inl (fun _ => 0)))] := hD
  refine W.widen (k := 1) (n := 24) (Nat.le_of_ble_eq_true rfl) (Nat.le_of_ble_eq_true rfl) ?_
  exact W.vret hx hb hr (fun t ht2 hW => ⟨⟨fun k => [q_0].getD k 0, rfl, trivial, by rw [ht2]; exact hP, hD⟩, hS.F ht2⟩) hS.2.2 dX0_init_12 hlocks
theorem kw_679 : Cond.methodLink RX6 3 objectInit ∈ zW := zwI (i := 679) (by decide +kernel) (by decide +kernel)
theorem kw_680 : Cond.fieldLink RX6 11 "AlreadyJudged$Place" "holds" "I" ∈ zW := zwI (i := 680) (by decide +kernel) (by decide +kernel)
theorem kw_685 : Cond.fieldLink RX6 15 "AlreadyJudged$Place" "elements" "[J" ∈ zW := zwI (i := 685) (by decide +kernel) (by decide +kernel)
theorem dX6_init_0 : decode cX6_init 0 = .ok (.aload_n 0, 1) := by decide +kernel
theorem dX6_init_1 : decode cX6_init 1 = .ok (.invokespecial 3, 3) := by decide +kernel
theorem dX6_init_4 : decode cX6_init 4 = .ok (.aload_n 0, 1) := by decide +kernel
theorem dX6_init_5 : decode cX6_init 5 = .ok (.iconst (-1), 1) := by decide +kernel
theorem dX6_init_6 : decode cX6_init 6 = .ok (.putfield 11, 3) := by decide +kernel
theorem dX6_init_9 : decode cX6_init 9 = .ok (.aload_n 0, 1) := by decide +kernel
theorem dX6_init_10 : decode cX6_init 10 = .ok (.bipush 60, 2) := by decide +kernel
theorem dX6_init_12 : decode cX6_init 12 = .ok (.newarray .long, 2) := by decide +kernel
theorem dX6_init_14 : decode cX6_init 14 = .ok (.putfield 15, 3) := by decide +kernel
theorem dX6_init_17 : decode cX6_init 17 = .ok (.return_, 1) := by decide +kernel
abbrev z_X6_init : List Cond := .code yX6_init cX6_init 1 none :: zW
abbrev rm_X6_init : Room := { frames := 1, cells := 1, slots := 60, locals := 20 }
set_option maxHeartbeats 4000000 in
set_option maxRecDepth 100000 in
theorem ci_X6_init (l : Launch) (D : va_G) (cs : Nat → ClassId) (h0 : Nat)  (sz : Nat) : Met l yX6_init z_X6_init rm_X6_init (va_Pc [.ref h0] (zPre D cs [(h0, .inr (6, [.int 0, .int 0, .int 0, .null]))] sz)) (va_Qv (fun _ : Nat → Nat => True) (fun (u : Nat → Nat) (t : State) => va_P D classes [(h0, .inr (6, [.int (-1 : Int32), .int 0, .int 0, .ref (u 0)])), ((u 0), .inl (cs 1, 60, .inr (.inl (fun _ => 0))))] t.heap ∧ va_D (va_A [(h0, .inr (6, [.int 0, .int 0, .int 0, .null]))] sz) [(h0, .inr (6, [.int (-1 : Int32), .int 0, .int 0, .ref (u 0)])), ((u 0), .inl (cs 1, 60, .inr (.inl (fun _ => 0))))]) (va_A [(h0, .inr (6, [.int 0, .int 0, .int 0, .null]))] sz)) 1 60 (va_A [(h0, .inr (6, [.int 0, .int 0, .int 0, .null]))] sz) := by
  refine Met.ofW (cc := cX6_init) (maxL := 1) (ret := none) (by decide) rfl ?_
  intro p e s m args below meth c s₁ B hml hv
  obtain ⟨rfl, hsz, hP, hK, hD0⟩ := hv
  subst hsz
  have hD := hD0.self (sz := s.heap.size)
  have hx := B.exec
  have hb := B.bytes
  have hr := B.returns
  have ht : ∀ w ∈ zW, w.before _ s = true := fun w hw => atoms_spec (ws := z_X6_init) B.pre w (List.mem_cons_of_mem _ hw)
  have hown : s.vm.findClass RX6 = some m.cls := findClass_of_methodNamed B.named
  have hlocks := B.notSynchronized
  have hin : meth.name = "<init>" := (name_of_methodNamed B.named B.method).1
  generalize hAe : va_A [(h0, .inr (6, [.int 0, .int 0, .int 0, .null]))] s.heap.size = A at hD ⊢
  have hA : ∀ q : Nat, s.heap.size ≤ q → A q := fun q h => by rw [← hAe]; exact Or.inr h
  have hS : va_S A s.heap s.heap [] := va_S.rf
  have hl := lv_entry ([.ref h0]) (n := 1) (Nat.le_of_ble_eq_true rfl)
  rw [lg_entry_eq]
  generalize (lg_sl ([.ref h0]) ++ List.replicate (1 - (lg_sl ([.ref h0])).length) Slot.unset).toArray = ls at hl ⊢
  obtain ⟨H, hH⟩ : ∃ H, H = s.heap := ⟨_, rfl⟩
  have hS : va_S A s.heap H [] := by rw [hH]; exact va_S.rf
  rw [← hH]
  have hP : va_P D classes [(h0, .inr (6, [.int 0, .int 0, .int 0, .null]))] H := by rw [hH]; exact hP
  clear hH
  refine lv_aload_n hx hb dX6_init_0 rfl (lv_at hl 0 rfl) ?_
  refine W.objInit hx hb hown (ht _ kw_679) (ht _ kw_104) (ht _ kw_105) rfl (by rw [hml]; exact hl.1) rfl dX6_init_1 (Nat.le_of_ble_eq_true rfl) (Nat.le_of_ble_eq_true rfl) ?_
  refine W.eq (g2 := F0 m 4 ls []) rfl ?_
  refine lv_aload_n hx hb dX6_init_4 rfl (lv_at hl 0 rfl) ?_
  refine lv_iconst (v := (-1 : Int32)) hx hb dX6_init_5 (by decide) ?_
  refine va_put (D := D) (ci := 6) (v := .int (-1 : Int32)) (ty := .int) (C := RX6) (T := TX6) (N := 4) hx hb ht iX6 tyX6 tyX6_ok nmX6 hown hK hP hD hS 0 rfl rfl 0 (by decide) (ht _ kw_680) (fun _ h9 => h9) rfl (by decide +kernel) rfl rfl (Nat.le_of_ble_eq_true rfl) dX6_init_6 (fun H locs hP hD hS => ?_)
  have hP : va_P D classes [(h0, .inr (6, [.int (-1 : Int32), .int 0, .int 0, .null]))] H := hP
  have hD : va_D A [(h0, .inr (6, [.int (-1 : Int32), .int 0, .int 0, .null]))] := hD
  refine lv_aload_n hx hb dX6_init_9 rfl (lv_at hl 0 rfl) ?_
  refine lv_bipush (v := (60 : Int32)) hx hb dX6_init_10 (by decide) ?_
  refine zk_newa (atype := .long) (ty := .long) (a0 := (60, .inr (.inl (fun _ => 0)))) (N' := 60) hx hb (ht _ kw_228) rfl hK 1 rfl (by intro C h; cases h) hP hD hS hA (fun _ => rfl) (by decide) (by decide) (Nat.le_of_ble_eq_true rfl) (Nat.le_of_ble_eq_true rfl) (Nat.le_of_ble_eq_true rfl) dX6_init_12 (fun q_0 H hP hD hS => ?_)
  have hP : va_P D classes [(h0, .inr (6, [.int (-1 : Int32), .int 0, .int 0, .null])), (q_0, .inl (cs 1, 60, .inr (.inl (fun _ => 0))))] H := hP
  have hD : va_D A [(h0, .inr (6, [.int (-1 : Int32), .int 0, .int 0, .null])), (q_0, .inl (cs 1, 60, .inr (.inl (fun _ => 0))))] := hD
  refine va_putF (D := D) (ci := 6) (v := .ref q_0) (ty := .array .long) (C := RX6) (T := TX6) (N := 4) hx hb ht iX6 tyX6 tyX6_ok nmX6 hown hK hP hD hS 0 rfl rfl 3 (by decide) (ht _ kw_685) (fun _ h9 => h9) rfl hin rfl (by decide +kernel) rfl rfl (Nat.le_of_ble_eq_true rfl) dX6_init_14 (fun H locs hP hD hS => ?_)
  have hP : va_P D classes [(h0, .inr (6, [.int (-1 : Int32), .int 0, .int 0, .ref q_0])), (q_0, .inl (cs 1, 60, .inr (.inl (fun _ => 0))))] H := hP
  have hD : va_D A [(h0, .inr (6, [.int (-1 : Int32), .int 0, .int 0, .ref q_0])), (q_0, .inl (cs 1, 60, .inr (.inl (fun _ => 0))))] := hD
  refine W.widen (k := 1) (n := 60) (Nat.le_of_ble_eq_true rfl) (Nat.le_of_ble_eq_true rfl) ?_
  exact W.vret hx hb hr (fun t ht2 hW => ⟨⟨fun k => [q_0].getD k 0, rfl, trivial, by rw [ht2]; exact hP, hD⟩, hS.F ht2⟩) hS.2.2 dX6_init_17 hlocks
theorem kw_190 : Cond.methodLink RX3 3 objectInit ∈ zW := zwI (i := 190) (by decide +kernel) (by decide +kernel)
theorem kw_191 : Cond.fieldLink RX3 36 "AlreadyJudged$Inquiry" "court" "LAlreadyJudged$Court;" ∈ zW := zwI (i := 191) (by decide +kernel) (by decide +kernel)
theorem kw_193 : Cond.fieldLink RX3 9 "AlreadyJudged$Inquiry" "names" "[I" ∈ zW := zwI (i := 193) (by decide +kernel) (by decide +kernel)
theorem kw_194 : Cond.fieldLink RX3 17 "AlreadyJudged$Inquiry" "stack" "[I" ∈ zW := zwI (i := 194) (by decide +kernel) (by decide +kernel)
theorem kw_195 : Cond.fieldLink RX3 20 "AlreadyJudged$Inquiry" "judgedShoes" "[J" ∈ zW := zwI (i := 195) (by decide +kernel) (by decide +kernel)
theorem kw_196 : Cond.fieldLink RX3 24 "AlreadyJudged$Inquiry" "bindingShoes" "[J" ∈ zW := zwI (i := 196) (by decide +kernel) (by decide +kernel)
theorem kw_197 : Cond.fieldLink RX3 27 "AlreadyJudged$Inquiry" "boundAs" "[I" ∈ zW := zwI (i := 197) (by decide +kernel) (by decide +kernel)
theorem kw_199 : Cond.fieldLink RX3 30 "AlreadyJudged$Inquiry" "standing" "[I" ∈ zW := zwI (i := 199) (by decide +kernel) (by decide +kernel)
theorem kw_200 : Cond.fieldLink RX3 33 "AlreadyJudged$Inquiry" "arriving" "[I" ∈ zW := zwI (i := 200) (by decide +kernel) (by decide +kernel)
theorem dX3_init_0 : decode cX3_init 0 = .ok (.aload_n 0, 1) := by decide +kernel
theorem dX3_init_1 : decode cX3_init 1 = .ok (.invokespecial 3, 3) := by decide +kernel
theorem dX3_init_4 : decode cX3_init 4 = .ok (.aload_n 0, 1) := by decide +kernel
theorem dX3_init_5 : decode cX3_init 5 = .ok (.bipush 11, 2) := by decide +kernel
theorem dX3_init_7 : decode cX3_init 7 = .ok (.newarray .int, 2) := by decide +kernel
theorem dX3_init_9 : decode cX3_init 9 = .ok (.putfield 9, 3) := by decide +kernel
theorem dX3_init_12 : decode cX3_init 12 = .ok (.aload_n 0, 1) := by decide +kernel
theorem dX3_init_13 : decode cX3_init 13 = .ok (.bipush 36, 2) := by decide +kernel
theorem dX3_init_15 : decode cX3_init 15 = .ok (.newarray .int, 2) := by decide +kernel
theorem dX3_init_17 : decode cX3_init 17 = .ok (.putfield 17, 3) := by decide +kernel
theorem dX3_init_20 : decode cX3_init 20 = .ok (.aload_n 0, 1) := by decide +kernel
theorem dX3_init_21 : decode cX3_init 21 = .ok (.bipush 7, 2) := by decide +kernel
theorem dX3_init_23 : decode cX3_init 23 = .ok (.newarray .long, 2) := by decide +kernel
theorem dX3_init_25 : decode cX3_init 25 = .ok (.putfield 20, 3) := by decide +kernel
theorem dX3_init_28 : decode cX3_init 28 = .ok (.aload_n 0, 1) := by decide +kernel
theorem dX3_init_29 : decode cX3_init 29 = .ok (.bipush 7, 2) := by decide +kernel
theorem dX3_init_31 : decode cX3_init 31 = .ok (.newarray .long, 2) := by decide +kernel
theorem dX3_init_33 : decode cX3_init 33 = .ok (.putfield 24, 3) := by decide +kernel
theorem dX3_init_36 : decode cX3_init 36 = .ok (.aload_n 0, 1) := by decide +kernel
theorem dX3_init_37 : decode cX3_init 37 = .ok (.bipush 20, 2) := by decide +kernel
theorem dX3_init_39 : decode cX3_init 39 = .ok (.newarray .int, 2) := by decide +kernel
theorem dX3_init_41 : decode cX3_init 41 = .ok (.putfield 27, 3) := by decide +kernel
theorem dX3_init_44 : decode cX3_init 44 = .ok (.aload_n 0, 1) := by decide +kernel
theorem dX3_init_45 : decode cX3_init 45 = .ok (.bipush 20, 2) := by decide +kernel
theorem dX3_init_47 : decode cX3_init 47 = .ok (.newarray .int, 2) := by decide +kernel
theorem dX3_init_49 : decode cX3_init 49 = .ok (.putfield 30, 3) := by decide +kernel
theorem dX3_init_52 : decode cX3_init 52 = .ok (.aload_n 0, 1) := by decide +kernel
theorem dX3_init_53 : decode cX3_init 53 = .ok (.bipush 20, 2) := by decide +kernel
theorem dX3_init_55 : decode cX3_init 55 = .ok (.newarray .int, 2) := by decide +kernel
theorem dX3_init_57 : decode cX3_init 57 = .ok (.putfield 33, 3) := by decide +kernel
theorem dX3_init_60 : decode cX3_init 60 = .ok (.aload_n 0, 1) := by decide +kernel
theorem dX3_init_61 : decode cX3_init 61 = .ok (.aload_n 1, 1) := by decide +kernel
theorem dX3_init_62 : decode cX3_init 62 = .ok (.putfield 36, 3) := by decide +kernel
theorem dX3_init_65 : decode cX3_init 65 = .ok (.return_, 1) := by decide +kernel
abbrev z_X3_init : List Cond := .code yX3_init cX3_init 2 none :: zW
abbrev rm_X3_init : Room := { frames := 1, cells := 7, slots := 121, locals := 20 }
set_option maxHeartbeats 4000000 in
set_option maxRecDepth 100000 in
theorem ci_X3_init (l : Launch) (D : va_G) (cs : Nat → ClassId) (h0 : Nat) (p1 : Nat) (sz : Nat) : Met l yX3_init z_X3_init rm_X3_init (va_Pc [.ref h0, .ref p1] (zPre D cs [(h0, .inr (3, [.null, .null, .null, .null, .null, .null, .null, .null, .int 0, .int 0, .int 0]))] sz)) (va_Qv (fun _ : Nat → Nat => True) (fun (u : Nat → Nat) (t : State) => va_P D classes [(h0, .inr (3, [.ref p1, .ref (u 0), .ref (u 1), .ref (u 2), .ref (u 3), .ref (u 4), .ref (u 5), .ref (u 6), .int 0, .int 0, .int 0])), ((u 0), .inl (cs 0, 11, .inl (fun _ => 0))), ((u 1), .inl (cs 0, 36, .inl (fun _ => 0))), ((u 2), .inl (cs 1, 7, .inr (.inl (fun _ => 0)))), ((u 3), .inl (cs 1, 7, .inr (.inl (fun _ => 0)))), ((u 4), .inl (cs 0, 20, .inl (fun _ => 0))), ((u 5), .inl (cs 0, 20, .inl (fun _ => 0))), ((u 6), .inl (cs 0, 20, .inl (fun _ => 0)))] t.heap ∧ va_D (va_A [(h0, .inr (3, [.null, .null, .null, .null, .null, .null, .null, .null, .int 0, .int 0, .int 0]))] sz) [(h0, .inr (3, [.ref p1, .ref (u 0), .ref (u 1), .ref (u 2), .ref (u 3), .ref (u 4), .ref (u 5), .ref (u 6), .int 0, .int 0, .int 0])), ((u 0), .inl (cs 0, 11, .inl (fun _ => 0))), ((u 1), .inl (cs 0, 36, .inl (fun _ => 0))), ((u 2), .inl (cs 1, 7, .inr (.inl (fun _ => 0)))), ((u 3), .inl (cs 1, 7, .inr (.inl (fun _ => 0)))), ((u 4), .inl (cs 0, 20, .inl (fun _ => 0))), ((u 5), .inl (cs 0, 20, .inl (fun _ => 0))), ((u 6), .inl (cs 0, 20, .inl (fun _ => 0)))]) (va_A [(h0, .inr (3, [.null, .null, .null, .null, .null, .null, .null, .null, .int 0, .int 0, .int 0]))] sz)) 7 121 (va_A [(h0, .inr (3, [.null, .null, .null, .null, .null, .null, .null, .null, .int 0, .int 0, .int 0]))] sz) := by
  refine Met.ofW (cc := cX3_init) (maxL := 2) (ret := none) (by decide) rfl ?_
  intro p e s m args below meth c s₁ B hml hv
  obtain ⟨rfl, hsz, hP, hK, hD0⟩ := hv
  subst hsz
  have hD := hD0.self (sz := s.heap.size)
  have hx := B.exec
  have hb := B.bytes
  have hr := B.returns
  have ht : ∀ w ∈ zW, w.before _ s = true := fun w hw => atoms_spec (ws := z_X3_init) B.pre w (List.mem_cons_of_mem _ hw)
  have hown : s.vm.findClass RX3 = some m.cls := findClass_of_methodNamed B.named
  have hlocks := B.notSynchronized
  have hin : meth.name = "<init>" := (name_of_methodNamed B.named B.method).1
  generalize hAe : va_A [(h0, .inr (3, [.null, .null, .null, .null, .null, .null, .null, .null, .int 0, .int 0, .int 0]))] s.heap.size = A at hD ⊢
  have hA : ∀ q : Nat, s.heap.size ≤ q → A q := fun q h => by rw [← hAe]; exact Or.inr h
  have hS : va_S A s.heap s.heap [] := va_S.rf
  have hl := lv_entry ([.ref h0, .ref p1]) (n := 2) (Nat.le_of_ble_eq_true rfl)
  rw [lg_entry_eq]
  generalize (lg_sl ([.ref h0, .ref p1]) ++ List.replicate (2 - (lg_sl ([.ref h0, .ref p1])).length) Slot.unset).toArray = ls at hl ⊢
  obtain ⟨H, hH⟩ : ∃ H, H = s.heap := ⟨_, rfl⟩
  have hS : va_S A s.heap H [] := by rw [hH]; exact va_S.rf
  rw [← hH]
  have hP : va_P D classes [(h0, .inr (3, [.null, .null, .null, .null, .null, .null, .null, .null, .int 0, .int 0, .int 0]))] H := by rw [hH]; exact hP
  clear hH
  refine lv_aload_n hx hb dX3_init_0 rfl (lv_at hl 0 rfl) ?_
  refine W.objInit hx hb hown (ht _ kw_190) (ht _ kw_104) (ht _ kw_105) rfl (by rw [hml]; exact hl.1) rfl dX3_init_1 (Nat.le_of_ble_eq_true rfl) (Nat.le_of_ble_eq_true rfl) ?_
  refine W.eq (g2 := F0 m 4 ls []) rfl ?_
  refine lv_aload_n hx hb dX3_init_4 rfl (lv_at hl 0 rfl) ?_
  refine lv_bipush (v := (11 : Int32)) hx hb dX3_init_5 (by decide) ?_
  refine zk_newa (atype := .int) (ty := .int) (a0 := (11, .inl (fun _ => 0))) (N' := 11) hx hb (ht _ kw_184) rfl hK 0 rfl (by intro C h; cases h) hP hD hS hA (fun _ => rfl) (by decide) (by decide) (Nat.le_of_ble_eq_true rfl) (Nat.le_of_ble_eq_true rfl) (Nat.le_of_ble_eq_true rfl) dX3_init_7 (fun q_0 H hP hD hS => ?_)
  have hP : va_P D classes [(h0, .inr (3, [.null, .null, .null, .null, .null, .null, .null, .null, .int 0, .int 0, .int 0])), (q_0, .inl (cs 0, 11, .inl (fun _ => 0)))] H := hP
  have hD : va_D A [(h0, .inr (3, [.null, .null, .null, .null, .null, .null, .null, .null, .int 0, .int 0, .int 0])), (q_0, .inl (cs 0, 11, .inl (fun _ => 0)))] := hD
  refine va_putF (D := D) (ci := 3) (v := .ref q_0) (ty := .array .int) (C := RX3) (T := TX3) (N := 11) hx hb ht iX3 tyX3 tyX3_ok nmX3 hown hK hP hD hS 0 rfl rfl 1 (by decide) (ht _ kw_193) (fun _ h9 => h9) rfl hin rfl (by decide +kernel) rfl rfl (Nat.le_of_ble_eq_true rfl) dX3_init_9 (fun H locs hP hD hS => ?_)
  have hP : va_P D classes [(h0, .inr (3, [.null, .ref q_0, .null, .null, .null, .null, .null, .null, .int 0, .int 0, .int 0])), (q_0, .inl (cs 0, 11, .inl (fun _ => 0)))] H := hP
  have hD : va_D A [(h0, .inr (3, [.null, .ref q_0, .null, .null, .null, .null, .null, .null, .int 0, .int 0, .int 0])), (q_0, .inl (cs 0, 11, .inl (fun _ => 0)))] := hD
  refine lv_aload_n hx hb dX3_init_12 rfl (lv_at hl 0 rfl) ?_
  refine lv_bipush (v := (36 : Int32)) hx hb dX3_init_13 (by decide) ?_
  refine zk_newa (atype := .int) (ty := .int) (a0 := (36, .inl (fun _ => 0))) (N' := 36) hx hb (ht _ kw_184) rfl hK 0 rfl (by intro C h; cases h) hP hD hS hA (fun _ => rfl) (by decide) (by decide) (Nat.le_of_ble_eq_true rfl) (Nat.le_of_ble_eq_true rfl) (Nat.le_of_ble_eq_true rfl) dX3_init_15 (fun q_1 H hP hD hS => ?_)
  have hP : va_P D classes [(h0, .inr (3, [.null, .ref q_0, .null, .null, .null, .null, .null, .null, .int 0, .int 0, .int 0])), (q_0, .inl (cs 0, 11, .inl (fun _ => 0))), (q_1, .inl (cs 0, 36, .inl (fun _ => 0)))] H := hP
  have hD : va_D A [(h0, .inr (3, [.null, .ref q_0, .null, .null, .null, .null, .null, .null, .int 0, .int 0, .int 0])), (q_0, .inl (cs 0, 11, .inl (fun _ => 0))), (q_1, .inl (cs 0, 36, .inl (fun _ => 0)))] := hD
  refine va_putF (D := D) (ci := 3) (v := .ref q_1) (ty := .array .int) (C := RX3) (T := TX3) (N := 11) hx hb ht iX3 tyX3 tyX3_ok nmX3 hown hK hP hD hS 0 rfl rfl 2 (by decide) (ht _ kw_194) (fun _ h9 => h9) rfl hin rfl (by decide +kernel) rfl rfl (Nat.le_of_ble_eq_true rfl) dX3_init_17 (fun H locs hP hD hS => ?_)
  have hP : va_P D classes [(h0, .inr (3, [.null, .ref q_0, .ref q_1, .null, .null, .null, .null, .null, .int 0, .int 0, .int 0])), (q_0, .inl (cs 0, 11, .inl (fun _ => 0))), (q_1, .inl (cs 0, 36, .inl (fun _ => 0)))] H := hP
  have hD : va_D A [(h0, .inr (3, [.null, .ref q_0, .ref q_1, .null, .null, .null, .null, .null, .int 0, .int 0, .int 0])), (q_0, .inl (cs 0, 11, .inl (fun _ => 0))), (q_1, .inl (cs 0, 36, .inl (fun _ => 0)))] := hD
  refine lv_aload_n hx hb dX3_init_20 rfl (lv_at hl 0 rfl) ?_
  refine lv_bipush (v := (7 : Int32)) hx hb dX3_init_21 (by decide) ?_
  refine zk_newa (atype := .long) (ty := .long) (a0 := (7, .inr (.inl (fun _ => 0)))) (N' := 7) hx hb (ht _ kw_228) rfl hK 1 rfl (by intro C h; cases h) hP hD hS hA (fun _ => rfl) (by decide) (by decide) (Nat.le_of_ble_eq_true rfl) (Nat.le_of_ble_eq_true rfl) (Nat.le_of_ble_eq_true rfl) dX3_init_23 (fun q_2 H hP hD hS => ?_)
  have hP : va_P D classes [(h0, .inr (3, [.null, .ref q_0, .ref q_1, .null, .null, .null, .null, .null, .int 0, .int 0, .int 0])), (q_0, .inl (cs 0, 11, .inl (fun _ => 0))), (q_1, .inl (cs 0, 36, .inl (fun _ => 0))), (q_2, .inl (cs 1, 7, .inr (.inl (fun _ => 0))))] H := hP
  have hD : va_D A [(h0, .inr (3, [.null, .ref q_0, .ref q_1, .null, .null, .null, .null, .null, .int 0, .int 0, .int 0])), (q_0, .inl (cs 0, 11, .inl (fun _ => 0))), (q_1, .inl (cs 0, 36, .inl (fun _ => 0))), (q_2, .inl (cs 1, 7, .inr (.inl (fun _ => 0))))] := hD
  refine va_putF (D := D) (ci := 3) (v := .ref q_2) (ty := .array .long) (C := RX3) (T := TX3) (N := 11) hx hb ht iX3 tyX3 tyX3_ok nmX3 hown hK hP hD hS 0 rfl rfl 3 (by decide) (ht _ kw_195) (fun _ h9 => h9) rfl hin rfl (by decide +kernel) rfl rfl (Nat.le_of_ble_eq_true rfl) dX3_init_25 (fun H locs hP hD hS => ?_)
  have hP : va_P D classes [(h0, .inr (3, [.null, .ref q_0, .ref q_1, .ref q_2, .null, .null, .null, .null, .int 0, .int 0, .int 0])), (q_0, .inl (cs 0, 11, .inl (fun _ => 0))), (q_1, .inl (cs 0, 36, .inl (fun _ => 0))), (q_2, .inl (cs 1, 7, .inr (.inl (fun _ => 0))))] H := hP
  have hD : va_D A [(h0, .inr (3, [.null, .ref q_0, .ref q_1, .ref q_2, .null, .null, .null, .null, .int 0, .int 0, .int 0])), (q_0, .inl (cs 0, 11, .inl (fun _ => 0))), (q_1, .inl (cs 0, 36, .inl (fun _ => 0))), (q_2, .inl (cs 1, 7, .inr (.inl (fun _ => 0))))] := hD
  refine lv_aload_n hx hb dX3_init_28 rfl (lv_at hl 0 rfl) ?_
  refine lv_bipush (v := (7 : Int32)) hx hb dX3_init_29 (by decide) ?_
  refine zk_newa (atype := .long) (ty := .long) (a0 := (7, .inr (.inl (fun _ => 0)))) (N' := 7) hx hb (ht _ kw_228) rfl hK 1 rfl (by intro C h; cases h) hP hD hS hA (fun _ => rfl) (by decide) (by decide) (Nat.le_of_ble_eq_true rfl) (Nat.le_of_ble_eq_true rfl) (Nat.le_of_ble_eq_true rfl) dX3_init_31 (fun q_3 H hP hD hS => ?_)
  have hP : va_P D classes [(h0, .inr (3, [.null, .ref q_0, .ref q_1, .ref q_2, .null, .null, .null, .null, .int 0, .int 0, .int 0])), (q_0, .inl (cs 0, 11, .inl (fun _ => 0))), (q_1, .inl (cs 0, 36, .inl (fun _ => 0))), (q_2, .inl (cs 1, 7, .inr (.inl (fun _ => 0)))), (q_3, .inl (cs 1, 7, .inr (.inl (fun _ => 0))))] H := hP
  have hD : va_D A [(h0, .inr (3, [.null, .ref q_0, .ref q_1, .ref q_2, .null, .null, .null, .null, .int 0, .int 0, .int 0])), (q_0, .inl (cs 0, 11, .inl (fun _ => 0))), (q_1, .inl (cs 0, 36, .inl (fun _ => 0))), (q_2, .inl (cs 1, 7, .inr (.inl (fun _ => 0)))), (q_3, .inl (cs 1, 7, .inr (.inl (fun _ => 0))))] := hD
  refine va_putF (D := D) (ci := 3) (v := .ref q_3) (ty := .array .long) (C := RX3) (T := TX3) (N := 11) hx hb ht iX3 tyX3 tyX3_ok nmX3 hown hK hP hD hS 0 rfl rfl 4 (by decide) (ht _ kw_196) (fun _ h9 => h9) rfl hin rfl (by decide +kernel) rfl rfl (Nat.le_of_ble_eq_true rfl) dX3_init_33 (fun H locs hP hD hS => ?_)
  have hP : va_P D classes [(h0, .inr (3, [.null, .ref q_0, .ref q_1, .ref q_2, .ref q_3, .null, .null, .null, .int 0, .int 0, .int 0])), (q_0, .inl (cs 0, 11, .inl (fun _ => 0))), (q_1, .inl (cs 0, 36, .inl (fun _ => 0))), (q_2, .inl (cs 1, 7, .inr (.inl (fun _ => 0)))), (q_3, .inl (cs 1, 7, .inr (.inl (fun _ => 0))))] H := hP
  have hD : va_D A [(h0, .inr (3, [.null, .ref q_0, .ref q_1, .ref q_2, .ref q_3, .null, .null, .null, .int 0, .int 0, .int 0])), (q_0, .inl (cs 0, 11, .inl (fun _ => 0))), (q_1, .inl (cs 0, 36, .inl (fun _ => 0))), (q_2, .inl (cs 1, 7, .inr (.inl (fun _ => 0)))), (q_3, .inl (cs 1, 7, .inr (.inl (fun _ => 0))))] := hD
  refine lv_aload_n hx hb dX3_init_36 rfl (lv_at hl 0 rfl) ?_
  refine lv_bipush (v := (20 : Int32)) hx hb dX3_init_37 (by decide) ?_
  refine zk_newa (atype := .int) (ty := .int) (a0 := (20, .inl (fun _ => 0))) (N' := 20) hx hb (ht _ kw_184) rfl hK 0 rfl (by intro C h; cases h) hP hD hS hA (fun _ => rfl) (by decide) (by decide) (Nat.le_of_ble_eq_true rfl) (Nat.le_of_ble_eq_true rfl) (Nat.le_of_ble_eq_true rfl) dX3_init_39 (fun q_4 H hP hD hS => ?_)
  have hP : va_P D classes [(h0, .inr (3, [.null, .ref q_0, .ref q_1, .ref q_2, .ref q_3, .null, .null, .null, .int 0, .int 0, .int 0])), (q_0, .inl (cs 0, 11, .inl (fun _ => 0))), (q_1, .inl (cs 0, 36, .inl (fun _ => 0))), (q_2, .inl (cs 1, 7, .inr (.inl (fun _ => 0)))), (q_3, .inl (cs 1, 7, .inr (.inl (fun _ => 0)))), (q_4, .inl (cs 0, 20, .inl (fun _ => 0)))] H := hP
  have hD : va_D A [(h0, .inr (3, [.null, .ref q_0, .ref q_1, .ref q_2, .ref q_3, .null, .null, .null, .int 0, .int 0, .int 0])), (q_0, .inl (cs 0, 11, .inl (fun _ => 0))), (q_1, .inl (cs 0, 36, .inl (fun _ => 0))), (q_2, .inl (cs 1, 7, .inr (.inl (fun _ => 0)))), (q_3, .inl (cs 1, 7, .inr (.inl (fun _ => 0)))), (q_4, .inl (cs 0, 20, .inl (fun _ => 0)))] := hD
  refine va_putF (D := D) (ci := 3) (v := .ref q_4) (ty := .array .int) (C := RX3) (T := TX3) (N := 11) hx hb ht iX3 tyX3 tyX3_ok nmX3 hown hK hP hD hS 0 rfl rfl 5 (by decide) (ht _ kw_197) (fun _ h9 => h9) rfl hin rfl (by decide +kernel) rfl rfl (Nat.le_of_ble_eq_true rfl) dX3_init_41 (fun H locs hP hD hS => ?_)
  have hP : va_P D classes [(h0, .inr (3, [.null, .ref q_0, .ref q_1, .ref q_2, .ref q_3, .ref q_4, .null, .null, .int 0, .int 0, .int 0])), (q_0, .inl (cs 0, 11, .inl (fun _ => 0))), (q_1, .inl (cs 0, 36, .inl (fun _ => 0))), (q_2, .inl (cs 1, 7, .inr (.inl (fun _ => 0)))), (q_3, .inl (cs 1, 7, .inr (.inl (fun _ => 0)))), (q_4, .inl (cs 0, 20, .inl (fun _ => 0)))] H := hP
  have hD : va_D A [(h0, .inr (3, [.null, .ref q_0, .ref q_1, .ref q_2, .ref q_3, .ref q_4, .null, .null, .int 0, .int 0, .int 0])), (q_0, .inl (cs 0, 11, .inl (fun _ => 0))), (q_1, .inl (cs 0, 36, .inl (fun _ => 0))), (q_2, .inl (cs 1, 7, .inr (.inl (fun _ => 0)))), (q_3, .inl (cs 1, 7, .inr (.inl (fun _ => 0)))), (q_4, .inl (cs 0, 20, .inl (fun _ => 0)))] := hD
  refine lv_aload_n hx hb dX3_init_44 rfl (lv_at hl 0 rfl) ?_
  refine lv_bipush (v := (20 : Int32)) hx hb dX3_init_45 (by decide) ?_
  refine zk_newa (atype := .int) (ty := .int) (a0 := (20, .inl (fun _ => 0))) (N' := 20) hx hb (ht _ kw_184) rfl hK 0 rfl (by intro C h; cases h) hP hD hS hA (fun _ => rfl) (by decide) (by decide) (Nat.le_of_ble_eq_true rfl) (Nat.le_of_ble_eq_true rfl) (Nat.le_of_ble_eq_true rfl) dX3_init_47 (fun q_5 H hP hD hS => ?_)
  have hP : va_P D classes [(h0, .inr (3, [.null, .ref q_0, .ref q_1, .ref q_2, .ref q_3, .ref q_4, .null, .null, .int 0, .int 0, .int 0])), (q_0, .inl (cs 0, 11, .inl (fun _ => 0))), (q_1, .inl (cs 0, 36, .inl (fun _ => 0))), (q_2, .inl (cs 1, 7, .inr (.inl (fun _ => 0)))), (q_3, .inl (cs 1, 7, .inr (.inl (fun _ => 0)))), (q_4, .inl (cs 0, 20, .inl (fun _ => 0))), (q_5, .inl (cs 0, 20, .inl (fun _ => 0)))] H := hP
  have hD : va_D A [(h0, .inr (3, [.null, .ref q_0, .ref q_1, .ref q_2, .ref q_3, .ref q_4, .null, .null, .int 0, .int 0, .int 0])), (q_0, .inl (cs 0, 11, .inl (fun _ => 0))), (q_1, .inl (cs 0, 36, .inl (fun _ => 0))), (q_2, .inl (cs 1, 7, .inr (.inl (fun _ => 0)))), (q_3, .inl (cs 1, 7, .inr (.inl (fun _ => 0)))), (q_4, .inl (cs 0, 20, .inl (fun _ => 0))), (q_5, .inl (cs 0, 20, .inl (fun _ => 0)))] := hD
  refine va_putF (D := D) (ci := 3) (v := .ref q_5) (ty := .array .int) (C := RX3) (T := TX3) (N := 11) hx hb ht iX3 tyX3 tyX3_ok nmX3 hown hK hP hD hS 0 rfl rfl 6 (by decide) (ht _ kw_199) (fun _ h9 => h9) rfl hin rfl (by decide +kernel) rfl rfl (Nat.le_of_ble_eq_true rfl) dX3_init_49 (fun H locs hP hD hS => ?_)
  have hP : va_P D classes [(h0, .inr (3, [.null, .ref q_0, .ref q_1, .ref q_2, .ref q_3, .ref q_4, .ref q_5, .null, .int 0, .int 0, .int 0])), (q_0, .inl (cs 0, 11, .inl (fun _ => 0))), (q_1, .inl (cs 0, 36, .inl (fun _ => 0))), (q_2, .inl (cs 1, 7, .inr (.inl (fun _ => 0)))), (q_3, .inl (cs 1, 7, .inr (.inl (fun _ => 0)))), (q_4, .inl (cs 0, 20, .inl (fun _ => 0))), (q_5, .inl (cs 0, 20, .inl (fun _ => 0)))] H := hP
  have hD : va_D A [(h0, .inr (3, [.null, .ref q_0, .ref q_1, .ref q_2, .ref q_3, .ref q_4, .ref q_5, .null, .int 0, .int 0, .int 0])), (q_0, .inl (cs 0, 11, .inl (fun _ => 0))), (q_1, .inl (cs 0, 36, .inl (fun _ => 0))), (q_2, .inl (cs 1, 7, .inr (.inl (fun _ => 0)))), (q_3, .inl (cs 1, 7, .inr (.inl (fun _ => 0)))), (q_4, .inl (cs 0, 20, .inl (fun _ => 0))), (q_5, .inl (cs 0, 20, .inl (fun _ => 0)))] := hD
  refine lv_aload_n hx hb dX3_init_52 rfl (lv_at hl 0 rfl) ?_
  refine lv_bipush (v := (20 : Int32)) hx hb dX3_init_53 (by decide) ?_
  refine zk_newa (atype := .int) (ty := .int) (a0 := (20, .inl (fun _ => 0))) (N' := 20) hx hb (ht _ kw_184) rfl hK 0 rfl (by intro C h; cases h) hP hD hS hA (fun _ => rfl) (by decide) (by decide) (Nat.le_of_ble_eq_true rfl) (Nat.le_of_ble_eq_true rfl) (Nat.le_of_ble_eq_true rfl) dX3_init_55 (fun q_6 H hP hD hS => ?_)
  have hP : va_P D classes [(h0, .inr (3, [.null, .ref q_0, .ref q_1, .ref q_2, .ref q_3, .ref q_4, .ref q_5, .null, .int 0, .int 0, .int 0])), (q_0, .inl (cs 0, 11, .inl (fun _ => 0))), (q_1, .inl (cs 0, 36, .inl (fun _ => 0))), (q_2, .inl (cs 1, 7, .inr (.inl (fun _ => 0)))), (q_3, .inl (cs 1, 7, .inr (.inl (fun _ => 0)))), (q_4, .inl (cs 0, 20, .inl (fun _ => 0))), (q_5, .inl (cs 0, 20, .inl (fun _ => 0))), (q_6, .inl (cs 0, 20, .inl (fun _ => 0)))] H := hP
  have hD : va_D A [(h0, .inr (3, [.null, .ref q_0, .ref q_1, .ref q_2, .ref q_3, .ref q_4, .ref q_5, .null, .int 0, .int 0, .int 0])), (q_0, .inl (cs 0, 11, .inl (fun _ => 0))), (q_1, .inl (cs 0, 36, .inl (fun _ => 0))), (q_2, .inl (cs 1, 7, .inr (.inl (fun _ => 0)))), (q_3, .inl (cs 1, 7, .inr (.inl (fun _ => 0)))), (q_4, .inl (cs 0, 20, .inl (fun _ => 0))), (q_5, .inl (cs 0, 20, .inl (fun _ => 0))), (q_6, .inl (cs 0, 20, .inl (fun _ => 0)))] := hD
  refine va_putF (D := D) (ci := 3) (v := .ref q_6) (ty := .array .int) (C := RX3) (T := TX3) (N := 11) hx hb ht iX3 tyX3 tyX3_ok nmX3 hown hK hP hD hS 0 rfl rfl 7 (by decide) (ht _ kw_200) (fun _ h9 => h9) rfl hin rfl (by decide +kernel) rfl rfl (Nat.le_of_ble_eq_true rfl) dX3_init_57 (fun H locs hP hD hS => ?_)
  have hP : va_P D classes [(h0, .inr (3, [.null, .ref q_0, .ref q_1, .ref q_2, .ref q_3, .ref q_4, .ref q_5, .ref q_6, .int 0, .int 0, .int 0])), (q_0, .inl (cs 0, 11, .inl (fun _ => 0))), (q_1, .inl (cs 0, 36, .inl (fun _ => 0))), (q_2, .inl (cs 1, 7, .inr (.inl (fun _ => 0)))), (q_3, .inl (cs 1, 7, .inr (.inl (fun _ => 0)))), (q_4, .inl (cs 0, 20, .inl (fun _ => 0))), (q_5, .inl (cs 0, 20, .inl (fun _ => 0))), (q_6, .inl (cs 0, 20, .inl (fun _ => 0)))] H := hP
  have hD : va_D A [(h0, .inr (3, [.null, .ref q_0, .ref q_1, .ref q_2, .ref q_3, .ref q_4, .ref q_5, .ref q_6, .int 0, .int 0, .int 0])), (q_0, .inl (cs 0, 11, .inl (fun _ => 0))), (q_1, .inl (cs 0, 36, .inl (fun _ => 0))), (q_2, .inl (cs 1, 7, .inr (.inl (fun _ => 0)))), (q_3, .inl (cs 1, 7, .inr (.inl (fun _ => 0)))), (q_4, .inl (cs 0, 20, .inl (fun _ => 0))), (q_5, .inl (cs 0, 20, .inl (fun _ => 0))), (q_6, .inl (cs 0, 20, .inl (fun _ => 0)))] := hD
  refine lv_aload_n hx hb dX3_init_60 rfl (lv_at hl 0 rfl) ?_
  refine lv_aload_n hx hb dX3_init_61 rfl (lv_at hl 1 rfl) ?_
  refine va_putF (D := D) (ci := 3) (v := .ref p1) (ty := .object "AlreadyJudged$Court") (C := RX3) (T := TX3) (N := 11) hx hb ht iX3 tyX3 tyX3_ok nmX3 hown hK hP hD hS 0 rfl rfl 0 (by decide) (ht _ kw_191) (fun _ h9 => h9) rfl hin rfl (by decide +kernel) rfl rfl (Nat.le_of_ble_eq_true rfl) dX3_init_62 (fun H locs hP hD hS => ?_)
  have hP : va_P D classes [(h0, .inr (3, [.ref p1, .ref q_0, .ref q_1, .ref q_2, .ref q_3, .ref q_4, .ref q_5, .ref q_6, .int 0, .int 0, .int 0])), (q_0, .inl (cs 0, 11, .inl (fun _ => 0))), (q_1, .inl (cs 0, 36, .inl (fun _ => 0))), (q_2, .inl (cs 1, 7, .inr (.inl (fun _ => 0)))), (q_3, .inl (cs 1, 7, .inr (.inl (fun _ => 0)))), (q_4, .inl (cs 0, 20, .inl (fun _ => 0))), (q_5, .inl (cs 0, 20, .inl (fun _ => 0))), (q_6, .inl (cs 0, 20, .inl (fun _ => 0)))] H := hP
  have hD : va_D A [(h0, .inr (3, [.ref p1, .ref q_0, .ref q_1, .ref q_2, .ref q_3, .ref q_4, .ref q_5, .ref q_6, .int 0, .int 0, .int 0])), (q_0, .inl (cs 0, 11, .inl (fun _ => 0))), (q_1, .inl (cs 0, 36, .inl (fun _ => 0))), (q_2, .inl (cs 1, 7, .inr (.inl (fun _ => 0)))), (q_3, .inl (cs 1, 7, .inr (.inl (fun _ => 0)))), (q_4, .inl (cs 0, 20, .inl (fun _ => 0))), (q_5, .inl (cs 0, 20, .inl (fun _ => 0))), (q_6, .inl (cs 0, 20, .inl (fun _ => 0)))] := hD
  refine W.widen (k := 7) (n := 121) (Nat.le_of_ble_eq_true rfl) (Nat.le_of_ble_eq_true rfl) ?_
  exact W.vret hx hb hr (fun t ht2 hW => ⟨⟨fun k => [q_0, q_1, q_2, q_3, q_4, q_5, q_6].getD k 0, rfl, trivial, by rw [ht2]; exact hP, hD⟩, hS.F ht2⟩) hS.2.2 dX3_init_65 hlocks
theorem kw_669 : Cond.methodLink RX4 1 objectInit ∈ zW := zwI (i := 669) (by decide +kernel) (by decide +kernel)
theorem kw_670 : Cond.fieldLink RX4 7 "AlreadyJudged$Law" "code" "[I" ∈ zW := zwI (i := 670) (by decide +kernel) (by decide +kernel)
theorem dX4_init_0 : decode cX4_init 0 = .ok (.aload_n 0, 1) := by decide +kernel
theorem dX4_init_1 : decode cX4_init 1 = .ok (.invokespecial 1, 3) := by decide +kernel
theorem dX4_init_4 : decode cX4_init 4 = .ok (.aload_n 0, 1) := by decide +kernel
theorem dX4_init_5 : decode cX4_init 5 = .ok (.aload_n 1, 1) := by decide +kernel
theorem dX4_init_6 : decode cX4_init 6 = .ok (.putfield 7, 3) := by decide +kernel
theorem dX4_init_9 : decode cX4_init 9 = .ok (.return_, 1) := by decide +kernel
abbrev z_X4_init : List Cond := .code yX4_init cX4_init 2 none :: zW
abbrev rm_X4_init : Room := { frames := 1, cells := 0, slots := 0, locals := 20 }
set_option maxHeartbeats 4000000 in
set_option maxRecDepth 100000 in
theorem ci_X4_init (l : Launch) (D : va_G) (cs : Nat → ClassId) (h0 : Nat) (p1 : Nat) (sz : Nat) : Met l yX4_init z_X4_init rm_X4_init (va_Pc [.ref h0, .ref p1] (zPre D cs [(h0, .inr (4, [.null]))] sz)) (va_Qv (fun _ : Nat → Nat => True) (fun (u : Nat → Nat) (t : State) => va_P D classes [(h0, .inr (4, [.ref p1]))] t.heap ∧ va_D (va_A [(h0, .inr (4, [.null]))] sz) [(h0, .inr (4, [.ref p1]))]) (va_A [(h0, .inr (4, [.null]))] sz)) 0 0 (va_A [(h0, .inr (4, [.null]))] sz) := by
  refine Met.ofW (cc := cX4_init) (maxL := 2) (ret := none) (by decide) rfl ?_
  intro p e s m args below meth c s₁ B hml hv
  obtain ⟨rfl, hsz, hP, hK, hD0⟩ := hv
  subst hsz
  have hD := hD0.self (sz := s.heap.size)
  have hx := B.exec
  have hb := B.bytes
  have hr := B.returns
  have ht : ∀ w ∈ zW, w.before _ s = true := fun w hw => atoms_spec (ws := z_X4_init) B.pre w (List.mem_cons_of_mem _ hw)
  have hown : s.vm.findClass RX4 = some m.cls := findClass_of_methodNamed B.named
  have hlocks := B.notSynchronized
  have hin : meth.name = "<init>" := (name_of_methodNamed B.named B.method).1
  generalize hAe : va_A [(h0, .inr (4, [.null]))] s.heap.size = A at hD ⊢
  have hA : ∀ q : Nat, s.heap.size ≤ q → A q := fun q h => by rw [← hAe]; exact Or.inr h
  have hS : va_S A s.heap s.heap [] := va_S.rf
  have hl := lv_entry ([.ref h0, .ref p1]) (n := 2) (Nat.le_of_ble_eq_true rfl)
  rw [lg_entry_eq]
  generalize (lg_sl ([.ref h0, .ref p1]) ++ List.replicate (2 - (lg_sl ([.ref h0, .ref p1])).length) Slot.unset).toArray = ls at hl ⊢
  obtain ⟨H, hH⟩ : ∃ H, H = s.heap := ⟨_, rfl⟩
  have hS : va_S A s.heap H [] := by rw [hH]; exact va_S.rf
  rw [← hH]
  have hP : va_P D classes [(h0, .inr (4, [.null]))] H := by rw [hH]; exact hP
  clear hH
  refine lv_aload_n hx hb dX4_init_0 rfl (lv_at hl 0 rfl) ?_
  refine W.objInit hx hb hown (ht _ kw_669) (ht _ kw_104) (ht _ kw_105) rfl (by rw [hml]; exact hl.1) rfl dX4_init_1 (Nat.le_of_ble_eq_true rfl) (Nat.le_of_ble_eq_true rfl) ?_
  refine W.eq (g2 := F0 m 4 ls []) rfl ?_
  refine lv_aload_n hx hb dX4_init_4 rfl (lv_at hl 0 rfl) ?_
  refine lv_aload_n hx hb dX4_init_5 rfl (lv_at hl 1 rfl) ?_
  refine va_putF (D := D) (ci := 4) (v := .ref p1) (ty := .array .int) (C := RX4) (T := TX4) (N := 1) hx hb ht iX4 tyX4 tyX4_ok nmX4 hown hK hP hD hS 0 rfl rfl 0 (by decide) (ht _ kw_670) (fun _ h9 => h9) rfl hin rfl (by decide +kernel) rfl rfl (Nat.le_of_ble_eq_true rfl) dX4_init_6 (fun H locs hP hD hS => ?_)
  have hP : va_P D classes [(h0, .inr (4, [.ref p1]))] H := hP
  have hD : va_D A [(h0, .inr (4, [.ref p1]))] := hD
  refine W.widen (k := 0) (n := 0) (Nat.le_of_ble_eq_true rfl) (Nat.le_of_ble_eq_true rfl) ?_
  exact W.vret hx hb hr (fun t ht2 hW => ⟨⟨fun k => [].getD k 0, rfl, trivial, by rw [ht2]; exact hP, hD⟩, hS.F ht2⟩) hS.2.2 dX4_init_9 hlocks
theorem dX11_isDay_0 : decode cX11_isDay 0 = .ok (.iload_n 0, 1) := by decide +kernel
theorem dX11_isDay_1 : decode cX11_isDay 1 = .ok (.ifCond .lt 14, 3) := by decide +kernel
theorem dX11_isDay_4 : decode cX11_isDay 4 = .ok (.iload_n 0, 1) := by decide +kernel
theorem dX11_isDay_5 : decode cX11_isDay 5 = .ok (.sipush 10000, 3) := by decide +kernel
theorem dX11_isDay_8 : decode cX11_isDay 8 = .ok (.if_icmp .ge 7, 3) := by decide +kernel
theorem dX11_isDay_11 : decode cX11_isDay 11 = .ok (.iconst 1, 1) := by decide +kernel
theorem dX11_isDay_12 : decode cX11_isDay 12 = .ok (.goto 4, 3) := by decide +kernel
theorem dX11_isDay_15 : decode cX11_isDay 15 = .ok (.iconst 0, 1) := by decide +kernel
theorem dX11_isDay_16 : decode cX11_isDay 16 = .ok (.ireturn, 1) := by decide +kernel
abbrev z_X11_isDay : List Cond := .code yX11_isDay cX11_isDay 1 (some .boolean) :: zW
abbrev wl_X11_isDay (ad : Nat → Nat) (cs : Nat → ClassId)   : va_W := []
def Q_X11_isDay (D : va_G) (cs : Nat → ClassId) (ad : Nat → Nat)   (A : Nat → Prop) (R : Int32 × Unit) : Array Value → State → Outcome → State → Prop :=
  va_Qi (fun (r : Int32) (u : Unit) => (r, u) = R) (fun (u : Unit) (t : State) => va_P D classes (wl_X11_isDay ad cs ) t.heap ∧ va_D A (wl_X11_isDay ad cs )) A
abbrev rm_X11_isDay : Room := { frames := 0, cells := 0, slots := 0, locals := 0 }
def B_X11_isDay_0     (x0 : Int32) : Option (Int32 × Unit) :=
  (if x0 < 0 then (some ((0 : Int32), ())) else (if (10000 : Int32) ≤ x0 then (some ((0 : Int32), ())) else (some ((1 : Int32), ()))))
def f_X11_isDay   (x0 : Int32)  : Option (Int32 × Unit) := B_X11_isDay_0    x0 
set_option maxHeartbeats 4000000 in
set_option maxRecDepth 100000 in
theorem L_X11_isDay_0 {p : Program} {l : Launch} {e : Env} {s : State} {m : MethodId} {args : Array Value} {below : List Frame} {meth : Method} {c : Code} {A : Nat → Prop} {D : va_G} {cs : Nat → ClassId} {ad : Nat → Nat} {R : Int32 × Unit} (C0 : zC p s m args meth c cX11_isDay 1 (some .boolean) RX11 zW) (hK : va_K D classes (zT cs) s) (hA : ∀ q : Nat, s.heap.size ≤ q → A q) (x0 : Int32) (h : B_X11_isDay_0 x0 = some R) (H : Heap) (locs : List Loc) (ls : Array Slot) (hP : va_P D classes (wl_X11_isDay ad cs ) H) (hD : va_D A (wl_X11_isDay ad cs )) (hS : va_S A s.heap H locs) (hl : lv_has ls 1 [(0, .int x0)]) : W p l e rm_X11_isDay s m args below meth c H locs 0 0 (MQ below (Q_X11_isDay D cs ad  A R) args s 0 0 A) (F0 m 0 ls []) := by
  obtain ⟨hx, hb, hr, hml, hown, ht, hlocks⟩ := id C0
  refine lv_iload_n hx hb dX11_isDay_0 rfl (lv_at hl 0 rfl) ?_
  refine lv_if_lt (tgt := 15) hx hb dX11_isDay_1 (by decide) (fun c_1 => ?_) (fun c_1 => ?_)
  · have h := zk_t c_1 h
    refine lv_iconst (v := (0 : Int32)) hx hb dX11_isDay_15 (by decide) ?_
    exact W.zret (ty := .boolean) (v := (0 : Int32)) hx hb hr rfl (fun t ht2 hW => ⟨⟨(0 : Int32), (), rfl, Option.some.inj h, by rw [ht2]; exact hP, hD⟩, hS.F ht2⟩) hS.2.2 dX11_isDay_16 hlocks
  · have h := zk_f c_1 h
    refine lv_iload_n hx hb dX11_isDay_4 rfl (lv_at hl 0 rfl) ?_
    refine lv_sipush (v := (10000 : Int32)) hx hb dX11_isDay_5 (by decide) ?_
    refine lv_icmp_ge (tgt := 15) hx hb dX11_isDay_8 (by decide) (fun c_2 => ?_) (fun c_2 => ?_)
    · have h := zk_t c_2 h
      refine lv_iconst (v := (0 : Int32)) hx hb dX11_isDay_15 (by decide) ?_
      exact W.zret (ty := .boolean) (v := (0 : Int32)) hx hb hr rfl (fun t ht2 hW => ⟨⟨(0 : Int32), (), rfl, Option.some.inj h, by rw [ht2]; exact hP, hD⟩, hS.F ht2⟩) hS.2.2 dX11_isDay_16 hlocks
    · have h := zk_f c_2 h
      refine lv_iconst (v := (1 : Int32)) hx hb dX11_isDay_11 (by decide) ?_
      refine lv_goto (tgt := 16) hx hb dX11_isDay_12 (by decide) ?_
      exact W.zret (ty := .boolean) (v := (1 : Int32)) hx hb hr rfl (fun t ht2 hW => ⟨⟨(1 : Int32), (), rfl, Option.some.inj h, by rw [ht2]; exact hP, hD⟩, hS.F ht2⟩) hS.2.2 dX11_isDay_16 hlocks
set_option maxHeartbeats 4000000 in
set_option maxRecDepth 100000 in
theorem c_X11_isDay (l : Launch) (D : va_G) (cs : Nat → ClassId) (ad : Nat → Nat) (sz : Nat) (x0 : Int32)  (R : Int32 × Unit) (h : f_X11_isDay   x0  = some R) : Met l yX11_isDay (z_X11_isDay) rm_X11_isDay (va_Pc [.int x0] (zPre D cs (wl_X11_isDay ad cs ) sz)) (Q_X11_isDay D cs ad  (va_A (wl_X11_isDay ad cs ) sz) R) 0 0 (va_A (wl_X11_isDay ad cs ) sz) := by
  refine Met.ofW (cc := cX11_isDay) (maxL := 1) (ret := (some .boolean)) (by decide) rfl ?_
  intro p e s m args below meth c s₁ B hml hv
  obtain ⟨rfl, hsz, hP, hK, hD0⟩ := hv
  subst hsz
  have hD := hD0.self (sz := s.heap.size)
  have C0 : zC p s m _ meth c cX11_isDay 1 (some .boolean) RX11 zW := ⟨B.exec, B.bytes, B.returns, hml, findClass_of_methodNamed B.named, fun w hw => atoms_spec (ws := z_X11_isDay) B.pre w (List.mem_cons_of_mem _ hw), B.notSynchronized⟩
  have hA : ∀ q : Nat, s.heap.size ≤ q → va_A (wl_X11_isDay ad cs ) s.heap.size q := fun q h => Or.inr h
  have hl := lv_entry ([.int x0]) (n := 1) (Nat.le_of_ble_eq_true rfl)
  rw [lg_entry_eq]
  generalize (lg_sl ([.int x0]) ++ List.replicate (1 - (lg_sl ([.int x0])).length) Slot.unset).toArray = ls at hl ⊢
  exact L_X11_isDay_0 C0 hK hA   x0  h s.heap [] ls hP hD va_S.rf hl
theorem dJ7_fill_d0a16_0 : decode cJ7_fill_d0a16 0 = .ok (.iconst 0, 1) := by decide +kernel
theorem dJ7_fill_d0a16_1 : decode cJ7_fill_d0a16 1 = .ok (.istore_n 3, 1) := by decide +kernel
theorem dJ7_fill_d0a16_2 : decode cJ7_fill_d0a16 2 = .ok (.aload_n 0, 1) := by decide +kernel
theorem dJ7_fill_d0a16_3 : decode cJ7_fill_d0a16 3 = .ok (.arraylength, 1) := by decide +kernel
theorem dJ7_fill_d0a16_4 : decode cJ7_fill_d0a16 4 = .ok (.istore 4, 2) := by decide +kernel
theorem dJ7_fill_d0a16_6 : decode cJ7_fill_d0a16 6 = .ok (.iload_n 3, 1) := by decide +kernel
theorem dJ7_fill_d0a16_7 : decode cJ7_fill_d0a16 7 = .ok (.iload 4, 2) := by decide +kernel
theorem dJ7_fill_d0a16_9 : decode cJ7_fill_d0a16 9 = .ok (.if_icmp .ge 13, 3) := by decide +kernel
theorem dJ7_fill_d0a16_12 : decode cJ7_fill_d0a16 12 = .ok (.aload_n 0, 1) := by decide +kernel
theorem dJ7_fill_d0a16_13 : decode cJ7_fill_d0a16 13 = .ok (.iload_n 3, 1) := by decide +kernel
theorem dJ7_fill_d0a16_14 : decode cJ7_fill_d0a16 14 = .ok (.lload_n 1, 1) := by decide +kernel
theorem dJ7_fill_d0a16_15 : decode cJ7_fill_d0a16 15 = .ok (.lastore, 1) := by decide +kernel
theorem dJ7_fill_d0a16_16 : decode cJ7_fill_d0a16 16 = .ok (.iinc 3 1, 3) := by decide +kernel
theorem dJ7_fill_d0a16_19 : decode cJ7_fill_d0a16 19 = .ok (.goto (-13), 3) := by decide +kernel
theorem dJ7_fill_d0a16_22 : decode cJ7_fill_d0a16 22 = .ok (.return_, 1) := by decide +kernel
abbrev z_J7_fill_d0a16 : List Cond := .code yJ7_fill_d0a16 cJ7_fill_d0a16 5 none :: zW
abbrev wl_J7_fill_d0a16 (ad : Nat → Nat) (cs : Nat → ClassId) (h_arJ_a : Nat) (arJ_a : Nat → Int64) (arJ_a_n : Nat) : va_W := [(h_arJ_a, .inl (cs 1, arJ_a_n, .inr (.inl arJ_a)))]
def Q_J7_fill_d0a16 (D : va_G) (cs : Nat → ClassId) (ad : Nat → Nat) (h_arJ_a : Nat) (arJ_a_n : Nat) (A : Nat → Prop) (R : (Nat → Int64)) : Array Value → State → Outcome → State → Prop :=
  va_Qv (fun u : (Nat → Int64) => u = R) (fun (u : (Nat → Int64)) (t : State) => va_P D classes (wl_J7_fill_d0a16 ad cs h_arJ_a u arJ_a_n) t.heap ∧ va_D A (wl_J7_fill_d0a16 ad cs h_arJ_a u arJ_a_n)) A
abbrev rm_J7_fill_d0a16 : Room := { frames := 0, cells := 0, slots := 0, locals := 0 }
def B_J7_fill_d0a16_6   (g6 : Int64 → Int32 → Int32 → (Nat → Int64) → (Option ((Nat → Int64)))) (arJ_a_n : Nat) (x1 : Int64) (x3 : Int32) (x4 : Int32) (arJ_a : Nat → Int64) : Option ((Nat → Int64)) :=
  (if x4 ≤ x3 then (some arJ_a) else (if (x3 < 0 ∨ arJ_a_n ≤ x3.toNatClampNeg) then none else (zk_let (vp_updL arJ_a x3.toNatClampNeg x1) (fun f_4 => (zk_let (x3 + (1 : Int32)) (fun v_5 => (g6 x1 v_5 x4 f_4)))))))
def B_J7_fill_d0a16_0   (g6 : Int64 → Int32 → Int32 → (Nat → Int64) → (Option ((Nat → Int64)))) (arJ_a_n : Nat) (x1 : Int64) (arJ_a : Nat → Int64) : Option ((Nat → Int64)) :=
  (zk_let (Int32.ofNat arJ_a_n) (fun v_1 => (g6 x1 (0 : Int32) v_1 arJ_a)))
def G_J7_fill_d0a16   (arJ_a_n : Nat) (n : Nat) : (Int64 → Int32 → Int32 → (Nat → Int64) → (Option ((Nat → Int64)))) :=
  Nat.rec (motive := fun _ => (Int64 → Int32 → Int32 → (Nat → Int64) → (Option ((Nat → Int64))))) ((fun _ _ _ _ => none)) (fun _ ih => (B_J7_fill_d0a16_6   ih arJ_a_n)) n
def f_J7_fill_d0a16   (n : Nat) (x1 : Int64) (arJ_a : Nat → Int64) (arJ_a_n : Nat) : Option ((Nat → Int64)) := B_J7_fill_d0a16_0   ((G_J7_fill_d0a16   arJ_a_n n)) arJ_a_n x1 arJ_a
set_option maxHeartbeats 4000000 in
set_option maxRecDepth 100000 in
theorem L_J7_fill_d0a16_6 {p : Program} {l : Launch} {e : Env} {s : State} {m : MethodId} {args : Array Value} {below : List Frame} {meth : Method} {c : Code} {A : Nat → Prop} {D : va_G} {cs : Nat → ClassId} {ad : Nat → Nat} {h_arJ_a : Nat} {arJ_a_n : Nat} {R : (Nat → Int64)} {g6 : Int64 → Int32 → Int32 → (Nat → Int64) → (Option ((Nat → Int64)))} (C0 : zC p s m args meth c cJ7_fill_d0a16 5 none RJ7 zW) (hK : va_K D classes (zT cs) s) (hA : ∀ q : Nat, s.heap.size ≤ q → A q) (ih6 : ∀ (x1 : Int64) (x3 : Int32) (x4 : Int32) (arJ_a : Nat → Int64) (h : g6 x1 x3 x4 arJ_a = some R) (H : Heap) (locs : List Loc) (ls : Array Slot) (hP : va_P D classes (wl_J7_fill_d0a16 ad cs h_arJ_a arJ_a arJ_a_n) H) (hD : va_D A (wl_J7_fill_d0a16 ad cs h_arJ_a arJ_a arJ_a_n)) (hS : va_S A s.heap H locs) (hl : lv_has ls 5 [(0, .ref h_arJ_a), (1, .long x1), (3, .int x3), (4, .int x4)]), W p l e rm_J7_fill_d0a16 s m args below meth c H locs 0 0 (MQ below (Q_J7_fill_d0a16 D cs ad h_arJ_a arJ_a_n A R) args s 0 0 A) (F0 m 6 ls [])) (x1 : Int64) (x3 : Int32) (x4 : Int32) (arJ_a : Nat → Int64) (h : B_J7_fill_d0a16_6 g6 arJ_a_n x1 x3 x4 arJ_a = some R) (H : Heap) (locs : List Loc) (ls : Array Slot) (hP : va_P D classes (wl_J7_fill_d0a16 ad cs h_arJ_a arJ_a arJ_a_n) H) (hD : va_D A (wl_J7_fill_d0a16 ad cs h_arJ_a arJ_a arJ_a_n)) (hS : va_S A s.heap H locs) (hl : lv_has ls 5 [(0, .ref h_arJ_a), (1, .long x1), (3, .int x3), (4, .int x4)]) : W p l e rm_J7_fill_d0a16 s m args below meth c H locs 0 0 (MQ below (Q_J7_fill_d0a16 D cs ad h_arJ_a arJ_a_n A R) args s 0 0 A) (F0 m 6 ls []) := by
  obtain ⟨hx, hb, hr, hml, hown, ht, hlocks⟩ := id C0
  refine lv_iload_n hx hb dJ7_fill_d0a16_6 rfl (lv_at hl 2 rfl) ?_
  refine lv_iload hx hb dJ7_fill_d0a16_7 (lv_at hl 3 rfl) ?_
  refine lv_icmp_ge (tgt := 22) hx hb dJ7_fill_d0a16_9 (by decide) (fun c_2 => ?_) (fun c_2 => ?_)
  · have h := zk_t c_2 h
    exact W.vret hx hb hr (fun t ht2 hW => ⟨⟨arJ_a, rfl, Option.some.inj h, by rw [ht2]; exact hP, hD⟩, hS.F ht2⟩) hS.2.2 dJ7_fill_d0a16_22 hlocks
  · have h := zk_f c_2 h
    refine lv_aload_n hx hb dJ7_fill_d0a16_12 rfl (lv_at hl 0 rfl) ?_
    refine lv_iload_n hx hb dJ7_fill_d0a16_13 rfl (lv_at hl 2 rfl) ?_
    refine lv_lload_n hx hb dJ7_fill_d0a16_14 rfl (lv_at hl 1 rfl) ?_
    obtain ⟨g_3, h⟩ := zk_gd h
    obtain ⟨f_4, ef_4, h⟩ := zk_lt h
    refine va_last hx hb hK hP hD hS 0 1 rfl rfl g_3 dJ7_fill_d0a16_15 (fun H locs hP hD hS => ?_)
    have hP : va_P D classes (wl_J7_fill_d0a16 ad cs h_arJ_a f_4 arJ_a_n) H := by rw [ef_4]; exact hP
    have hD : va_D A (wl_J7_fill_d0a16 ad cs h_arJ_a f_4 arJ_a_n) := by rw [ef_4]; exact hD
    obtain ⟨v_5, ev_5, h⟩ := zk_lt h
    refine lv_iinc (v := v_5) (lv' := [(3, .int v_5), (0, .ref h_arJ_a), (1, .long x1), (4, .int x4)]) hx hb dJ7_fill_d0a16_16 hl (k := 2) rfl (by rw [ev_5]; rfl) (by decide) rfl (fun ls hl => ?_)
    refine lv_goto (tgt := 6) hx hb dJ7_fill_d0a16_19 (by decide) ?_
    exact ih6 x1 v_5 x4 f_4 h H locs ls hP hD hS (lv_sub hl [1, 2, 0, 3] rfl)
set_option maxHeartbeats 4000000 in
set_option maxRecDepth 100000 in
theorem L_J7_fill_d0a16_0 {p : Program} {l : Launch} {e : Env} {s : State} {m : MethodId} {args : Array Value} {below : List Frame} {meth : Method} {c : Code} {A : Nat → Prop} {D : va_G} {cs : Nat → ClassId} {ad : Nat → Nat} {h_arJ_a : Nat} {arJ_a_n : Nat} {R : (Nat → Int64)} {g6 : Int64 → Int32 → Int32 → (Nat → Int64) → (Option ((Nat → Int64)))} (C0 : zC p s m args meth c cJ7_fill_d0a16 5 none RJ7 zW) (hK : va_K D classes (zT cs) s) (hA : ∀ q : Nat, s.heap.size ≤ q → A q) (ih6 : ∀ (x1 : Int64) (x3 : Int32) (x4 : Int32) (arJ_a : Nat → Int64) (h : g6 x1 x3 x4 arJ_a = some R) (H : Heap) (locs : List Loc) (ls : Array Slot) (hP : va_P D classes (wl_J7_fill_d0a16 ad cs h_arJ_a arJ_a arJ_a_n) H) (hD : va_D A (wl_J7_fill_d0a16 ad cs h_arJ_a arJ_a arJ_a_n)) (hS : va_S A s.heap H locs) (hl : lv_has ls 5 [(0, .ref h_arJ_a), (1, .long x1), (3, .int x3), (4, .int x4)]), W p l e rm_J7_fill_d0a16 s m args below meth c H locs 0 0 (MQ below (Q_J7_fill_d0a16 D cs ad h_arJ_a arJ_a_n A R) args s 0 0 A) (F0 m 6 ls [])) (x1 : Int64) (arJ_a : Nat → Int64) (h : B_J7_fill_d0a16_0 g6 arJ_a_n x1 arJ_a = some R) (H : Heap) (locs : List Loc) (ls : Array Slot) (hP : va_P D classes (wl_J7_fill_d0a16 ad cs h_arJ_a arJ_a arJ_a_n) H) (hD : va_D A (wl_J7_fill_d0a16 ad cs h_arJ_a arJ_a arJ_a_n)) (hS : va_S A s.heap H locs) (hl : lv_has ls 5 [(0, .ref h_arJ_a), (1, .long x1)]) : W p l e rm_J7_fill_d0a16 s m args below meth c H locs 0 0 (MQ below (Q_J7_fill_d0a16 D cs ad h_arJ_a arJ_a_n A R) args s 0 0 A) (F0 m 0 ls []) := by
  obtain ⟨hx, hb, hr, hml, hown, ht, hlocks⟩ := id C0
  refine lv_iconst (v := (0 : Int32)) hx hb dJ7_fill_d0a16_0 (by decide) ?_
  refine lv_istore_n (lv' := [(3, .int (0 : Int32)), (0, .ref h_arJ_a), (1, .long x1)]) hx hb dJ7_fill_d0a16_1 rfl hl (by decide) rfl (fun ls hl => ?_)
  refine lv_aload_n hx hb dJ7_fill_d0a16_2 rfl (lv_at hl 1 rfl) ?_
  refine va_alen (v := Int32.ofNat arJ_a_n) hx hb hK hP 0 1 rfl rfl rfl dJ7_fill_d0a16_3 ?_
  obtain ⟨v_1, ev_1, h⟩ := zk_lt h
  refine W.eq (g2 := F0 m 4 ls [.int v_1]) (by rw [ev_1]) ?_
  refine lv_istore (lv' := [(4, .int v_1), (3, .int (0 : Int32)), (0, .ref h_arJ_a), (1, .long x1)]) hx hb dJ7_fill_d0a16_4 hl (by decide) rfl (fun ls hl => ?_)
  exact ih6 x1 (0 : Int32) v_1 arJ_a h H locs ls hP hD hS (lv_sub hl [2, 3, 1, 0] rfl)
theorem LG_J7_fill_d0a16 {p : Program} {l : Launch} {e : Env} {s : State} {m : MethodId} {args : Array Value} {below : List Frame} {meth : Method} {c : Code} {A : Nat → Prop} {D : va_G} {cs : Nat → ClassId} {ad : Nat → Nat} {h_arJ_a : Nat} {arJ_a_n : Nat} {R : (Nat → Int64)} (C0 : zC p s m args meth c cJ7_fill_d0a16 5 none RJ7 zW) (hK : va_K D classes (zT cs) s) (hA : ∀ q : Nat, s.heap.size ≤ q → A q) : ∀ n : Nat, (∀ (x1 : Int64) (x3 : Int32) (x4 : Int32) (arJ_a : Nat → Int64) (h : (G_J7_fill_d0a16   arJ_a_n n) x1 x3 x4 arJ_a = some R) (H : Heap) (locs : List Loc) (ls : Array Slot) (hP : va_P D classes (wl_J7_fill_d0a16 ad cs h_arJ_a arJ_a arJ_a_n) H) (hD : va_D A (wl_J7_fill_d0a16 ad cs h_arJ_a arJ_a arJ_a_n)) (hS : va_S A s.heap H locs) (hl : lv_has ls 5 [(0, .ref h_arJ_a), (1, .long x1), (3, .int x3), (4, .int x4)]), W p l e rm_J7_fill_d0a16 s m args below meth c H locs 0 0 (MQ below (Q_J7_fill_d0a16 D cs ad h_arJ_a arJ_a_n A R) args s 0 0 A) (F0 m 6 ls [])) := by
  intro n
  induction n with
  | zero =>
    refine ?_ <;> (intros; rename_i h _ _ _ _ _ _ _; cases h)
  | succ n ih =>
    exact L_J7_fill_d0a16_6 C0 hK hA  ih
set_option maxHeartbeats 4000000 in
set_option maxRecDepth 100000 in
theorem c_J7_fill_d0a16 (l : Launch) (D : va_G) (cs : Nat → ClassId) (ad : Nat → Nat) (h_arJ_a : Nat) (sz : Nat) (n : Nat) (x1 : Int64) (arJ_a : Nat → Int64) (arJ_a_n : Nat) (R : (Nat → Int64)) (h : f_J7_fill_d0a16   n x1 arJ_a arJ_a_n = some R) : Met l yJ7_fill_d0a16 (z_J7_fill_d0a16) rm_J7_fill_d0a16 (va_Pc [.ref h_arJ_a, .long x1] (zPre D cs (wl_J7_fill_d0a16 ad cs h_arJ_a arJ_a arJ_a_n) sz)) (Q_J7_fill_d0a16 D cs ad h_arJ_a arJ_a_n (va_A (wl_J7_fill_d0a16 ad cs h_arJ_a arJ_a arJ_a_n) sz) R) 0 0 (va_A (wl_J7_fill_d0a16 ad cs h_arJ_a arJ_a arJ_a_n) sz) := by
  refine Met.ofW (cc := cJ7_fill_d0a16) (maxL := 5) (ret := none) (by decide) rfl ?_
  intro p e s m args below meth c s₁ B hml hv
  obtain ⟨rfl, hsz, hP, hK, hD0⟩ := hv
  subst hsz
  have hD := hD0.self (sz := s.heap.size)
  have C0 : zC p s m _ meth c cJ7_fill_d0a16 5 none RJ7 zW := ⟨B.exec, B.bytes, B.returns, hml, findClass_of_methodNamed B.named, fun w hw => atoms_spec (ws := z_J7_fill_d0a16) B.pre w (List.mem_cons_of_mem _ hw), B.notSynchronized⟩
  have hA : ∀ q : Nat, s.heap.size ≤ q → va_A (wl_J7_fill_d0a16 ad cs h_arJ_a arJ_a arJ_a_n) s.heap.size q := fun q h => Or.inr h
  have hl := lv_entry ([.ref h_arJ_a, .long x1]) (n := 5) (Nat.le_of_ble_eq_true rfl)
  rw [lg_entry_eq]
  generalize (lg_sl ([.ref h_arJ_a, .long x1]) ++ List.replicate (5 - (lg_sl ([.ref h_arJ_a, .long x1])).length) Slot.unset).toArray = ls at hl ⊢
  exact L_J7_fill_d0a16_0 C0 hK hA  ((LG_J7_fill_d0a16 C0 hK hA  n)) x1 arJ_a h s.heap [] ls hP hD va_S.rf hl
theorem dJ7_fill_53178_0 : decode cJ7_fill_53178 0 = .ok (.iconst 0, 1) := by decide +kernel
theorem dJ7_fill_53178_1 : decode cJ7_fill_53178 1 = .ok (.istore_n 2, 1) := by decide +kernel
theorem dJ7_fill_53178_2 : decode cJ7_fill_53178 2 = .ok (.aload_n 0, 1) := by decide +kernel
theorem dJ7_fill_53178_3 : decode cJ7_fill_53178 3 = .ok (.arraylength, 1) := by decide +kernel
theorem dJ7_fill_53178_4 : decode cJ7_fill_53178 4 = .ok (.istore_n 3, 1) := by decide +kernel
theorem dJ7_fill_53178_5 : decode cJ7_fill_53178 5 = .ok (.iload_n 2, 1) := by decide +kernel
theorem dJ7_fill_53178_6 : decode cJ7_fill_53178 6 = .ok (.iload_n 3, 1) := by decide +kernel
theorem dJ7_fill_53178_7 : decode cJ7_fill_53178 7 = .ok (.if_icmp .ge 13, 3) := by decide +kernel
theorem dJ7_fill_53178_10 : decode cJ7_fill_53178 10 = .ok (.aload_n 0, 1) := by decide +kernel
theorem dJ7_fill_53178_11 : decode cJ7_fill_53178 11 = .ok (.iload_n 2, 1) := by decide +kernel
theorem dJ7_fill_53178_12 : decode cJ7_fill_53178 12 = .ok (.iload_n 1, 1) := by decide +kernel
theorem dJ7_fill_53178_13 : decode cJ7_fill_53178 13 = .ok (.iastore, 1) := by decide +kernel
theorem dJ7_fill_53178_14 : decode cJ7_fill_53178 14 = .ok (.iinc 2 1, 3) := by decide +kernel
theorem dJ7_fill_53178_17 : decode cJ7_fill_53178 17 = .ok (.goto (-12), 3) := by decide +kernel
theorem dJ7_fill_53178_20 : decode cJ7_fill_53178 20 = .ok (.return_, 1) := by decide +kernel
abbrev z_J7_fill_53178 : List Cond := .code yJ7_fill_53178 cJ7_fill_53178 4 none :: zW
abbrev wl_J7_fill_53178 (ad : Nat → Nat) (cs : Nat → ClassId) (h_arI_a : Nat) (arI_a : Nat → Int32) (arI_a_n : Nat) : va_W := [(h_arI_a, .inl (cs 0, arI_a_n, .inl arI_a))]
def Q_J7_fill_53178 (D : va_G) (cs : Nat → ClassId) (ad : Nat → Nat) (h_arI_a : Nat) (arI_a_n : Nat) (A : Nat → Prop) (R : (Nat → Int32)) : Array Value → State → Outcome → State → Prop :=
  va_Qv (fun u : (Nat → Int32) => u = R) (fun (u : (Nat → Int32)) (t : State) => va_P D classes (wl_J7_fill_53178 ad cs h_arI_a u arI_a_n) t.heap ∧ va_D A (wl_J7_fill_53178 ad cs h_arI_a u arI_a_n)) A
abbrev rm_J7_fill_53178 : Room := { frames := 0, cells := 0, slots := 0, locals := 0 }
def B_J7_fill_53178_5   (g5 : Int32 → Int32 → Int32 → (Nat → Int32) → (Option ((Nat → Int32)))) (arI_a_n : Nat) (x1 : Int32) (x2 : Int32) (x3 : Int32) (arI_a : Nat → Int32) : Option ((Nat → Int32)) :=
  (if x3 ≤ x2 then (some arI_a) else (if (x2 < 0 ∨ arI_a_n ≤ x2.toNatClampNeg) then none else (zk_let (upd arI_a x2.toNatClampNeg x1) (fun f_4 => (zk_let (x2 + (1 : Int32)) (fun v_5 => (g5 x1 v_5 x3 f_4)))))))
def B_J7_fill_53178_0   (g5 : Int32 → Int32 → Int32 → (Nat → Int32) → (Option ((Nat → Int32)))) (arI_a_n : Nat) (x1 : Int32) (arI_a : Nat → Int32) : Option ((Nat → Int32)) :=
  (zk_let (Int32.ofNat arI_a_n) (fun v_1 => (g5 x1 (0 : Int32) v_1 arI_a)))
def G_J7_fill_53178   (arI_a_n : Nat) (n : Nat) : (Int32 → Int32 → Int32 → (Nat → Int32) → (Option ((Nat → Int32)))) :=
  Nat.rec (motive := fun _ => (Int32 → Int32 → Int32 → (Nat → Int32) → (Option ((Nat → Int32))))) ((fun _ _ _ _ => none)) (fun _ ih => (B_J7_fill_53178_5   ih arI_a_n)) n
def f_J7_fill_53178   (n : Nat) (x1 : Int32) (arI_a : Nat → Int32) (arI_a_n : Nat) : Option ((Nat → Int32)) := B_J7_fill_53178_0   ((G_J7_fill_53178   arI_a_n n)) arI_a_n x1 arI_a
set_option maxHeartbeats 4000000 in
set_option maxRecDepth 100000 in
theorem L_J7_fill_53178_5 {p : Program} {l : Launch} {e : Env} {s : State} {m : MethodId} {args : Array Value} {below : List Frame} {meth : Method} {c : Code} {A : Nat → Prop} {D : va_G} {cs : Nat → ClassId} {ad : Nat → Nat} {h_arI_a : Nat} {arI_a_n : Nat} {R : (Nat → Int32)} {g5 : Int32 → Int32 → Int32 → (Nat → Int32) → (Option ((Nat → Int32)))} (C0 : zC p s m args meth c cJ7_fill_53178 4 none RJ7 zW) (hK : va_K D classes (zT cs) s) (hA : ∀ q : Nat, s.heap.size ≤ q → A q) (ih5 : ∀ (x1 : Int32) (x2 : Int32) (x3 : Int32) (arI_a : Nat → Int32) (h : g5 x1 x2 x3 arI_a = some R) (H : Heap) (locs : List Loc) (ls : Array Slot) (hP : va_P D classes (wl_J7_fill_53178 ad cs h_arI_a arI_a arI_a_n) H) (hD : va_D A (wl_J7_fill_53178 ad cs h_arI_a arI_a arI_a_n)) (hS : va_S A s.heap H locs) (hl : lv_has ls 4 [(0, .ref h_arI_a), (1, .int x1), (2, .int x2), (3, .int x3)]), W p l e rm_J7_fill_53178 s m args below meth c H locs 0 0 (MQ below (Q_J7_fill_53178 D cs ad h_arI_a arI_a_n A R) args s 0 0 A) (F0 m 5 ls [])) (x1 : Int32) (x2 : Int32) (x3 : Int32) (arI_a : Nat → Int32) (h : B_J7_fill_53178_5 g5 arI_a_n x1 x2 x3 arI_a = some R) (H : Heap) (locs : List Loc) (ls : Array Slot) (hP : va_P D classes (wl_J7_fill_53178 ad cs h_arI_a arI_a arI_a_n) H) (hD : va_D A (wl_J7_fill_53178 ad cs h_arI_a arI_a arI_a_n)) (hS : va_S A s.heap H locs) (hl : lv_has ls 4 [(0, .ref h_arI_a), (1, .int x1), (2, .int x2), (3, .int x3)]) : W p l e rm_J7_fill_53178 s m args below meth c H locs 0 0 (MQ below (Q_J7_fill_53178 D cs ad h_arI_a arI_a_n A R) args s 0 0 A) (F0 m 5 ls []) := by
  obtain ⟨hx, hb, hr, hml, hown, ht, hlocks⟩ := id C0
  refine lv_iload_n hx hb dJ7_fill_53178_5 rfl (lv_at hl 2 rfl) ?_
  refine lv_iload_n hx hb dJ7_fill_53178_6 rfl (lv_at hl 3 rfl) ?_
  refine lv_icmp_ge (tgt := 20) hx hb dJ7_fill_53178_7 (by decide) (fun c_2 => ?_) (fun c_2 => ?_)
  · have h := zk_t c_2 h
    exact W.vret hx hb hr (fun t ht2 hW => ⟨⟨arI_a, rfl, Option.some.inj h, by rw [ht2]; exact hP, hD⟩, hS.F ht2⟩) hS.2.2 dJ7_fill_53178_20 hlocks
  · have h := zk_f c_2 h
    refine lv_aload_n hx hb dJ7_fill_53178_10 rfl (lv_at hl 0 rfl) ?_
    refine lv_iload_n hx hb dJ7_fill_53178_11 rfl (lv_at hl 2 rfl) ?_
    refine lv_iload_n hx hb dJ7_fill_53178_12 rfl (lv_at hl 1 rfl) ?_
    obtain ⟨g_3, h⟩ := zk_gd h
    obtain ⟨f_4, ef_4, h⟩ := zk_lt h
    refine va_iast hx hb hK hP hD hS 0 0 rfl rfl g_3 dJ7_fill_53178_13 (fun H locs hP hD hS => ?_)
    have hP : va_P D classes (wl_J7_fill_53178 ad cs h_arI_a f_4 arI_a_n) H := by rw [ef_4]; exact hP
    have hD : va_D A (wl_J7_fill_53178 ad cs h_arI_a f_4 arI_a_n) := by rw [ef_4]; exact hD
    obtain ⟨v_5, ev_5, h⟩ := zk_lt h
    refine lv_iinc (v := v_5) (lv' := [(2, .int v_5), (0, .ref h_arI_a), (1, .int x1), (3, .int x3)]) hx hb dJ7_fill_53178_14 hl (k := 2) rfl (by rw [ev_5]; rfl) (by decide) rfl (fun ls hl => ?_)
    refine lv_goto (tgt := 5) hx hb dJ7_fill_53178_17 (by decide) ?_
    exact ih5 x1 v_5 x3 f_4 h H locs ls hP hD hS (lv_sub hl [1, 2, 0, 3] rfl)
set_option maxHeartbeats 4000000 in
set_option maxRecDepth 100000 in
theorem L_J7_fill_53178_0 {p : Program} {l : Launch} {e : Env} {s : State} {m : MethodId} {args : Array Value} {below : List Frame} {meth : Method} {c : Code} {A : Nat → Prop} {D : va_G} {cs : Nat → ClassId} {ad : Nat → Nat} {h_arI_a : Nat} {arI_a_n : Nat} {R : (Nat → Int32)} {g5 : Int32 → Int32 → Int32 → (Nat → Int32) → (Option ((Nat → Int32)))} (C0 : zC p s m args meth c cJ7_fill_53178 4 none RJ7 zW) (hK : va_K D classes (zT cs) s) (hA : ∀ q : Nat, s.heap.size ≤ q → A q) (ih5 : ∀ (x1 : Int32) (x2 : Int32) (x3 : Int32) (arI_a : Nat → Int32) (h : g5 x1 x2 x3 arI_a = some R) (H : Heap) (locs : List Loc) (ls : Array Slot) (hP : va_P D classes (wl_J7_fill_53178 ad cs h_arI_a arI_a arI_a_n) H) (hD : va_D A (wl_J7_fill_53178 ad cs h_arI_a arI_a arI_a_n)) (hS : va_S A s.heap H locs) (hl : lv_has ls 4 [(0, .ref h_arI_a), (1, .int x1), (2, .int x2), (3, .int x3)]), W p l e rm_J7_fill_53178 s m args below meth c H locs 0 0 (MQ below (Q_J7_fill_53178 D cs ad h_arI_a arI_a_n A R) args s 0 0 A) (F0 m 5 ls [])) (x1 : Int32) (arI_a : Nat → Int32) (h : B_J7_fill_53178_0 g5 arI_a_n x1 arI_a = some R) (H : Heap) (locs : List Loc) (ls : Array Slot) (hP : va_P D classes (wl_J7_fill_53178 ad cs h_arI_a arI_a arI_a_n) H) (hD : va_D A (wl_J7_fill_53178 ad cs h_arI_a arI_a arI_a_n)) (hS : va_S A s.heap H locs) (hl : lv_has ls 4 [(0, .ref h_arI_a), (1, .int x1)]) : W p l e rm_J7_fill_53178 s m args below meth c H locs 0 0 (MQ below (Q_J7_fill_53178 D cs ad h_arI_a arI_a_n A R) args s 0 0 A) (F0 m 0 ls []) := by
  obtain ⟨hx, hb, hr, hml, hown, ht, hlocks⟩ := id C0
  refine lv_iconst (v := (0 : Int32)) hx hb dJ7_fill_53178_0 (by decide) ?_
  refine lv_istore_n (lv' := [(2, .int (0 : Int32)), (0, .ref h_arI_a), (1, .int x1)]) hx hb dJ7_fill_53178_1 rfl hl (by decide) rfl (fun ls hl => ?_)
  refine lv_aload_n hx hb dJ7_fill_53178_2 rfl (lv_at hl 1 rfl) ?_
  refine va_alen (v := Int32.ofNat arI_a_n) hx hb hK hP 0 0 rfl rfl rfl dJ7_fill_53178_3 ?_
  obtain ⟨v_1, ev_1, h⟩ := zk_lt h
  refine W.eq (g2 := F0 m 4 ls [.int v_1]) (by rw [ev_1]) ?_
  refine lv_istore_n (lv' := [(3, .int v_1), (2, .int (0 : Int32)), (0, .ref h_arI_a), (1, .int x1)]) hx hb dJ7_fill_53178_4 rfl hl (by decide) rfl (fun ls hl => ?_)
  exact ih5 x1 (0 : Int32) v_1 arI_a h H locs ls hP hD hS (lv_sub hl [2, 3, 1, 0] rfl)
theorem LG_J7_fill_53178 {p : Program} {l : Launch} {e : Env} {s : State} {m : MethodId} {args : Array Value} {below : List Frame} {meth : Method} {c : Code} {A : Nat → Prop} {D : va_G} {cs : Nat → ClassId} {ad : Nat → Nat} {h_arI_a : Nat} {arI_a_n : Nat} {R : (Nat → Int32)} (C0 : zC p s m args meth c cJ7_fill_53178 4 none RJ7 zW) (hK : va_K D classes (zT cs) s) (hA : ∀ q : Nat, s.heap.size ≤ q → A q) : ∀ n : Nat, (∀ (x1 : Int32) (x2 : Int32) (x3 : Int32) (arI_a : Nat → Int32) (h : (G_J7_fill_53178   arI_a_n n) x1 x2 x3 arI_a = some R) (H : Heap) (locs : List Loc) (ls : Array Slot) (hP : va_P D classes (wl_J7_fill_53178 ad cs h_arI_a arI_a arI_a_n) H) (hD : va_D A (wl_J7_fill_53178 ad cs h_arI_a arI_a arI_a_n)) (hS : va_S A s.heap H locs) (hl : lv_has ls 4 [(0, .ref h_arI_a), (1, .int x1), (2, .int x2), (3, .int x3)]), W p l e rm_J7_fill_53178 s m args below meth c H locs 0 0 (MQ below (Q_J7_fill_53178 D cs ad h_arI_a arI_a_n A R) args s 0 0 A) (F0 m 5 ls [])) := by
  intro n
  induction n with
  | zero =>
    refine ?_ <;> (intros; rename_i h _ _ _ _ _ _ _; cases h)
  | succ n ih =>
    exact L_J7_fill_53178_5 C0 hK hA  ih
set_option maxHeartbeats 4000000 in
set_option maxRecDepth 100000 in
theorem c_J7_fill_53178 (l : Launch) (D : va_G) (cs : Nat → ClassId) (ad : Nat → Nat) (h_arI_a : Nat) (sz : Nat) (n : Nat) (x1 : Int32) (arI_a : Nat → Int32) (arI_a_n : Nat) (R : (Nat → Int32)) (h : f_J7_fill_53178   n x1 arI_a arI_a_n = some R) : Met l yJ7_fill_53178 (z_J7_fill_53178) rm_J7_fill_53178 (va_Pc [.ref h_arI_a, .int x1] (zPre D cs (wl_J7_fill_53178 ad cs h_arI_a arI_a arI_a_n) sz)) (Q_J7_fill_53178 D cs ad h_arI_a arI_a_n (va_A (wl_J7_fill_53178 ad cs h_arI_a arI_a arI_a_n) sz) R) 0 0 (va_A (wl_J7_fill_53178 ad cs h_arI_a arI_a arI_a_n) sz) := by
  refine Met.ofW (cc := cJ7_fill_53178) (maxL := 4) (ret := none) (by decide) rfl ?_
  intro p e s m args below meth c s₁ B hml hv
  obtain ⟨rfl, hsz, hP, hK, hD0⟩ := hv
  subst hsz
  have hD := hD0.self (sz := s.heap.size)
  have C0 : zC p s m _ meth c cJ7_fill_53178 4 none RJ7 zW := ⟨B.exec, B.bytes, B.returns, hml, findClass_of_methodNamed B.named, fun w hw => atoms_spec (ws := z_J7_fill_53178) B.pre w (List.mem_cons_of_mem _ hw), B.notSynchronized⟩
  have hA : ∀ q : Nat, s.heap.size ≤ q → va_A (wl_J7_fill_53178 ad cs h_arI_a arI_a arI_a_n) s.heap.size q := fun q h => Or.inr h
  have hl := lv_entry ([.ref h_arI_a, .int x1]) (n := 4) (Nat.le_of_ble_eq_true rfl)
  rw [lg_entry_eq]
  generalize (lg_sl ([.ref h_arI_a, .int x1]) ++ List.replicate (4 - (lg_sl ([.ref h_arI_a, .int x1])).length) Slot.unset).toArray = ls at hl ⊢
  exact L_J7_fill_53178_0 C0 hK hA  ((LG_J7_fill_53178 C0 hK hA  n)) x1 arI_a h s.heap [] ls hP hD va_S.rf hl
theorem kw_1059 : Cond.constantLong RJ13 314 (6148914691236517205 : Int64) ∈ zW := zwI (i := 1059) (by decide +kernel) (by decide +kernel)
theorem kw_1060 : Cond.constantLong RJ13 316 (3689348814741910323 : Int64) ∈ zW := zwI (i := 1060) (by decide +kernel) (by decide +kernel)
theorem kw_1061 : Cond.constantLong RJ13 318 (1085102592571150095 : Int64) ∈ zW := zwI (i := 1061) (by decide +kernel) (by decide +kernel)
theorem dJ13_bitCount_95d88_0 : decode cJ13_bitCount_95d88 0 = .ok (.lload_n 0, 1) := by decide +kernel
theorem dJ13_bitCount_95d88_1 : decode cJ13_bitCount_95d88 1 = .ok (.lload_n 0, 1) := by decide +kernel
theorem dJ13_bitCount_95d88_2 : decode cJ13_bitCount_95d88 2 = .ok (.iconst 1, 1) := by decide +kernel
theorem dJ13_bitCount_95d88_3 : decode cJ13_bitCount_95d88 3 = .ok (.lushr, 1) := by decide +kernel
theorem dJ13_bitCount_95d88_4 : decode cJ13_bitCount_95d88 4 = .ok (.ldc2_w 314, 3) := by decide +kernel
theorem dJ13_bitCount_95d88_7 : decode cJ13_bitCount_95d88 7 = .ok (.land, 1) := by decide +kernel
theorem dJ13_bitCount_95d88_8 : decode cJ13_bitCount_95d88 8 = .ok (.lsub, 1) := by decide +kernel
theorem dJ13_bitCount_95d88_9 : decode cJ13_bitCount_95d88 9 = .ok (.lstore_n 0, 1) := by decide +kernel
theorem dJ13_bitCount_95d88_10 : decode cJ13_bitCount_95d88 10 = .ok (.lload_n 0, 1) := by decide +kernel
theorem dJ13_bitCount_95d88_11 : decode cJ13_bitCount_95d88 11 = .ok (.ldc2_w 316, 3) := by decide +kernel
theorem dJ13_bitCount_95d88_14 : decode cJ13_bitCount_95d88 14 = .ok (.land, 1) := by decide +kernel
theorem dJ13_bitCount_95d88_15 : decode cJ13_bitCount_95d88 15 = .ok (.lload_n 0, 1) := by decide +kernel
theorem dJ13_bitCount_95d88_16 : decode cJ13_bitCount_95d88 16 = .ok (.iconst 2, 1) := by decide +kernel
theorem dJ13_bitCount_95d88_17 : decode cJ13_bitCount_95d88 17 = .ok (.lushr, 1) := by decide +kernel
theorem dJ13_bitCount_95d88_18 : decode cJ13_bitCount_95d88 18 = .ok (.ldc2_w 316, 3) := by decide +kernel
theorem dJ13_bitCount_95d88_21 : decode cJ13_bitCount_95d88 21 = .ok (.land, 1) := by decide +kernel
theorem dJ13_bitCount_95d88_22 : decode cJ13_bitCount_95d88 22 = .ok (.ladd, 1) := by decide +kernel
theorem dJ13_bitCount_95d88_23 : decode cJ13_bitCount_95d88 23 = .ok (.lstore_n 0, 1) := by decide +kernel
theorem dJ13_bitCount_95d88_24 : decode cJ13_bitCount_95d88 24 = .ok (.lload_n 0, 1) := by decide +kernel
theorem dJ13_bitCount_95d88_25 : decode cJ13_bitCount_95d88 25 = .ok (.lload_n 0, 1) := by decide +kernel
theorem dJ13_bitCount_95d88_26 : decode cJ13_bitCount_95d88 26 = .ok (.iconst 4, 1) := by decide +kernel
theorem dJ13_bitCount_95d88_27 : decode cJ13_bitCount_95d88 27 = .ok (.lushr, 1) := by decide +kernel
theorem dJ13_bitCount_95d88_28 : decode cJ13_bitCount_95d88 28 = .ok (.ladd, 1) := by decide +kernel
theorem dJ13_bitCount_95d88_29 : decode cJ13_bitCount_95d88 29 = .ok (.ldc2_w 318, 3) := by decide +kernel
theorem dJ13_bitCount_95d88_32 : decode cJ13_bitCount_95d88 32 = .ok (.land, 1) := by decide +kernel
theorem dJ13_bitCount_95d88_33 : decode cJ13_bitCount_95d88 33 = .ok (.lstore_n 0, 1) := by decide +kernel
theorem dJ13_bitCount_95d88_34 : decode cJ13_bitCount_95d88 34 = .ok (.lload_n 0, 1) := by decide +kernel
theorem dJ13_bitCount_95d88_35 : decode cJ13_bitCount_95d88 35 = .ok (.lload_n 0, 1) := by decide +kernel
theorem dJ13_bitCount_95d88_36 : decode cJ13_bitCount_95d88 36 = .ok (.bipush 8, 2) := by decide +kernel
theorem dJ13_bitCount_95d88_38 : decode cJ13_bitCount_95d88 38 = .ok (.lushr, 1) := by decide +kernel
theorem dJ13_bitCount_95d88_39 : decode cJ13_bitCount_95d88 39 = .ok (.ladd, 1) := by decide +kernel
theorem dJ13_bitCount_95d88_40 : decode cJ13_bitCount_95d88 40 = .ok (.lstore_n 0, 1) := by decide +kernel
theorem dJ13_bitCount_95d88_41 : decode cJ13_bitCount_95d88 41 = .ok (.lload_n 0, 1) := by decide +kernel
theorem dJ13_bitCount_95d88_42 : decode cJ13_bitCount_95d88 42 = .ok (.lload_n 0, 1) := by decide +kernel
theorem dJ13_bitCount_95d88_43 : decode cJ13_bitCount_95d88 43 = .ok (.bipush 16, 2) := by decide +kernel
theorem dJ13_bitCount_95d88_45 : decode cJ13_bitCount_95d88 45 = .ok (.lushr, 1) := by decide +kernel
theorem dJ13_bitCount_95d88_46 : decode cJ13_bitCount_95d88 46 = .ok (.ladd, 1) := by decide +kernel
theorem dJ13_bitCount_95d88_47 : decode cJ13_bitCount_95d88 47 = .ok (.lstore_n 0, 1) := by decide +kernel
theorem dJ13_bitCount_95d88_48 : decode cJ13_bitCount_95d88 48 = .ok (.lload_n 0, 1) := by decide +kernel
theorem dJ13_bitCount_95d88_49 : decode cJ13_bitCount_95d88 49 = .ok (.lload_n 0, 1) := by decide +kernel
theorem dJ13_bitCount_95d88_50 : decode cJ13_bitCount_95d88 50 = .ok (.bipush 32, 2) := by decide +kernel
theorem dJ13_bitCount_95d88_52 : decode cJ13_bitCount_95d88 52 = .ok (.lushr, 1) := by decide +kernel
theorem dJ13_bitCount_95d88_53 : decode cJ13_bitCount_95d88 53 = .ok (.ladd, 1) := by decide +kernel
theorem dJ13_bitCount_95d88_54 : decode cJ13_bitCount_95d88 54 = .ok (.lstore_n 0, 1) := by decide +kernel
theorem dJ13_bitCount_95d88_55 : decode cJ13_bitCount_95d88 55 = .ok (.lload_n 0, 1) := by decide +kernel
theorem dJ13_bitCount_95d88_56 : decode cJ13_bitCount_95d88 56 = .ok (.l2i, 1) := by decide +kernel
theorem dJ13_bitCount_95d88_57 : decode cJ13_bitCount_95d88 57 = .ok (.bipush 127, 2) := by decide +kernel
theorem dJ13_bitCount_95d88_59 : decode cJ13_bitCount_95d88 59 = .ok (.iand, 1) := by decide +kernel
theorem dJ13_bitCount_95d88_60 : decode cJ13_bitCount_95d88 60 = .ok (.ireturn, 1) := by decide +kernel
abbrev z_J13_bitCount_95d88 : List Cond := .code yJ13_bitCount_95d88 cJ13_bitCount_95d88 2 (some .int) :: zW
abbrev wl_J13_bitCount_95d88 (ad : Nat → Nat) (cs : Nat → ClassId)   : va_W := []
def Q_J13_bitCount_95d88 (D : va_G) (cs : Nat → ClassId) (ad : Nat → Nat)   (A : Nat → Prop) (R : Int32 × Unit) : Array Value → State → Outcome → State → Prop :=
  va_Qi (fun (r : Int32) (u : Unit) => (r, u) = R) (fun (u : Unit) (t : State) => va_P D classes (wl_J13_bitCount_95d88 ad cs ) t.heap ∧ va_D A (wl_J13_bitCount_95d88 ad cs )) A
abbrev rm_J13_bitCount_95d88 : Room := { frames := 0, cells := 0, slots := 0, locals := 0 }
def B_J13_bitCount_95d88_0     (x0 : Int64) : Option (Int32 × Unit) :=
  (zk_let (x0 - (((x0.toUInt64 >>> ((1 : Int32).toInt64.toUInt64 &&& Int64.toUInt64 63)).toInt64) &&& (6148914691236517205 : Int64))) (fun v_1 => (zk_let ((v_1 &&& (3689348814741910323 : Int64)) + (((v_1.toUInt64 >>> ((2 : Int32).toInt64.toUInt64 &&& Int64.toUInt64 63)).toInt64) &&& (3689348814741910323 : Int64))) (fun v_2 => (zk_let ((v_2 + ((v_2.toUInt64 >>> ((4 : Int32).toInt64.toUInt64 &&& Int64.toUInt64 63)).toInt64)) &&& (1085102592571150095 : Int64)) (fun v_3 => (zk_let (v_3 + ((v_3.toUInt64 >>> ((8 : Int32).toInt64.toUInt64 &&& Int64.toUInt64 63)).toInt64)) (fun v_4 => (zk_let (v_4 + ((v_4.toUInt64 >>> ((16 : Int32).toInt64.toUInt64 &&& Int64.toUInt64 63)).toInt64)) (fun v_5 => (zk_let (v_5 + ((v_5.toUInt64 >>> ((32 : Int32).toInt64.toUInt64 &&& Int64.toUInt64 63)).toInt64)) (fun v_6 => (some (v_6.toInt32 &&& (127 : Int32), ()))))))))))))))
def f_J13_bitCount_95d88   (x0 : Int64)  : Option (Int32 × Unit) := B_J13_bitCount_95d88_0    x0 
set_option maxHeartbeats 4000000 in
set_option maxRecDepth 100000 in
theorem L_J13_bitCount_95d88_0 {p : Program} {l : Launch} {e : Env} {s : State} {m : MethodId} {args : Array Value} {below : List Frame} {meth : Method} {c : Code} {A : Nat → Prop} {D : va_G} {cs : Nat → ClassId} {ad : Nat → Nat} {R : Int32 × Unit} (C0 : zC p s m args meth c cJ13_bitCount_95d88 2 (some .int) RJ13 zW) (hK : va_K D classes (zT cs) s) (hA : ∀ q : Nat, s.heap.size ≤ q → A q) (x0 : Int64) (h : B_J13_bitCount_95d88_0 x0 = some R) (H : Heap) (locs : List Loc) (ls : Array Slot) (hP : va_P D classes (wl_J13_bitCount_95d88 ad cs ) H) (hD : va_D A (wl_J13_bitCount_95d88 ad cs )) (hS : va_S A s.heap H locs) (hl : lv_has ls 2 [(0, .long x0)]) : W p l e rm_J13_bitCount_95d88 s m args below meth c H locs 0 0 (MQ below (Q_J13_bitCount_95d88 D cs ad  A R) args s 0 0 A) (F0 m 0 ls []) := by
  obtain ⟨hx, hb, hr, hml, hown, ht, hlocks⟩ := id C0
  refine lv_lload_n hx hb dJ13_bitCount_95d88_0 rfl (lv_at hl 0 rfl) ?_
  refine lv_lload_n hx hb dJ13_bitCount_95d88_1 rfl (lv_at hl 0 rfl) ?_
  refine lv_iconst (v := (1 : Int32)) hx hb dJ13_bitCount_95d88_2 (by decide) ?_
  refine lv_lushr (v := (x0.toUInt64 >>> ((1 : Int32).toInt64.toUInt64 &&& Int64.toUInt64 63)).toInt64) hx hb dJ13_bitCount_95d88_3 rfl ?_
  refine lv_ldc2 (v := (6148914691236517205 : Int64)) hx hb hown (ht _ kw_1059) dJ13_bitCount_95d88_4 ?_
  refine lv_land hx hb dJ13_bitCount_95d88_7 ?_
  refine lv_lsub hx hb dJ13_bitCount_95d88_8 ?_
  obtain ⟨v_1, ev_1, h⟩ := zk_lt h
  refine W.eq (g2 := F0 m 9 ls [.long v_1]) (by rw [ev_1]) ?_
  refine lv_lstore_n (lv' := [(0, .long v_1)]) hx hb dJ13_bitCount_95d88_9 rfl hl (by decide) rfl (fun ls hl => ?_)
  refine lv_lload_n hx hb dJ13_bitCount_95d88_10 rfl (lv_at hl 0 rfl) ?_
  refine lv_ldc2 (v := (3689348814741910323 : Int64)) hx hb hown (ht _ kw_1060) dJ13_bitCount_95d88_11 ?_
  refine lv_land hx hb dJ13_bitCount_95d88_14 ?_
  refine lv_lload_n hx hb dJ13_bitCount_95d88_15 rfl (lv_at hl 0 rfl) ?_
  refine lv_iconst (v := (2 : Int32)) hx hb dJ13_bitCount_95d88_16 (by decide) ?_
  refine lv_lushr (v := (v_1.toUInt64 >>> ((2 : Int32).toInt64.toUInt64 &&& Int64.toUInt64 63)).toInt64) hx hb dJ13_bitCount_95d88_17 rfl ?_
  refine lv_ldc2 (v := (3689348814741910323 : Int64)) hx hb hown (ht _ kw_1060) dJ13_bitCount_95d88_18 ?_
  refine lv_land hx hb dJ13_bitCount_95d88_21 ?_
  refine lv_ladd hx hb dJ13_bitCount_95d88_22 ?_
  obtain ⟨v_2, ev_2, h⟩ := zk_lt h
  refine W.eq (g2 := F0 m 23 ls [.long v_2]) (by rw [ev_2]) ?_
  refine lv_lstore_n (lv' := [(0, .long v_2)]) hx hb dJ13_bitCount_95d88_23 rfl hl (by decide) rfl (fun ls hl => ?_)
  refine lv_lload_n hx hb dJ13_bitCount_95d88_24 rfl (lv_at hl 0 rfl) ?_
  refine lv_lload_n hx hb dJ13_bitCount_95d88_25 rfl (lv_at hl 0 rfl) ?_
  refine lv_iconst (v := (4 : Int32)) hx hb dJ13_bitCount_95d88_26 (by decide) ?_
  refine lv_lushr (v := (v_2.toUInt64 >>> ((4 : Int32).toInt64.toUInt64 &&& Int64.toUInt64 63)).toInt64) hx hb dJ13_bitCount_95d88_27 rfl ?_
  refine lv_ladd hx hb dJ13_bitCount_95d88_28 ?_
  refine lv_ldc2 (v := (1085102592571150095 : Int64)) hx hb hown (ht _ kw_1061) dJ13_bitCount_95d88_29 ?_
  refine lv_land hx hb dJ13_bitCount_95d88_32 ?_
  obtain ⟨v_3, ev_3, h⟩ := zk_lt h
  refine W.eq (g2 := F0 m 33 ls [.long v_3]) (by rw [ev_3]) ?_
  refine lv_lstore_n (lv' := [(0, .long v_3)]) hx hb dJ13_bitCount_95d88_33 rfl hl (by decide) rfl (fun ls hl => ?_)
  refine lv_lload_n hx hb dJ13_bitCount_95d88_34 rfl (lv_at hl 0 rfl) ?_
  refine lv_lload_n hx hb dJ13_bitCount_95d88_35 rfl (lv_at hl 0 rfl) ?_
  refine lv_bipush (v := (8 : Int32)) hx hb dJ13_bitCount_95d88_36 (by decide) ?_
  refine lv_lushr (v := (v_3.toUInt64 >>> ((8 : Int32).toInt64.toUInt64 &&& Int64.toUInt64 63)).toInt64) hx hb dJ13_bitCount_95d88_38 rfl ?_
  refine lv_ladd hx hb dJ13_bitCount_95d88_39 ?_
  obtain ⟨v_4, ev_4, h⟩ := zk_lt h
  refine W.eq (g2 := F0 m 40 ls [.long v_4]) (by rw [ev_4]) ?_
  refine lv_lstore_n (lv' := [(0, .long v_4)]) hx hb dJ13_bitCount_95d88_40 rfl hl (by decide) rfl (fun ls hl => ?_)
  refine lv_lload_n hx hb dJ13_bitCount_95d88_41 rfl (lv_at hl 0 rfl) ?_
  refine lv_lload_n hx hb dJ13_bitCount_95d88_42 rfl (lv_at hl 0 rfl) ?_
  refine lv_bipush (v := (16 : Int32)) hx hb dJ13_bitCount_95d88_43 (by decide) ?_
  refine lv_lushr (v := (v_4.toUInt64 >>> ((16 : Int32).toInt64.toUInt64 &&& Int64.toUInt64 63)).toInt64) hx hb dJ13_bitCount_95d88_45 rfl ?_
  refine lv_ladd hx hb dJ13_bitCount_95d88_46 ?_
  obtain ⟨v_5, ev_5, h⟩ := zk_lt h
  refine W.eq (g2 := F0 m 47 ls [.long v_5]) (by rw [ev_5]) ?_
  refine lv_lstore_n (lv' := [(0, .long v_5)]) hx hb dJ13_bitCount_95d88_47 rfl hl (by decide) rfl (fun ls hl => ?_)
  refine lv_lload_n hx hb dJ13_bitCount_95d88_48 rfl (lv_at hl 0 rfl) ?_
  refine lv_lload_n hx hb dJ13_bitCount_95d88_49 rfl (lv_at hl 0 rfl) ?_
  refine lv_bipush (v := (32 : Int32)) hx hb dJ13_bitCount_95d88_50 (by decide) ?_
  refine lv_lushr (v := (v_5.toUInt64 >>> ((32 : Int32).toInt64.toUInt64 &&& Int64.toUInt64 63)).toInt64) hx hb dJ13_bitCount_95d88_52 rfl ?_
  refine lv_ladd hx hb dJ13_bitCount_95d88_53 ?_
  obtain ⟨v_6, ev_6, h⟩ := zk_lt h
  refine W.eq (g2 := F0 m 54 ls [.long v_6]) (by rw [ev_6]) ?_
  refine lv_lstore_n (lv' := [(0, .long v_6)]) hx hb dJ13_bitCount_95d88_54 rfl hl (by decide) rfl (fun ls hl => ?_)
  refine lv_lload_n hx hb dJ13_bitCount_95d88_55 rfl (lv_at hl 0 rfl) ?_
  refine lv_l2i (v := v_6.toInt32) hx hb dJ13_bitCount_95d88_56 rfl ?_
  refine lv_bipush (v := (127 : Int32)) hx hb dJ13_bitCount_95d88_57 (by decide) ?_
  refine lv_iand hx hb dJ13_bitCount_95d88_59 ?_
  exact W.iret (v := v_6.toInt32 &&& (127 : Int32)) hx hb hr (fun t ht2 hW => ⟨⟨v_6.toInt32 &&& (127 : Int32), (), rfl, Option.some.inj h, by rw [ht2]; exact hP, hD⟩, hS.F ht2⟩) hS.2.2 dJ13_bitCount_95d88_60 hlocks
set_option maxHeartbeats 4000000 in
set_option maxRecDepth 100000 in
theorem c_J13_bitCount_95d88 (l : Launch) (D : va_G) (cs : Nat → ClassId) (ad : Nat → Nat) (sz : Nat) (x0 : Int64)  (R : Int32 × Unit) (h : f_J13_bitCount_95d88   x0  = some R) : Met l yJ13_bitCount_95d88 (z_J13_bitCount_95d88) rm_J13_bitCount_95d88 (va_Pc [.long x0] (zPre D cs (wl_J13_bitCount_95d88 ad cs ) sz)) (Q_J13_bitCount_95d88 D cs ad  (va_A (wl_J13_bitCount_95d88 ad cs ) sz) R) 0 0 (va_A (wl_J13_bitCount_95d88 ad cs ) sz) := by
  refine Met.ofW (cc := cJ13_bitCount_95d88) (maxL := 2) (ret := (some .int)) (by decide) rfl ?_
  intro p e s m args below meth c s₁ B hml hv
  obtain ⟨rfl, hsz, hP, hK, hD0⟩ := hv
  subst hsz
  have hD := hD0.self (sz := s.heap.size)
  have C0 : zC p s m _ meth c cJ13_bitCount_95d88 2 (some .int) RJ13 zW := ⟨B.exec, B.bytes, B.returns, hml, findClass_of_methodNamed B.named, fun w hw => atoms_spec (ws := z_J13_bitCount_95d88) B.pre w (List.mem_cons_of_mem _ hw), B.notSynchronized⟩
  have hA : ∀ q : Nat, s.heap.size ≤ q → va_A (wl_J13_bitCount_95d88 ad cs ) s.heap.size q := fun q h => Or.inr h
  have hl := lv_entry ([.long x0]) (n := 2) (Nat.le_of_ble_eq_true rfl)
  rw [lg_entry_eq]
  generalize (lg_sl ([.long x0]) ++ List.replicate (2 - (lg_sl ([.long x0])).length) Slot.unset).toArray = ls at hl ⊢
  exact L_J13_bitCount_95d88_0 C0 hK hA   x0  h s.heap [] ls hP hD va_S.rf hl
theorem kw_237 : Cond.fieldLink RX9 15 "AlreadyJudged$Tape" "size" "I" ∈ zW := zwI (i := 237) (by decide +kernel) (by decide +kernel)
theorem dX9_add_0 : decode cX9_add 0 = .ok (.aload_n 0, 1) := by decide +kernel
theorem dX9_add_1 : decode cX9_add 1 = .ok (.getfield 15, 3) := by decide +kernel
theorem dX9_add_4 : decode cX9_add 4 = .ok (.bipush 120, 2) := by decide +kernel
theorem dX9_add_6 : decode cX9_add 6 = .ok (.if_icmp .ge 23, 3) := by decide +kernel
theorem dX9_add_9 : decode cX9_add 9 = .ok (.aload_n 0, 1) := by decide +kernel
theorem dX9_add_10 : decode cX9_add 10 = .ok (.getfield 9, 3) := by decide +kernel
theorem dX9_add_13 : decode cX9_add 13 = .ok (.aload_n 0, 1) := by decide +kernel
theorem dX9_add_14 : decode cX9_add 14 = .ok (.getfield 15, 3) := by decide +kernel
theorem dX9_add_17 : decode cX9_add 17 = .ok (.iload_n 1, 1) := by decide +kernel
theorem dX9_add_18 : decode cX9_add 18 = .ok (.iastore, 1) := by decide +kernel
theorem dX9_add_19 : decode cX9_add 19 = .ok (.aload_n 0, 1) := by decide +kernel
theorem dX9_add_20 : decode cX9_add 20 = .ok (.dup, 1) := by decide +kernel
theorem dX9_add_21 : decode cX9_add 21 = .ok (.getfield 15, 3) := by decide +kernel
theorem dX9_add_24 : decode cX9_add 24 = .ok (.iconst 1, 1) := by decide +kernel
theorem dX9_add_25 : decode cX9_add 25 = .ok (.iadd, 1) := by decide +kernel
theorem dX9_add_26 : decode cX9_add 26 = .ok (.putfield 15, 3) := by decide +kernel
theorem dX9_add_29 : decode cX9_add 29 = .ok (.return_, 1) := by decide +kernel
abbrev z_X9_add : List Cond := .code yX9_add cX9_add 2 none :: zW
abbrev wl_X9_add (ad : Nat → Nat) (cs : Nat → ClassId)  (tape_size : Int32) (tape_bytes : Nat → Int32) : va_W := [((ad 23), .inr (9, [.ref (ad 24), .int tape_size])), ((ad 24), .inl (cs 0, 120, .inl tape_bytes))]
def Q_X9_add (D : va_G) (cs : Nat → ClassId) (ad : Nat → Nat)   (A : Nat → Prop) (R : Int32 × (Nat → Int32)) : Array Value → State → Outcome → State → Prop :=
  va_Qv (fun u : Int32 × (Nat → Int32) => u = R) (fun (u : Int32 × (Nat → Int32)) (t : State) => va_P D classes (wl_X9_add ad cs u.1 u.2) t.heap ∧ va_D A (wl_X9_add ad cs u.1 u.2)) A
abbrev rm_X9_add : Room := { frames := 0, cells := 0, slots := 0, locals := 0 }
def B_X9_add_0     (x1 : Int32) (tape_size : Int32) (tape_bytes : Nat → Int32) : Option (Int32 × (Nat → Int32)) :=
  (if (120 : Int32) ≤ tape_size then (some (tape_size, tape_bytes)) else (if (tape_size < 0 ∨ 120 ≤ tape_size.toNatClampNeg) then none else (zk_let (upd tape_bytes tape_size.toNatClampNeg x1) (fun f_3 => (zk_let (tape_size + (1 : Int32)) (fun v_4 => (some (v_4, f_3))))))))
def f_X9_add   (x1 : Int32) (tape_size : Int32) (tape_bytes : Nat → Int32) : Option (Int32 × (Nat → Int32)) := B_X9_add_0    x1 tape_size tape_bytes
set_option maxHeartbeats 4000000 in
set_option maxRecDepth 100000 in
theorem L_X9_add_0 {p : Program} {l : Launch} {e : Env} {s : State} {m : MethodId} {args : Array Value} {below : List Frame} {meth : Method} {c : Code} {A : Nat → Prop} {D : va_G} {cs : Nat → ClassId} {ad : Nat → Nat} {R : Int32 × (Nat → Int32)} (C0 : zC p s m args meth c cX9_add 2 none RX9 zW) (hK : va_K D classes (zT cs) s) (hA : ∀ q : Nat, s.heap.size ≤ q → A q) (x1 : Int32) (tape_size : Int32) (tape_bytes : Nat → Int32) (h : B_X9_add_0 x1 tape_size tape_bytes = some R) (H : Heap) (locs : List Loc) (ls : Array Slot) (hP : va_P D classes (wl_X9_add ad cs tape_size tape_bytes) H) (hD : va_D A (wl_X9_add ad cs tape_size tape_bytes)) (hS : va_S A s.heap H locs) (hl : lv_has ls 2 [(0, .ref (ad 23)), (1, .int x1)]) : W p l e rm_X9_add s m args below meth c H locs 0 0 (MQ below (Q_X9_add D cs ad  A R) args s 0 0 A) (F0 m 0 ls []) := by
  obtain ⟨hx, hb, hr, hml, hown, ht, hlocks⟩ := id C0
  refine lv_aload_n hx hb dX9_add_0 rfl (lv_at hl 0 rfl) ?_
  refine va_get (D := D) (ci := 9) (v := .int tape_size) (C := RX9) (T := TX9) (N := 2) hx hb ht iX9 hown hK hP 0 rfl rfl 1 (by decide) (ht _ kw_237) (fun _ h9 => h9) rfl dX9_add_1 ?_
  refine lv_bipush (v := (120 : Int32)) hx hb dX9_add_4 (by decide) ?_
  refine lv_icmp_ge (tgt := 29) hx hb dX9_add_6 (by decide) (fun c_1 => ?_) (fun c_1 => ?_)
  · have h := zk_t c_1 h
    exact W.vret hx hb hr (fun t ht2 hW => ⟨⟨(tape_size, tape_bytes), rfl, Option.some.inj h, by rw [ht2]; exact hP, hD⟩, hS.F ht2⟩) hS.2.2 dX9_add_29 hlocks
  · have h := zk_f c_1 h
    refine lv_aload_n hx hb dX9_add_9 rfl (lv_at hl 0 rfl) ?_
    refine va_get (D := D) (ci := 9) (v := .ref (ad 24)) (C := RX9) (T := TX9) (N := 2) hx hb ht iX9 hown hK hP 0 rfl rfl 0 (by decide) (ht _ kw_235) (fun _ h9 => h9) rfl dX9_add_10 ?_
    refine lv_aload_n hx hb dX9_add_13 rfl (lv_at hl 0 rfl) ?_
    refine va_get (D := D) (ci := 9) (v := .int tape_size) (C := RX9) (T := TX9) (N := 2) hx hb ht iX9 hown hK hP 0 rfl rfl 1 (by decide) (ht _ kw_237) (fun _ h9 => h9) rfl dX9_add_14 ?_
    refine lv_iload_n hx hb dX9_add_17 rfl (lv_at hl 1 rfl) ?_
    obtain ⟨g_2, h⟩ := zk_gd h
    obtain ⟨f_3, ef_3, h⟩ := zk_lt h
    refine va_iast hx hb hK hP hD hS 1 0 rfl rfl g_2 dX9_add_18 (fun H locs hP hD hS => ?_)
    have hP : va_P D classes (wl_X9_add ad cs tape_size f_3) H := by rw [ef_3]; exact hP
    have hD : va_D A (wl_X9_add ad cs tape_size f_3) := by rw [ef_3]; exact hD
    refine lv_aload_n hx hb dX9_add_19 rfl (lv_at hl 0 rfl) ?_
    refine lv_dup hx hb dX9_add_20 rfl ?_
    refine va_get (D := D) (ci := 9) (v := .int tape_size) (C := RX9) (T := TX9) (N := 2) hx hb ht iX9 hown hK hP 0 rfl rfl 1 (by decide) (ht _ kw_237) (fun _ h9 => h9) rfl dX9_add_21 ?_
    refine lv_iconst (v := (1 : Int32)) hx hb dX9_add_24 (by decide) ?_
    refine lv_iadd hx hb dX9_add_25 ?_
    obtain ⟨v_4, ev_4, h⟩ := zk_lt h
    refine W.eq (g2 := F0 m 26 ls [.int v_4, .ref (ad 23)]) (by rw [ev_4]) ?_
    refine va_put (D := D) (ci := 9) (v := .int v_4) (ty := .int) (C := RX9) (T := TX9) (N := 2) hx hb ht iX9 tyX9 tyX9_ok nmX9 hown hK hP hD hS 0 rfl rfl 1 (by decide) (ht _ kw_237) (fun _ h9 => h9) rfl (by decide +kernel) rfl rfl (Nat.le_of_ble_eq_true rfl) dX9_add_26 (fun H locs hP hD hS => ?_)
    have hP : va_P D classes (wl_X9_add ad cs v_4 f_3) H := hP
    have hD : va_D A (wl_X9_add ad cs v_4 f_3) := hD
    exact W.vret hx hb hr (fun t ht2 hW => ⟨⟨(v_4, f_3), rfl, Option.some.inj h, by rw [ht2]; exact hP, hD⟩, hS.F ht2⟩) hS.2.2 dX9_add_29 hlocks
set_option maxHeartbeats 4000000 in
set_option maxRecDepth 100000 in
theorem c_X9_add (l : Launch) (D : va_G) (cs : Nat → ClassId) (ad : Nat → Nat) (sz : Nat) (x1 : Int32) (tape_size : Int32) (tape_bytes : Nat → Int32) (R : Int32 × (Nat → Int32)) (h : f_X9_add   x1 tape_size tape_bytes = some R) : Met l yX9_add (z_X9_add) rm_X9_add (va_Pc [.ref (ad 23), .int x1] (zPre D cs (wl_X9_add ad cs tape_size tape_bytes) sz)) (Q_X9_add D cs ad  (va_A (wl_X9_add ad cs tape_size tape_bytes) sz) R) 0 0 (va_A (wl_X9_add ad cs tape_size tape_bytes) sz) := by
  refine Met.ofW (cc := cX9_add) (maxL := 2) (ret := none) (by decide) rfl ?_
  intro p e s m args below meth c s₁ B hml hv
  obtain ⟨rfl, hsz, hP, hK, hD0⟩ := hv
  subst hsz
  have hD := hD0.self (sz := s.heap.size)
  have C0 : zC p s m _ meth c cX9_add 2 none RX9 zW := ⟨B.exec, B.bytes, B.returns, hml, findClass_of_methodNamed B.named, fun w hw => atoms_spec (ws := z_X9_add) B.pre w (List.mem_cons_of_mem _ hw), B.notSynchronized⟩
  have hA : ∀ q : Nat, s.heap.size ≤ q → va_A (wl_X9_add ad cs tape_size tape_bytes) s.heap.size q := fun q h => Or.inr h
  have hl := lv_entry ([.ref (ad 23), .int x1]) (n := 2) (Nat.le_of_ble_eq_true rfl)
  rw [lg_entry_eq]
  generalize (lg_sl ([.ref (ad 23), .int x1]) ++ List.replicate (2 - (lg_sl ([.ref (ad 23), .int x1])).length) Slot.unset).toArray = ls at hl ⊢
  exact L_X9_add_0 C0 hK hA   x1 tape_size tape_bytes h s.heap [] ls hP hD va_S.rf hl
theorem dX9_byteAt_0 : decode cX9_byteAt 0 = .ok (.iload_n 1, 1) := by decide +kernel
theorem dX9_byteAt_1 : decode cX9_byteAt 1 = .ok (.ifCond .lt 26, 3) := by decide +kernel
theorem dX9_byteAt_4 : decode cX9_byteAt 4 = .ok (.iload_n 1, 1) := by decide +kernel
theorem dX9_byteAt_5 : decode cX9_byteAt 5 = .ok (.aload_n 0, 1) := by decide +kernel
theorem dX9_byteAt_6 : decode cX9_byteAt 6 = .ok (.getfield 15, 3) := by decide +kernel
theorem dX9_byteAt_9 : decode cX9_byteAt 9 = .ok (.if_icmp .ge 18, 3) := by decide +kernel
theorem dX9_byteAt_12 : decode cX9_byteAt 12 = .ok (.iload_n 1, 1) := by decide +kernel
theorem dX9_byteAt_13 : decode cX9_byteAt 13 = .ok (.bipush 120, 2) := by decide +kernel
theorem dX9_byteAt_15 : decode cX9_byteAt 15 = .ok (.if_icmp .ge 12, 3) := by decide +kernel
theorem dX9_byteAt_18 : decode cX9_byteAt 18 = .ok (.aload_n 0, 1) := by decide +kernel
theorem dX9_byteAt_19 : decode cX9_byteAt 19 = .ok (.getfield 9, 3) := by decide +kernel
theorem dX9_byteAt_22 : decode cX9_byteAt 22 = .ok (.iload_n 1, 1) := by decide +kernel
theorem dX9_byteAt_23 : decode cX9_byteAt 23 = .ok (.iaload, 1) := by decide +kernel
theorem dX9_byteAt_24 : decode cX9_byteAt 24 = .ok (.goto 4, 3) := by decide +kernel
theorem dX9_byteAt_27 : decode cX9_byteAt 27 = .ok (.iconst (-1), 1) := by decide +kernel
theorem dX9_byteAt_28 : decode cX9_byteAt 28 = .ok (.ireturn, 1) := by decide +kernel
abbrev z_X9_byteAt : List Cond := .code yX9_byteAt cX9_byteAt 2 (some .int) :: zW
abbrev wl_X9_byteAt (ad : Nat → Nat) (cs : Nat → ClassId)  (tape_size : Int32) (tape_bytes : Nat → Int32) : va_W := [((ad 23), .inr (9, [.ref (ad 24), .int tape_size])), ((ad 24), .inl (cs 0, 120, .inl tape_bytes))]
def Q_X9_byteAt (D : va_G) (cs : Nat → ClassId) (ad : Nat → Nat)  (tape_size : Int32) (tape_bytes : Nat → Int32) (A : Nat → Prop) (R : Int32 × Unit) : Array Value → State → Outcome → State → Prop :=
  va_Qi (fun (r : Int32) (u : Unit) => (r, u) = R) (fun (u : Unit) (t : State) => va_P D classes (wl_X9_byteAt ad cs tape_size tape_bytes) t.heap ∧ va_D A (wl_X9_byteAt ad cs tape_size tape_bytes)) A
abbrev rm_X9_byteAt : Room := { frames := 0, cells := 0, slots := 0, locals := 0 }
def B_X9_byteAt_0    (tape_size : Int32) (tape_bytes : Nat → Int32) (x1 : Int32) : Option (Int32 × Unit) :=
  (if x1 < 0 then (some ((-1 : Int32), ())) else (if tape_size ≤ x1 then (some ((-1 : Int32), ())) else (if (120 : Int32) ≤ x1 then (some ((-1 : Int32), ())) else (if (x1 < 0 ∨ 120 ≤ x1.toNatClampNeg) then none else (some (tape_bytes x1.toNatClampNeg, ()))))))
def f_X9_byteAt   (x1 : Int32) (tape_size : Int32) (tape_bytes : Nat → Int32) : Option (Int32 × Unit) := B_X9_byteAt_0   tape_size tape_bytes x1 
set_option maxHeartbeats 4000000 in
set_option maxRecDepth 100000 in
theorem L_X9_byteAt_0 {p : Program} {l : Launch} {e : Env} {s : State} {m : MethodId} {args : Array Value} {below : List Frame} {meth : Method} {c : Code} {A : Nat → Prop} {D : va_G} {cs : Nat → ClassId} {ad : Nat → Nat} {tape_size : Int32} {tape_bytes : Nat → Int32} {R : Int32 × Unit} (C0 : zC p s m args meth c cX9_byteAt 2 (some .int) RX9 zW) (hK : va_K D classes (zT cs) s) (hA : ∀ q : Nat, s.heap.size ≤ q → A q) (x1 : Int32) (h : B_X9_byteAt_0 tape_size tape_bytes x1 = some R) (H : Heap) (locs : List Loc) (ls : Array Slot) (hP : va_P D classes (wl_X9_byteAt ad cs tape_size tape_bytes) H) (hD : va_D A (wl_X9_byteAt ad cs tape_size tape_bytes)) (hS : va_S A s.heap H locs) (hl : lv_has ls 2 [(0, .ref (ad 23)), (1, .int x1)]) : W p l e rm_X9_byteAt s m args below meth c H locs 0 0 (MQ below (Q_X9_byteAt D cs ad tape_size tape_bytes A R) args s 0 0 A) (F0 m 0 ls []) := by
  obtain ⟨hx, hb, hr, hml, hown, ht, hlocks⟩ := id C0
  refine lv_iload_n hx hb dX9_byteAt_0 rfl (lv_at hl 1 rfl) ?_
  refine lv_if_lt (tgt := 27) hx hb dX9_byteAt_1 (by decide) (fun c_1 => ?_) (fun c_1 => ?_)
  · have h := zk_t c_1 h
    refine lv_iconst (v := (-1 : Int32)) hx hb dX9_byteAt_27 (by decide) ?_
    exact W.iret (v := (-1 : Int32)) hx hb hr (fun t ht2 hW => ⟨⟨(-1 : Int32), (), rfl, Option.some.inj h, by rw [ht2]; exact hP, hD⟩, hS.F ht2⟩) hS.2.2 dX9_byteAt_28 hlocks
  · have h := zk_f c_1 h
    refine lv_iload_n hx hb dX9_byteAt_4 rfl (lv_at hl 1 rfl) ?_
    refine lv_aload_n hx hb dX9_byteAt_5 rfl (lv_at hl 0 rfl) ?_
    refine va_get (D := D) (ci := 9) (v := .int tape_size) (C := RX9) (T := TX9) (N := 2) hx hb ht iX9 hown hK hP 0 rfl rfl 1 (by decide) (ht _ kw_237) (fun _ h9 => h9) rfl dX9_byteAt_6 ?_
    refine lv_icmp_ge (tgt := 27) hx hb dX9_byteAt_9 (by decide) (fun c_2 => ?_) (fun c_2 => ?_)
    · have h := zk_t c_2 h
      refine lv_iconst (v := (-1 : Int32)) hx hb dX9_byteAt_27 (by decide) ?_
      exact W.iret (v := (-1 : Int32)) hx hb hr (fun t ht2 hW => ⟨⟨(-1 : Int32), (), rfl, Option.some.inj h, by rw [ht2]; exact hP, hD⟩, hS.F ht2⟩) hS.2.2 dX9_byteAt_28 hlocks
    · have h := zk_f c_2 h
      refine lv_iload_n hx hb dX9_byteAt_12 rfl (lv_at hl 1 rfl) ?_
      refine lv_bipush (v := (120 : Int32)) hx hb dX9_byteAt_13 (by decide) ?_
      refine lv_icmp_ge (tgt := 27) hx hb dX9_byteAt_15 (by decide) (fun c_3 => ?_) (fun c_3 => ?_)
      · have h := zk_t c_3 h
        refine lv_iconst (v := (-1 : Int32)) hx hb dX9_byteAt_27 (by decide) ?_
        exact W.iret (v := (-1 : Int32)) hx hb hr (fun t ht2 hW => ⟨⟨(-1 : Int32), (), rfl, Option.some.inj h, by rw [ht2]; exact hP, hD⟩, hS.F ht2⟩) hS.2.2 dX9_byteAt_28 hlocks
      · have h := zk_f c_3 h
        refine lv_aload_n hx hb dX9_byteAt_18 rfl (lv_at hl 0 rfl) ?_
        refine va_get (D := D) (ci := 9) (v := .ref (ad 24)) (C := RX9) (T := TX9) (N := 2) hx hb ht iX9 hown hK hP 0 rfl rfl 0 (by decide) (ht _ kw_235) (fun _ h9 => h9) rfl dX9_byteAt_19 ?_
        refine lv_iload_n hx hb dX9_byteAt_22 rfl (lv_at hl 1 rfl) ?_
        obtain ⟨g_4, h⟩ := zk_gd h
        refine va_iald hx hb hK hP 1 0 rfl rfl g_4 dX9_byteAt_23 ?_
        refine lv_goto (tgt := 28) hx hb dX9_byteAt_24 (by decide) ?_
        exact W.iret (v := tape_bytes x1.toNatClampNeg) hx hb hr (fun t ht2 hW => ⟨⟨tape_bytes x1.toNatClampNeg, (), rfl, Option.some.inj h, by rw [ht2]; exact hP, hD⟩, hS.F ht2⟩) hS.2.2 dX9_byteAt_28 hlocks
set_option maxHeartbeats 4000000 in
set_option maxRecDepth 100000 in
theorem c_X9_byteAt (l : Launch) (D : va_G) (cs : Nat → ClassId) (ad : Nat → Nat) (sz : Nat) (x1 : Int32) (tape_size : Int32) (tape_bytes : Nat → Int32) (R : Int32 × Unit) (h : f_X9_byteAt   x1 tape_size tape_bytes = some R) : Met l yX9_byteAt (z_X9_byteAt) rm_X9_byteAt (va_Pc [.ref (ad 23), .int x1] (zPre D cs (wl_X9_byteAt ad cs tape_size tape_bytes) sz)) (Q_X9_byteAt D cs ad tape_size tape_bytes (va_A (wl_X9_byteAt ad cs tape_size tape_bytes) sz) R) 0 0 (va_A (wl_X9_byteAt ad cs tape_size tape_bytes) sz) := by
  refine Met.ofW (cc := cX9_byteAt) (maxL := 2) (ret := (some .int)) (by decide) rfl ?_
  intro p e s m args below meth c s₁ B hml hv
  obtain ⟨rfl, hsz, hP, hK, hD0⟩ := hv
  subst hsz
  have hD := hD0.self (sz := s.heap.size)
  have C0 : zC p s m _ meth c cX9_byteAt 2 (some .int) RX9 zW := ⟨B.exec, B.bytes, B.returns, hml, findClass_of_methodNamed B.named, fun w hw => atoms_spec (ws := z_X9_byteAt) B.pre w (List.mem_cons_of_mem _ hw), B.notSynchronized⟩
  have hA : ∀ q : Nat, s.heap.size ≤ q → va_A (wl_X9_byteAt ad cs tape_size tape_bytes) s.heap.size q := fun q h => Or.inr h
  have hl := lv_entry ([.ref (ad 23), .int x1]) (n := 2) (Nat.le_of_ble_eq_true rfl)
  rw [lg_entry_eq]
  generalize (lg_sl ([.ref (ad 23), .int x1]) ++ List.replicate (2 - (lg_sl ([.ref (ad 23), .int x1])).length) Slot.unset).toArray = ls at hl ⊢
  exact L_X9_byteAt_0 C0 hK hA   x1  h s.heap [] ls hP hD va_S.rf hl
theorem kw_78 : Cond.initialized RX9 ∈ zW := zwI (i := 78) (by decide +kernel) (by decide +kernel)
theorem kw_554 : Cond.instanceMethod yX9_byteAt ∈ zW := zwI (i := 554) (by decide +kernel) (by decide +kernel)
theorem kw_555 : Cond.selects RX9 yX9_byteAt yX9_byteAt ∈ zW := zwI (i := 555) (by decide +kernel) (by decide +kernel)
theorem kw_556 : Cond.code yX9_byteAt cX9_byteAt 2 (some .int) ∈ zW := zwI (i := 556) (by decide +kernel) (by decide +kernel)
theorem kw_561 : Cond.methodLink RX9 33 yX9_byteAt ∈ zW := zwI (i := 561) (by decide +kernel) (by decide +kernel)
theorem dX9_isDigitAt_0 : decode cX9_isDigitAt 0 = .ok (.aload_n 0, 1) := by decide +kernel
theorem dX9_isDigitAt_1 : decode cX9_isDigitAt 1 = .ok (.iload_n 1, 1) := by decide +kernel
theorem dX9_isDigitAt_2 : decode cX9_isDigitAt 2 = .ok (.invokevirtual 33, 3) := by decide +kernel
theorem dX9_isDigitAt_5 : decode cX9_isDigitAt 5 = .ok (.istore_n 2, 1) := by decide +kernel
theorem dX9_isDigitAt_6 : decode cX9_isDigitAt 6 = .ok (.iload_n 2, 1) := by decide +kernel
theorem dX9_isDigitAt_7 : decode cX9_isDigitAt 7 = .ok (.bipush 48, 2) := by decide +kernel
theorem dX9_isDigitAt_9 : decode cX9_isDigitAt 9 = .ok (.if_icmp .lt 13, 3) := by decide +kernel
theorem dX9_isDigitAt_12 : decode cX9_isDigitAt 12 = .ok (.iload_n 2, 1) := by decide +kernel
theorem dX9_isDigitAt_13 : decode cX9_isDigitAt 13 = .ok (.bipush 57, 2) := by decide +kernel
theorem dX9_isDigitAt_15 : decode cX9_isDigitAt 15 = .ok (.if_icmp .gt 7, 3) := by decide +kernel
theorem dX9_isDigitAt_18 : decode cX9_isDigitAt 18 = .ok (.iconst 1, 1) := by decide +kernel
theorem dX9_isDigitAt_19 : decode cX9_isDigitAt 19 = .ok (.goto 4, 3) := by decide +kernel
theorem dX9_isDigitAt_22 : decode cX9_isDigitAt 22 = .ok (.iconst 0, 1) := by decide +kernel
theorem dX9_isDigitAt_23 : decode cX9_isDigitAt 23 = .ok (.ireturn, 1) := by decide +kernel
abbrev z_X9_isDigitAt : List Cond := .code yX9_isDigitAt cX9_isDigitAt 3 (some .boolean) :: zW
abbrev wl_X9_isDigitAt (ad : Nat → Nat) (cs : Nat → ClassId)  (tape_size : Int32) (tape_bytes : Nat → Int32) : va_W := [((ad 23), .inr (9, [.ref (ad 24), .int tape_size])), ((ad 24), .inl (cs 0, 120, .inl tape_bytes))]
def Q_X9_isDigitAt (D : va_G) (cs : Nat → ClassId) (ad : Nat → Nat)  (tape_size : Int32) (tape_bytes : Nat → Int32) (A : Nat → Prop) (R : Int32 × Unit) : Array Value → State → Outcome → State → Prop :=
  va_Qi (fun (r : Int32) (u : Unit) => (r, u) = R) (fun (u : Unit) (t : State) => va_P D classes (wl_X9_isDigitAt ad cs tape_size tape_bytes) t.heap ∧ va_D A (wl_X9_isDigitAt ad cs tape_size tape_bytes)) A
abbrev rm_X9_isDigitAt : Room := { frames := 1, cells := 0, slots := 0, locals := 21 }
theorem g_X9_33 : GoodIn zW (wsV RX9 33 RX9 yX9_byteAt z_X9_byteAt) := zGV kw_561 kw_554 kw_555 kw_78 kw_556
def B_X9_isDigitAt_0    (tape_size : Int32) (tape_bytes : Nat → Int32) (x1 : Int32) : Option (Int32 × Unit) :=
  (zk_b2 (f_X9_byteAt x1 tape_size tape_bytes) (fun r_1 u_2 => (if r_1 < (48 : Int32) then (some ((0 : Int32), ())) else (if (57 : Int32) < r_1 then (some ((0 : Int32), ())) else (some ((1 : Int32), ()))))))
def f_X9_isDigitAt   (x1 : Int32) (tape_size : Int32) (tape_bytes : Nat → Int32) : Option (Int32 × Unit) := B_X9_isDigitAt_0   tape_size tape_bytes x1 
set_option maxHeartbeats 4000000 in
set_option maxRecDepth 100000 in
theorem L_X9_isDigitAt_0 {p : Program} {l : Launch} {e : Env} {s : State} {m : MethodId} {args : Array Value} {below : List Frame} {meth : Method} {c : Code} {A : Nat → Prop} {D : va_G} {cs : Nat → ClassId} {ad : Nat → Nat} {tape_size : Int32} {tape_bytes : Nat → Int32} {R : Int32 × Unit} (C0 : zC p s m args meth c cX9_isDigitAt 3 (some .boolean) RX9 zW) (hK : va_K D classes (zT cs) s) (hA : ∀ q : Nat, s.heap.size ≤ q → A q) (x1 : Int32) (h : B_X9_isDigitAt_0 tape_size tape_bytes x1 = some R) (H : Heap) (locs : List Loc) (ls : Array Slot) (hP : va_P D classes (wl_X9_isDigitAt ad cs tape_size tape_bytes) H) (hD : va_D A (wl_X9_isDigitAt ad cs tape_size tape_bytes)) (hS : va_S A s.heap H locs) (hl : lv_has ls 3 [(0, .ref (ad 23)), (1, .int x1)]) : W p l e rm_X9_isDigitAt s m args below meth c H locs 0 0 (MQ below (Q_X9_isDigitAt D cs ad tape_size tape_bytes A R) args s 0 0 A) (F0 m 0 ls []) := by
  obtain ⟨hx, hb, hr, hml, hown, ht, hlocks⟩ := id C0
  refine lv_aload_n hx hb dX9_isDigitAt_0 rfl (lv_at hl 0 rfl) ?_
  refine lv_iload_n hx hb dX9_isDigitAt_1 rfl (lv_at hl 1 rfl) ?_
  obtain ⟨r_1, u_2, hc_3, h⟩ := zk_o2 h
  refine zk_vi (post := (fun r u => (r, u) = (r_1, u_2))) (w1 := fun u => (wl_X9_byteAt ad cs tape_size tape_bytes)) (As := [.int x1]) (rest := []) (c_X9_byteAt l D cs ad  H.size x1 tape_size tape_bytes _ hc_3) ⟨hx, hb, hml, hown, ht⟩ (cwV 1 ht g_X9_33 rfl rfl rfl (by decide +kernel) ⟨Nat.le_of_ble_eq_true rfl, Nat.le_of_ble_eq_true rfl⟩) (va_recv hK hP (ci := 9) (q0 := 0) rfl rfl) hP hD hS hK hA [0, 1] [] rfl rfl rfl rfl (by decide) rfl hl.1 (Nat.le_of_ble_eq_true rfl) dX9_isDigitAt_2 ⟨Nat.zero_le _, Nat.zero_le _⟩ (fun r u H locs hq hP hD hS => ?_)
  cases hq
  have hP : va_P D classes (wl_X9_isDigitAt ad cs tape_size tape_bytes) H := hP.sub [0, 1] rfl
  have hD : va_D A (wl_X9_isDigitAt ad cs tape_size tape_bytes) := hD.sub [0, 1] rfl rfl
  refine lv_istore_n (lv' := [(2, .int r_1), (0, .ref (ad 23)), (1, .int x1)]) hx hb dX9_isDigitAt_5 rfl hl (by decide) rfl (fun ls hl => ?_)
  refine lv_iload_n hx hb dX9_isDigitAt_6 rfl (lv_at hl 0 rfl) ?_
  refine lv_bipush (v := (48 : Int32)) hx hb dX9_isDigitAt_7 (by decide) ?_
  refine lv_icmp_lt (tgt := 22) hx hb dX9_isDigitAt_9 (by decide) (fun c_4 => ?_) (fun c_4 => ?_)
  · have h := zk_t c_4 h
    refine lv_iconst (v := (0 : Int32)) hx hb dX9_isDigitAt_22 (by decide) ?_
    exact W.zret (ty := .boolean) (v := (0 : Int32)) hx hb hr rfl (fun t ht2 hW => ⟨⟨(0 : Int32), (), rfl, Option.some.inj h, by rw [ht2]; exact hP, hD⟩, hS.F ht2⟩) hS.2.2 dX9_isDigitAt_23 hlocks
  · have h := zk_f c_4 h
    refine lv_iload_n hx hb dX9_isDigitAt_12 rfl (lv_at hl 0 rfl) ?_
    refine lv_bipush (v := (57 : Int32)) hx hb dX9_isDigitAt_13 (by decide) ?_
    refine lv_icmp_gt (tgt := 22) hx hb dX9_isDigitAt_15 (by decide) (fun c_5 => ?_) (fun c_5 => ?_)
    · have h := zk_t c_5 h
      refine lv_iconst (v := (0 : Int32)) hx hb dX9_isDigitAt_22 (by decide) ?_
      exact W.zret (ty := .boolean) (v := (0 : Int32)) hx hb hr rfl (fun t ht2 hW => ⟨⟨(0 : Int32), (), rfl, Option.some.inj h, by rw [ht2]; exact hP, hD⟩, hS.F ht2⟩) hS.2.2 dX9_isDigitAt_23 hlocks
    · have h := zk_f c_5 h
      refine lv_iconst (v := (1 : Int32)) hx hb dX9_isDigitAt_18 (by decide) ?_
      refine lv_goto (tgt := 23) hx hb dX9_isDigitAt_19 (by decide) ?_
      exact W.zret (ty := .boolean) (v := (1 : Int32)) hx hb hr rfl (fun t ht2 hW => ⟨⟨(1 : Int32), (), rfl, Option.some.inj h, by rw [ht2]; exact hP, hD⟩, hS.F ht2⟩) hS.2.2 dX9_isDigitAt_23 hlocks
set_option maxHeartbeats 4000000 in
set_option maxRecDepth 100000 in
theorem c_X9_isDigitAt (l : Launch) (D : va_G) (cs : Nat → ClassId) (ad : Nat → Nat) (sz : Nat) (x1 : Int32) (tape_size : Int32) (tape_bytes : Nat → Int32) (R : Int32 × Unit) (h : f_X9_isDigitAt   x1 tape_size tape_bytes = some R) : Met l yX9_isDigitAt (z_X9_isDigitAt) rm_X9_isDigitAt (va_Pc [.ref (ad 23), .int x1] (zPre D cs (wl_X9_isDigitAt ad cs tape_size tape_bytes) sz)) (Q_X9_isDigitAt D cs ad tape_size tape_bytes (va_A (wl_X9_isDigitAt ad cs tape_size tape_bytes) sz) R) 0 0 (va_A (wl_X9_isDigitAt ad cs tape_size tape_bytes) sz) := by
  refine Met.ofW (cc := cX9_isDigitAt) (maxL := 3) (ret := (some .boolean)) (by decide) rfl ?_
  intro p e s m args below meth c s₁ B hml hv
  obtain ⟨rfl, hsz, hP, hK, hD0⟩ := hv
  subst hsz
  have hD := hD0.self (sz := s.heap.size)
  have C0 : zC p s m _ meth c cX9_isDigitAt 3 (some .boolean) RX9 zW := ⟨B.exec, B.bytes, B.returns, hml, findClass_of_methodNamed B.named, fun w hw => atoms_spec (ws := z_X9_isDigitAt) B.pre w (List.mem_cons_of_mem _ hw), B.notSynchronized⟩
  have hA : ∀ q : Nat, s.heap.size ≤ q → va_A (wl_X9_isDigitAt ad cs tape_size tape_bytes) s.heap.size q := fun q h => Or.inr h
  have hl := lv_entry ([.ref (ad 23), .int x1]) (n := 3) (Nat.le_of_ble_eq_true rfl)
  rw [lg_entry_eq]
  generalize (lg_sl ([.ref (ad 23), .int x1]) ++ List.replicate (3 - (lg_sl ([.ref (ad 23), .int x1])).length) Slot.unset).toArray = ls at hl ⊢
  exact L_X9_isDigitAt_0 C0 hK hA   x1  h s.heap [] ls hP hD va_S.rf hl
theorem kw_75 : Cond.initialized RX11 ∈ zW := zwI (i := 75) (by decide +kernel) (by decide +kernel)
theorem kw_738 : Cond.static yX11_isDay ∈ zW := zwI (i := 738) (by decide +kernel) (by decide +kernel)
theorem kw_739 : Cond.code yX11_isDay cX11_isDay 1 (some .boolean) ∈ zW := zwI (i := 739) (by decide +kernel) (by decide +kernel)
theorem dX2_isShoe_0 : decode cX2_isShoe 0 = .ok (.iload_n 0, 1) := by decide +kernel
theorem dX2_isShoe_1 : decode cX2_isShoe 1 = .ok (.ifCond .lt 45, 3) := by decide +kernel
theorem dX2_isShoe_4 : decode cX2_isShoe 4 = .ok (.iload_n 0, 1) := by decide +kernel
theorem dX2_isShoe_5 : decode cX2_isShoe 5 = .ok (.bipush 20, 2) := by decide +kernel
theorem dX2_isShoe_7 : decode cX2_isShoe 7 = .ok (.if_icmp .ge 39, 3) := by decide +kernel
theorem dX2_isShoe_10 : decode cX2_isShoe 10 = .ok (.iload_n 1, 1) := by decide +kernel
theorem dX2_isShoe_11 : decode cX2_isShoe 11 = .ok (.ifCond .lt 35, 3) := by decide +kernel
theorem dX2_isShoe_14 : decode cX2_isShoe 14 = .ok (.iload_n 1, 1) := by decide +kernel
theorem dX2_isShoe_15 : decode cX2_isShoe 15 = .ok (.bipush 20, 2) := by decide +kernel
theorem dX2_isShoe_17 : decode cX2_isShoe 17 = .ok (.if_icmp .ge 29, 3) := by decide +kernel
theorem dX2_isShoe_20 : decode cX2_isShoe 20 = .ok (.iload_n 0, 1) := by decide +kernel
theorem dX2_isShoe_21 : decode cX2_isShoe 21 = .ok (.iload_n 1, 1) := by decide +kernel
theorem dX2_isShoe_22 : decode cX2_isShoe 22 = .ok (.if_icmp .eq 24, 3) := by decide +kernel
theorem dX2_isShoe_25 : decode cX2_isShoe 25 = .ok (.iload_n 2, 1) := by decide +kernel
theorem dX2_isShoe_26 : decode cX2_isShoe 26 = .ok (.iconst 1, 1) := by decide +kernel
theorem dX2_isShoe_27 : decode cX2_isShoe 27 = .ok (.if_icmp .lt 19, 3) := by decide +kernel
theorem dX2_isShoe_30 : decode cX2_isShoe 30 = .ok (.iload_n 2, 1) := by decide +kernel
theorem dX2_isShoe_31 : decode cX2_isShoe 31 = .ok (.iconst 5, 1) := by decide +kernel
theorem dX2_isShoe_32 : decode cX2_isShoe 32 = .ok (.if_icmp .gt 14, 3) := by decide +kernel
theorem dX2_isShoe_35 : decode cX2_isShoe 35 = .ok (.iload_n 3, 1) := by decide +kernel
theorem dX2_isShoe_36 : decode cX2_isShoe 36 = .ok (.invokestatic 48, 3) := by decide +kernel
theorem dX2_isShoe_39 : decode cX2_isShoe 39 = .ok (.ifCond .eq 7, 3) := by decide +kernel
theorem dX2_isShoe_42 : decode cX2_isShoe 42 = .ok (.iconst 1, 1) := by decide +kernel
theorem dX2_isShoe_43 : decode cX2_isShoe 43 = .ok (.goto 4, 3) := by decide +kernel
theorem dX2_isShoe_46 : decode cX2_isShoe 46 = .ok (.iconst 0, 1) := by decide +kernel
theorem dX2_isShoe_47 : decode cX2_isShoe 47 = .ok (.ireturn, 1) := by decide +kernel
abbrev z_X2_isShoe : List Cond := .code yX2_isShoe cX2_isShoe 4 (some .boolean) :: zW
abbrev wl_X2_isShoe (ad : Nat → Nat) (cs : Nat → ClassId)   : va_W := []
def Q_X2_isShoe (D : va_G) (cs : Nat → ClassId) (ad : Nat → Nat)   (A : Nat → Prop) (R : Int32 × Unit) : Array Value → State → Outcome → State → Prop :=
  va_Qi (fun (r : Int32) (u : Unit) => (r, u) = R) (fun (u : Unit) (t : State) => va_P D classes (wl_X2_isShoe ad cs ) t.heap ∧ va_D A (wl_X2_isShoe ad cs )) A
abbrev rm_X2_isShoe : Room := { frames := 1, cells := 0, slots := 0, locals := 20 }
theorem g_X2_48 : GoodIn zW (z_X11_isDay) := zGN kw_739
def B_X2_isShoe_0     (x0 : Int32) (x1 : Int32) (x2 : Int32) (x3 : Int32) : Option (Int32 × Unit) :=
  (if x0 < 0 then (some ((0 : Int32), ())) else (if (20 : Int32) ≤ x0 then (some ((0 : Int32), ())) else (if x1 < 0 then (some ((0 : Int32), ())) else (if (20 : Int32) ≤ x1 then (some ((0 : Int32), ())) else (if x0 = x1 then (some ((0 : Int32), ())) else (if x2 < (1 : Int32) then (some ((0 : Int32), ())) else (if (5 : Int32) < x2 then (some ((0 : Int32), ())) else (zk_b2 (f_X11_isDay x3) (fun r_8 u_9 => (if r_8 = 0 then (some ((0 : Int32), ())) else (some ((1 : Int32), ()))))))))))))
def f_X2_isShoe   (x0 : Int32) (x1 : Int32) (x2 : Int32) (x3 : Int32)  : Option (Int32 × Unit) := B_X2_isShoe_0    x0 x1 x2 x3 
set_option maxHeartbeats 4000000 in
set_option maxRecDepth 100000 in
theorem L_X2_isShoe_0 {p : Program} {l : Launch} {e : Env} {s : State} {m : MethodId} {args : Array Value} {below : List Frame} {meth : Method} {c : Code} {A : Nat → Prop} {D : va_G} {cs : Nat → ClassId} {ad : Nat → Nat} {R : Int32 × Unit} (C0 : zC p s m args meth c cX2_isShoe 4 (some .boolean) RX2 zW) (hK : va_K D classes (zT cs) s) (hO : zO s) (hA : ∀ q : Nat, s.heap.size ≤ q → A q) (x0 : Int32) (x1 : Int32) (x2 : Int32) (x3 : Int32) (h : B_X2_isShoe_0 x0 x1 x2 x3 = some R) (H : Heap) (locs : List Loc) (ls : Array Slot) (hP : va_P D classes (wl_X2_isShoe ad cs ) H) (hD : va_D A (wl_X2_isShoe ad cs )) (hS : va_S A s.heap H locs) (hl : lv_has ls 4 [(0, .int x0), (1, .int x1), (2, .int x2), (3, .int x3)]) : W p l e rm_X2_isShoe s m args below meth c H locs 0 0 (MQ below (Q_X2_isShoe D cs ad  A R) args s 0 0 A) (F0 m 0 ls []) := by
  obtain ⟨hx, hb, hr, hml, hown, ht, hlocks⟩ := id C0
  refine lv_iload_n hx hb dX2_isShoe_0 rfl (lv_at hl 0 rfl) ?_
  refine lv_if_lt (tgt := 46) hx hb dX2_isShoe_1 (by decide) (fun c_1 => ?_) (fun c_1 => ?_)
  · have h := zk_t c_1 h
    refine lv_iconst (v := (0 : Int32)) hx hb dX2_isShoe_46 (by decide) ?_
    exact W.zret (ty := .boolean) (v := (0 : Int32)) hx hb hr rfl (fun t ht2 hW => ⟨⟨(0 : Int32), (), rfl, Option.some.inj h, by rw [ht2]; exact hP, hD⟩, hS.F ht2⟩) hS.2.2 dX2_isShoe_47 hlocks
  · have h := zk_f c_1 h
    refine lv_iload_n hx hb dX2_isShoe_4 rfl (lv_at hl 0 rfl) ?_
    refine lv_bipush (v := (20 : Int32)) hx hb dX2_isShoe_5 (by decide) ?_
    refine lv_icmp_ge (tgt := 46) hx hb dX2_isShoe_7 (by decide) (fun c_2 => ?_) (fun c_2 => ?_)
    · have h := zk_t c_2 h
      refine lv_iconst (v := (0 : Int32)) hx hb dX2_isShoe_46 (by decide) ?_
      exact W.zret (ty := .boolean) (v := (0 : Int32)) hx hb hr rfl (fun t ht2 hW => ⟨⟨(0 : Int32), (), rfl, Option.some.inj h, by rw [ht2]; exact hP, hD⟩, hS.F ht2⟩) hS.2.2 dX2_isShoe_47 hlocks
    · have h := zk_f c_2 h
      refine lv_iload_n hx hb dX2_isShoe_10 rfl (lv_at hl 1 rfl) ?_
      refine lv_if_lt (tgt := 46) hx hb dX2_isShoe_11 (by decide) (fun c_3 => ?_) (fun c_3 => ?_)
      · have h := zk_t c_3 h
        refine lv_iconst (v := (0 : Int32)) hx hb dX2_isShoe_46 (by decide) ?_
        exact W.zret (ty := .boolean) (v := (0 : Int32)) hx hb hr rfl (fun t ht2 hW => ⟨⟨(0 : Int32), (), rfl, Option.some.inj h, by rw [ht2]; exact hP, hD⟩, hS.F ht2⟩) hS.2.2 dX2_isShoe_47 hlocks
      · have h := zk_f c_3 h
        refine lv_iload_n hx hb dX2_isShoe_14 rfl (lv_at hl 1 rfl) ?_
        refine lv_bipush (v := (20 : Int32)) hx hb dX2_isShoe_15 (by decide) ?_
        refine lv_icmp_ge (tgt := 46) hx hb dX2_isShoe_17 (by decide) (fun c_4 => ?_) (fun c_4 => ?_)
        · have h := zk_t c_4 h
          refine lv_iconst (v := (0 : Int32)) hx hb dX2_isShoe_46 (by decide) ?_
          exact W.zret (ty := .boolean) (v := (0 : Int32)) hx hb hr rfl (fun t ht2 hW => ⟨⟨(0 : Int32), (), rfl, Option.some.inj h, by rw [ht2]; exact hP, hD⟩, hS.F ht2⟩) hS.2.2 dX2_isShoe_47 hlocks
        · have h := zk_f c_4 h
          refine lv_iload_n hx hb dX2_isShoe_20 rfl (lv_at hl 0 rfl) ?_
          refine lv_iload_n hx hb dX2_isShoe_21 rfl (lv_at hl 1 rfl) ?_
          refine lv_icmp_eq (tgt := 46) hx hb dX2_isShoe_22 (by decide) (fun c_5 => ?_) (fun c_5 => ?_)
          · have h := zk_t c_5 h
            refine lv_iconst (v := (0 : Int32)) hx hb dX2_isShoe_46 (by decide) ?_
            exact W.zret (ty := .boolean) (v := (0 : Int32)) hx hb hr rfl (fun t ht2 hW => ⟨⟨(0 : Int32), (), rfl, Option.some.inj h, by rw [ht2]; exact hP, hD⟩, hS.F ht2⟩) hS.2.2 dX2_isShoe_47 hlocks
          · have h := zk_f c_5 h
            refine lv_iload_n hx hb dX2_isShoe_25 rfl (lv_at hl 2 rfl) ?_
            refine lv_iconst (v := (1 : Int32)) hx hb dX2_isShoe_26 (by decide) ?_
            refine lv_icmp_lt (tgt := 46) hx hb dX2_isShoe_27 (by decide) (fun c_6 => ?_) (fun c_6 => ?_)
            · have h := zk_t c_6 h
              refine lv_iconst (v := (0 : Int32)) hx hb dX2_isShoe_46 (by decide) ?_
              exact W.zret (ty := .boolean) (v := (0 : Int32)) hx hb hr rfl (fun t ht2 hW => ⟨⟨(0 : Int32), (), rfl, Option.some.inj h, by rw [ht2]; exact hP, hD⟩, hS.F ht2⟩) hS.2.2 dX2_isShoe_47 hlocks
            · have h := zk_f c_6 h
              refine lv_iload_n hx hb dX2_isShoe_30 rfl (lv_at hl 2 rfl) ?_
              refine lv_iconst (v := (5 : Int32)) hx hb dX2_isShoe_31 (by decide) ?_
              refine lv_icmp_gt (tgt := 46) hx hb dX2_isShoe_32 (by decide) (fun c_7 => ?_) (fun c_7 => ?_)
              · have h := zk_t c_7 h
                refine lv_iconst (v := (0 : Int32)) hx hb dX2_isShoe_46 (by decide) ?_
                exact W.zret (ty := .boolean) (v := (0 : Int32)) hx hb hr rfl (fun t ht2 hW => ⟨⟨(0 : Int32), (), rfl, Option.some.inj h, by rw [ht2]; exact hP, hD⟩, hS.F ht2⟩) hS.2.2 dX2_isShoe_47 hlocks
              · have h := zk_f c_7 h
                refine lv_iload_n hx hb dX2_isShoe_35 rfl (lv_at hl 3 rfl) ?_
                obtain ⟨r_8, u_9, hc_10, h⟩ := zk_o2 h
                refine zk_ti (post := (fun r u => (r, u) = (r_8, u_9))) (w1 := fun u => (wl_X11_isDay ad cs )) (As := [.int x3]) (rest := []) (c_X11_isDay l D cs ad  H.size x3 _ hc_10) ⟨hx, hb, hml, hown, ht⟩ (⟨va_cnB 1 ht g_X2_48 rfl rfl rfl (zOn hO 6 rfl) (ht _ kw_75) (by decide +kernel) ⟨Nat.le_of_ble_eq_true rfl, Nat.le_of_ble_eq_true rfl⟩, ht _ kw_738, trivial⟩) hP hD hS hK hA [] [] rfl rfl rfl rfl (by decide) rfl hl.1 (Nat.le_of_ble_eq_true rfl) dX2_isShoe_36 ⟨Nat.zero_le _, Nat.zero_le _⟩ (fun r u H locs hq hP hD hS => ?_)
                cases hq
                have hP : va_P D classes (wl_X2_isShoe ad cs ) H := hP.sub [] rfl
                have hD : va_D A (wl_X2_isShoe ad cs ) := hD.sub [] rfl rfl
                refine lv_if_eq (tgt := 46) hx hb dX2_isShoe_39 (by decide) (fun c_11 => ?_) (fun c_11 => ?_)
                · have h := zk_t c_11 h
                  refine lv_iconst (v := (0 : Int32)) hx hb dX2_isShoe_46 (by decide) ?_
                  exact W.zret (ty := .boolean) (v := (0 : Int32)) hx hb hr rfl (fun t ht2 hW => ⟨⟨(0 : Int32), (), rfl, Option.some.inj h, by rw [ht2]; exact hP, hD⟩, hS.F ht2⟩) hS.2.2 dX2_isShoe_47 hlocks
                · have h := zk_f c_11 h
                  refine lv_iconst (v := (1 : Int32)) hx hb dX2_isShoe_42 (by decide) ?_
                  refine lv_goto (tgt := 47) hx hb dX2_isShoe_43 (by decide) ?_
                  exact W.zret (ty := .boolean) (v := (1 : Int32)) hx hb hr rfl (fun t ht2 hW => ⟨⟨(1 : Int32), (), rfl, Option.some.inj h, by rw [ht2]; exact hP, hD⟩, hS.F ht2⟩) hS.2.2 dX2_isShoe_47 hlocks
set_option maxHeartbeats 4000000 in
set_option maxRecDepth 100000 in
theorem c_X2_isShoe (l : Launch) (D : va_G) (cs : Nat → ClassId) (ad : Nat → Nat) (sz : Nat) (x0 : Int32) (x1 : Int32) (x2 : Int32) (x3 : Int32)  (R : Int32 × Unit) (h : f_X2_isShoe   x0 x1 x2 x3  = some R) : Met l yX2_isShoe (z_X2_isShoe) rm_X2_isShoe (va_Pc [.int x0, .int x1, .int x2, .int x3] (zPreO D cs (wl_X2_isShoe ad cs ) sz)) (Q_X2_isShoe D cs ad  (va_A (wl_X2_isShoe ad cs ) sz) R) 0 0 (va_A (wl_X2_isShoe ad cs ) sz) := by
  refine Met.ofW (cc := cX2_isShoe) (maxL := 4) (ret := (some .boolean)) (by decide) rfl ?_
  intro p e s m args below meth c s₁ B hml hv
  obtain ⟨rfl, ⟨hsz, hP, hK, hD0⟩, hO⟩ := hv
  subst hsz
  have hD := hD0.self (sz := s.heap.size)
  have C0 : zC p s m _ meth c cX2_isShoe 4 (some .boolean) RX2 zW := ⟨B.exec, B.bytes, B.returns, hml, findClass_of_methodNamed B.named, fun w hw => atoms_spec (ws := z_X2_isShoe) B.pre w (List.mem_cons_of_mem _ hw), B.notSynchronized⟩
  have hA : ∀ q : Nat, s.heap.size ≤ q → va_A (wl_X2_isShoe ad cs ) s.heap.size q := fun q h => Or.inr h
  have hl := lv_entry ([.int x0, .int x1, .int x2, .int x3]) (n := 4) (Nat.le_of_ble_eq_true rfl)
  rw [lg_entry_eq]
  generalize (lg_sl ([.int x0, .int x1, .int x2, .int x3]) ++ List.replicate (4 - (lg_sl ([.int x0, .int x1, .int x2, .int x3])).length) Slot.unset).toArray = ls at hl ⊢
  exact L_X2_isShoe_0 C0 hK hO hA   x0 x1 x2 x3  h s.heap [] ls hP hD va_S.rf hl
theorem kw_148 : Cond.fieldLink RX2 52 "AlreadyJudged$Court" "shoeCount" "I" ∈ zW := zwI (i := 148) (by decide +kernel) (by decide +kernel)
theorem dX2_addShoe_0 : decode cX2_addShoe 0 = .ok (.aload_n 0, 1) := by decide +kernel
theorem dX2_addShoe_1 : decode cX2_addShoe 1 = .ok (.getfield 52, 3) := by decide +kernel
theorem dX2_addShoe_4 : decode cX2_addShoe 4 = .ok (.bipush 40, 2) := by decide +kernel
theorem dX2_addShoe_6 : decode cX2_addShoe 6 = .ok (.if_icmp .lt 6, 3) := by decide +kernel
theorem dX2_addShoe_9 : decode cX2_addShoe 9 = .ok (.bipush (-3), 2) := by decide +kernel
theorem dX2_addShoe_11 : decode cX2_addShoe 11 = .ok (.ireturn, 1) := by decide +kernel
theorem dX2_addShoe_12 : decode cX2_addShoe 12 = .ok (.aload_n 0, 1) := by decide +kernel
theorem dX2_addShoe_13 : decode cX2_addShoe 13 = .ok (.getfield 9, 3) := by decide +kernel
theorem dX2_addShoe_16 : decode cX2_addShoe 16 = .ok (.aload_n 0, 1) := by decide +kernel
theorem dX2_addShoe_17 : decode cX2_addShoe 17 = .ok (.getfield 52, 3) := by decide +kernel
theorem dX2_addShoe_20 : decode cX2_addShoe 20 = .ok (.iload_n 1, 1) := by decide +kernel
theorem dX2_addShoe_21 : decode cX2_addShoe 21 = .ok (.iastore, 1) := by decide +kernel
theorem dX2_addShoe_22 : decode cX2_addShoe 22 = .ok (.aload_n 0, 1) := by decide +kernel
theorem dX2_addShoe_23 : decode cX2_addShoe 23 = .ok (.getfield 15, 3) := by decide +kernel
theorem dX2_addShoe_26 : decode cX2_addShoe 26 = .ok (.aload_n 0, 1) := by decide +kernel
theorem dX2_addShoe_27 : decode cX2_addShoe 27 = .ok (.getfield 52, 3) := by decide +kernel
theorem dX2_addShoe_30 : decode cX2_addShoe 30 = .ok (.iload_n 2, 1) := by decide +kernel
theorem dX2_addShoe_31 : decode cX2_addShoe 31 = .ok (.iastore, 1) := by decide +kernel
theorem dX2_addShoe_32 : decode cX2_addShoe 32 = .ok (.aload_n 0, 1) := by decide +kernel
theorem dX2_addShoe_33 : decode cX2_addShoe 33 = .ok (.getfield 18, 3) := by decide +kernel
theorem dX2_addShoe_36 : decode cX2_addShoe 36 = .ok (.aload_n 0, 1) := by decide +kernel
theorem dX2_addShoe_37 : decode cX2_addShoe 37 = .ok (.getfield 52, 3) := by decide +kernel
theorem dX2_addShoe_40 : decode cX2_addShoe 40 = .ok (.iload_n 3, 1) := by decide +kernel
theorem dX2_addShoe_41 : decode cX2_addShoe 41 = .ok (.iastore, 1) := by decide +kernel
theorem dX2_addShoe_42 : decode cX2_addShoe 42 = .ok (.aload_n 0, 1) := by decide +kernel
theorem dX2_addShoe_43 : decode cX2_addShoe 43 = .ok (.getfield 21, 3) := by decide +kernel
theorem dX2_addShoe_46 : decode cX2_addShoe 46 = .ok (.aload_n 0, 1) := by decide +kernel
theorem dX2_addShoe_47 : decode cX2_addShoe 47 = .ok (.getfield 52, 3) := by decide +kernel
theorem dX2_addShoe_50 : decode cX2_addShoe 50 = .ok (.iload 4, 2) := by decide +kernel
theorem dX2_addShoe_52 : decode cX2_addShoe 52 = .ok (.iastore, 1) := by decide +kernel
theorem dX2_addShoe_53 : decode cX2_addShoe 53 = .ok (.aload_n 0, 1) := by decide +kernel
theorem dX2_addShoe_54 : decode cX2_addShoe 54 = .ok (.dup, 1) := by decide +kernel
theorem dX2_addShoe_55 : decode cX2_addShoe 55 = .ok (.getfield 52, 3) := by decide +kernel
theorem dX2_addShoe_58 : decode cX2_addShoe 58 = .ok (.iconst 1, 1) := by decide +kernel
theorem dX2_addShoe_59 : decode cX2_addShoe 59 = .ok (.iadd, 1) := by decide +kernel
theorem dX2_addShoe_60 : decode cX2_addShoe 60 = .ok (.putfield 52, 3) := by decide +kernel
theorem dX2_addShoe_63 : decode cX2_addShoe 63 = .ok (.aload_n 0, 1) := by decide +kernel
theorem dX2_addShoe_64 : decode cX2_addShoe 64 = .ok (.getfield 52, 3) := by decide +kernel
theorem dX2_addShoe_67 : decode cX2_addShoe 67 = .ok (.iconst 1, 1) := by decide +kernel
theorem dX2_addShoe_68 : decode cX2_addShoe 68 = .ok (.isub, 1) := by decide +kernel
theorem dX2_addShoe_69 : decode cX2_addShoe 69 = .ok (.ireturn, 1) := by decide +kernel
abbrev z_X2_addShoe : List Cond := .code yX2_addShoe cX2_addShoe 5 (some .int) :: zW
abbrev wl_X2_addShoe (ad : Nat → Nat) (cs : Nat → ClassId)  (court_shoeCount : Int32) (court_claimCount : Int32) (court_suitCount : Int32) (court_shoePerson : Nat → Int32) (court_shoeOther : Nat → Int32) (court_shoeSort : Nat → Int32) (court_shoeDay : Nat → Int32) : va_W := [((ad 4), .inr (2, [.ref (ad 5), .ref (ad 6), .ref (ad 7), .ref (ad 8), .ref (ad 9), .ref (ad 10), .ref (ad 11), .ref (ad 12), .ref (ad 13), .ref (ad 14), .int court_shoeCount, .int court_claimCount, .int court_suitCount])), ((ad 5), .inl (cs 0, 40, .inl court_shoePerson)), ((ad 6), .inl (cs 0, 40, .inl court_shoeOther)), ((ad 7), .inl (cs 0, 40, .inl court_shoeSort)), ((ad 8), .inl (cs 0, 40, .inl court_shoeDay))]
def Q_X2_addShoe (D : va_G) (cs : Nat → ClassId) (ad : Nat → Nat)  (court_claimCount : Int32) (court_suitCount : Int32) (A : Nat → Prop) (R : Int32 × Int32 × (Nat → Int32) × (Nat → Int32) × (Nat → Int32) × (Nat → Int32)) : Array Value → State → Outcome → State → Prop :=
  va_Qi (fun (r : Int32) (u : Int32 × (Nat → Int32) × (Nat → Int32) × (Nat → Int32) × (Nat → Int32)) => (r, u) = R) (fun (u : Int32 × (Nat → Int32) × (Nat → Int32) × (Nat → Int32) × (Nat → Int32)) (t : State) => va_P D classes (wl_X2_addShoe ad cs u.1 court_claimCount court_suitCount u.2.1 u.2.2.1 u.2.2.2.1 u.2.2.2.2) t.heap ∧ va_D A (wl_X2_addShoe ad cs u.1 court_claimCount court_suitCount u.2.1 u.2.2.1 u.2.2.2.1 u.2.2.2.2)) A
abbrev rm_X2_addShoe : Room := { frames := 0, cells := 0, slots := 0, locals := 0 }
def B_X2_addShoe_0    (court_claimCount : Int32) (court_suitCount : Int32) (x1 : Int32) (x2 : Int32) (x3 : Int32) (x4 : Int32) (court_shoeCount : Int32) (court_shoePerson : Nat → Int32) (court_shoeOther : Nat → Int32) (court_shoeSort : Nat → Int32) (court_shoeDay : Nat → Int32) : Option (Int32 × Int32 × (Nat → Int32) × (Nat → Int32) × (Nat → Int32) × (Nat → Int32)) :=
  (if court_shoeCount < (40 : Int32) then (if (court_shoeCount < 0 ∨ 40 ≤ court_shoeCount.toNatClampNeg) then none else (zk_let (upd court_shoePerson court_shoeCount.toNatClampNeg x1) (fun f_3 => (if (court_shoeCount < 0 ∨ 40 ≤ court_shoeCount.toNatClampNeg) then none else (zk_let (upd court_shoeOther court_shoeCount.toNatClampNeg x2) (fun f_5 => (if (court_shoeCount < 0 ∨ 40 ≤ court_shoeCount.toNatClampNeg) then none else (zk_let (upd court_shoeSort court_shoeCount.toNatClampNeg x3) (fun f_7 => (if (court_shoeCount < 0 ∨ 40 ≤ court_shoeCount.toNatClampNeg) then none else (zk_let (upd court_shoeDay court_shoeCount.toNatClampNeg x4) (fun f_9 => (zk_let (court_shoeCount + (1 : Int32)) (fun v_10 => (some (v_10 - (1 : Int32), v_10, f_3, f_5, f_7, f_9)))))))))))))))) else (some ((-3 : Int32), court_shoeCount, court_shoePerson, court_shoeOther, court_shoeSort, court_shoeDay)))
def f_X2_addShoe   (x1 : Int32) (x2 : Int32) (x3 : Int32) (x4 : Int32) (court_shoeCount : Int32) (court_claimCount : Int32) (court_suitCount : Int32) (court_shoePerson : Nat → Int32) (court_shoeOther : Nat → Int32) (court_shoeSort : Nat → Int32) (court_shoeDay : Nat → Int32) : Option (Int32 × Int32 × (Nat → Int32) × (Nat → Int32) × (Nat → Int32) × (Nat → Int32)) := B_X2_addShoe_0   court_claimCount court_suitCount x1 x2 x3 x4 court_shoeCount court_shoePerson court_shoeOther court_shoeSort court_shoeDay
set_option maxHeartbeats 4000000 in
set_option maxRecDepth 100000 in
theorem L_X2_addShoe_0 {p : Program} {l : Launch} {e : Env} {s : State} {m : MethodId} {args : Array Value} {below : List Frame} {meth : Method} {c : Code} {A : Nat → Prop} {D : va_G} {cs : Nat → ClassId} {ad : Nat → Nat} {court_claimCount : Int32} {court_suitCount : Int32} {R : Int32 × Int32 × (Nat → Int32) × (Nat → Int32) × (Nat → Int32) × (Nat → Int32)} (C0 : zC p s m args meth c cX2_addShoe 5 (some .int) RX2 zW) (hK : va_K D classes (zT cs) s) (hA : ∀ q : Nat, s.heap.size ≤ q → A q) (x1 : Int32) (x2 : Int32) (x3 : Int32) (x4 : Int32) (court_shoeCount : Int32) (court_shoePerson : Nat → Int32) (court_shoeOther : Nat → Int32) (court_shoeSort : Nat → Int32) (court_shoeDay : Nat → Int32) (h : B_X2_addShoe_0 court_claimCount court_suitCount x1 x2 x3 x4 court_shoeCount court_shoePerson court_shoeOther court_shoeSort court_shoeDay = some R) (H : Heap) (locs : List Loc) (ls : Array Slot) (hP : va_P D classes (wl_X2_addShoe ad cs court_shoeCount court_claimCount court_suitCount court_shoePerson court_shoeOther court_shoeSort court_shoeDay) H) (hD : va_D A (wl_X2_addShoe ad cs court_shoeCount court_claimCount court_suitCount court_shoePerson court_shoeOther court_shoeSort court_shoeDay)) (hS : va_S A s.heap H locs) (hl : lv_has ls 5 [(0, .ref (ad 4)), (1, .int x1), (2, .int x2), (3, .int x3), (4, .int x4)]) : W p l e rm_X2_addShoe s m args below meth c H locs 0 0 (MQ below (Q_X2_addShoe D cs ad court_claimCount court_suitCount A R) args s 0 0 A) (F0 m 0 ls []) := by
  obtain ⟨hx, hb, hr, hml, hown, ht, hlocks⟩ := id C0
  refine lv_aload_n hx hb dX2_addShoe_0 rfl (lv_at hl 0 rfl) ?_
  refine va_get (D := D) (ci := 2) (v := .int court_shoeCount) (C := RX2) (T := TX2) (N := 13) hx hb ht iX2 hown hK hP 0 rfl rfl 10 (by decide) (ht _ kw_148) (fun _ h9 => h9) rfl dX2_addShoe_1 ?_
  refine lv_bipush (v := (40 : Int32)) hx hb dX2_addShoe_4 (by decide) ?_
  refine lv_icmp_lt (tgt := 12) hx hb dX2_addShoe_6 (by decide) (fun c_1 => ?_) (fun c_1 => ?_)
  · have h := zk_t c_1 h
    refine lv_aload_n hx hb dX2_addShoe_12 rfl (lv_at hl 0 rfl) ?_
    refine va_get (D := D) (ci := 2) (v := .ref (ad 5)) (C := RX2) (T := TX2) (N := 13) hx hb ht iX2 hown hK hP 0 rfl rfl 0 (by decide) (ht _ kw_116) (fun _ h9 => h9) rfl dX2_addShoe_13 ?_
    refine lv_aload_n hx hb dX2_addShoe_16 rfl (lv_at hl 0 rfl) ?_
    refine va_get (D := D) (ci := 2) (v := .int court_shoeCount) (C := RX2) (T := TX2) (N := 13) hx hb ht iX2 hown hK hP 0 rfl rfl 10 (by decide) (ht _ kw_148) (fun _ h9 => h9) rfl dX2_addShoe_17 ?_
    refine lv_iload_n hx hb dX2_addShoe_20 rfl (lv_at hl 1 rfl) ?_
    obtain ⟨g_2, h⟩ := zk_gd h
    obtain ⟨f_3, ef_3, h⟩ := zk_lt h
    refine va_iast hx hb hK hP hD hS 1 0 rfl rfl g_2 dX2_addShoe_21 (fun H locs hP hD hS => ?_)
    have hP : va_P D classes (wl_X2_addShoe ad cs court_shoeCount court_claimCount court_suitCount f_3 court_shoeOther court_shoeSort court_shoeDay) H := by rw [ef_3]; exact hP
    have hD : va_D A (wl_X2_addShoe ad cs court_shoeCount court_claimCount court_suitCount f_3 court_shoeOther court_shoeSort court_shoeDay) := by rw [ef_3]; exact hD
    refine lv_aload_n hx hb dX2_addShoe_22 rfl (lv_at hl 0 rfl) ?_
    refine va_get (D := D) (ci := 2) (v := .ref (ad 6)) (C := RX2) (T := TX2) (N := 13) hx hb ht iX2 hown hK hP 0 rfl rfl 1 (by decide) (ht _ kw_119) (fun _ h9 => h9) rfl dX2_addShoe_23 ?_
    refine lv_aload_n hx hb dX2_addShoe_26 rfl (lv_at hl 0 rfl) ?_
    refine va_get (D := D) (ci := 2) (v := .int court_shoeCount) (C := RX2) (T := TX2) (N := 13) hx hb ht iX2 hown hK hP 0 rfl rfl 10 (by decide) (ht _ kw_148) (fun _ h9 => h9) rfl dX2_addShoe_27 ?_
    refine lv_iload_n hx hb dX2_addShoe_30 rfl (lv_at hl 2 rfl) ?_
    obtain ⟨g_4, h⟩ := zk_gd h
    obtain ⟨f_5, ef_5, h⟩ := zk_lt h
    refine va_iast hx hb hK hP hD hS 2 0 rfl rfl g_4 dX2_addShoe_31 (fun H locs hP hD hS => ?_)
    have hP : va_P D classes (wl_X2_addShoe ad cs court_shoeCount court_claimCount court_suitCount f_3 f_5 court_shoeSort court_shoeDay) H := by rw [ef_5]; exact hP
    have hD : va_D A (wl_X2_addShoe ad cs court_shoeCount court_claimCount court_suitCount f_3 f_5 court_shoeSort court_shoeDay) := by rw [ef_5]; exact hD
    refine lv_aload_n hx hb dX2_addShoe_32 rfl (lv_at hl 0 rfl) ?_
    refine va_get (D := D) (ci := 2) (v := .ref (ad 7)) (C := RX2) (T := TX2) (N := 13) hx hb ht iX2 hown hK hP 0 rfl rfl 2 (by decide) (ht _ kw_122) (fun _ h9 => h9) rfl dX2_addShoe_33 ?_
    refine lv_aload_n hx hb dX2_addShoe_36 rfl (lv_at hl 0 rfl) ?_
    refine va_get (D := D) (ci := 2) (v := .int court_shoeCount) (C := RX2) (T := TX2) (N := 13) hx hb ht iX2 hown hK hP 0 rfl rfl 10 (by decide) (ht _ kw_148) (fun _ h9 => h9) rfl dX2_addShoe_37 ?_
    refine lv_iload_n hx hb dX2_addShoe_40 rfl (lv_at hl 3 rfl) ?_
    obtain ⟨g_6, h⟩ := zk_gd h
    obtain ⟨f_7, ef_7, h⟩ := zk_lt h
    refine va_iast hx hb hK hP hD hS 3 0 rfl rfl g_6 dX2_addShoe_41 (fun H locs hP hD hS => ?_)
    have hP : va_P D classes (wl_X2_addShoe ad cs court_shoeCount court_claimCount court_suitCount f_3 f_5 f_7 court_shoeDay) H := by rw [ef_7]; exact hP
    have hD : va_D A (wl_X2_addShoe ad cs court_shoeCount court_claimCount court_suitCount f_3 f_5 f_7 court_shoeDay) := by rw [ef_7]; exact hD
    refine lv_aload_n hx hb dX2_addShoe_42 rfl (lv_at hl 0 rfl) ?_
    refine va_get (D := D) (ci := 2) (v := .ref (ad 8)) (C := RX2) (T := TX2) (N := 13) hx hb ht iX2 hown hK hP 0 rfl rfl 3 (by decide) (ht _ kw_125) (fun _ h9 => h9) rfl dX2_addShoe_43 ?_
    refine lv_aload_n hx hb dX2_addShoe_46 rfl (lv_at hl 0 rfl) ?_
    refine va_get (D := D) (ci := 2) (v := .int court_shoeCount) (C := RX2) (T := TX2) (N := 13) hx hb ht iX2 hown hK hP 0 rfl rfl 10 (by decide) (ht _ kw_148) (fun _ h9 => h9) rfl dX2_addShoe_47 ?_
    refine lv_iload hx hb dX2_addShoe_50 (lv_at hl 4 rfl) ?_
    obtain ⟨g_8, h⟩ := zk_gd h
    obtain ⟨f_9, ef_9, h⟩ := zk_lt h
    refine va_iast hx hb hK hP hD hS 4 0 rfl rfl g_8 dX2_addShoe_52 (fun H locs hP hD hS => ?_)
    have hP : va_P D classes (wl_X2_addShoe ad cs court_shoeCount court_claimCount court_suitCount f_3 f_5 f_7 f_9) H := by rw [ef_9]; exact hP
    have hD : va_D A (wl_X2_addShoe ad cs court_shoeCount court_claimCount court_suitCount f_3 f_5 f_7 f_9) := by rw [ef_9]; exact hD
    refine lv_aload_n hx hb dX2_addShoe_53 rfl (lv_at hl 0 rfl) ?_
    refine lv_dup hx hb dX2_addShoe_54 rfl ?_
    refine va_get (D := D) (ci := 2) (v := .int court_shoeCount) (C := RX2) (T := TX2) (N := 13) hx hb ht iX2 hown hK hP 0 rfl rfl 10 (by decide) (ht _ kw_148) (fun _ h9 => h9) rfl dX2_addShoe_55 ?_
    refine lv_iconst (v := (1 : Int32)) hx hb dX2_addShoe_58 (by decide) ?_
    refine lv_iadd hx hb dX2_addShoe_59 ?_
    obtain ⟨v_10, ev_10, h⟩ := zk_lt h
    refine W.eq (g2 := F0 m 60 ls [.int v_10, .ref (ad 4)]) (by rw [ev_10]) ?_
    refine va_put (D := D) (ci := 2) (v := .int v_10) (ty := .int) (C := RX2) (T := TX2) (N := 13) hx hb ht iX2 tyX2 tyX2_ok nmX2 hown hK hP hD hS 0 rfl rfl 10 (by decide) (ht _ kw_148) (fun _ h9 => h9) rfl (by decide +kernel) rfl rfl (Nat.le_of_ble_eq_true rfl) dX2_addShoe_60 (fun H locs hP hD hS => ?_)
    have hP : va_P D classes (wl_X2_addShoe ad cs v_10 court_claimCount court_suitCount f_3 f_5 f_7 f_9) H := hP
    have hD : va_D A (wl_X2_addShoe ad cs v_10 court_claimCount court_suitCount f_3 f_5 f_7 f_9) := hD
    refine lv_aload_n hx hb dX2_addShoe_63 rfl (lv_at hl 0 rfl) ?_
    refine va_get (D := D) (ci := 2) (v := .int v_10) (C := RX2) (T := TX2) (N := 13) hx hb ht iX2 hown hK hP 0 rfl rfl 10 (by decide) (ht _ kw_148) (fun _ h9 => h9) rfl dX2_addShoe_64 ?_
    refine lv_iconst (v := (1 : Int32)) hx hb dX2_addShoe_67 (by decide) ?_
    refine lv_isub hx hb dX2_addShoe_68 ?_
    exact W.iret (v := v_10 - (1 : Int32)) hx hb hr (fun t ht2 hW => ⟨⟨v_10 - (1 : Int32), (v_10, f_3, f_5, f_7, f_9), rfl, Option.some.inj h, by rw [ht2]; exact hP, hD⟩, hS.F ht2⟩) hS.2.2 dX2_addShoe_69 hlocks
  · have h := zk_f c_1 h
    refine lv_bipush (v := (-3 : Int32)) hx hb dX2_addShoe_9 (by decide) ?_
    exact W.iret (v := (-3 : Int32)) hx hb hr (fun t ht2 hW => ⟨⟨(-3 : Int32), (court_shoeCount, court_shoePerson, court_shoeOther, court_shoeSort, court_shoeDay), rfl, Option.some.inj h, by rw [ht2]; exact hP, hD⟩, hS.F ht2⟩) hS.2.2 dX2_addShoe_11 hlocks
set_option maxHeartbeats 4000000 in
set_option maxRecDepth 100000 in
theorem c_X2_addShoe (l : Launch) (D : va_G) (cs : Nat → ClassId) (ad : Nat → Nat) (sz : Nat) (x1 : Int32) (x2 : Int32) (x3 : Int32) (x4 : Int32) (court_shoeCount : Int32) (court_claimCount : Int32) (court_suitCount : Int32) (court_shoePerson : Nat → Int32) (court_shoeOther : Nat → Int32) (court_shoeSort : Nat → Int32) (court_shoeDay : Nat → Int32) (R : Int32 × Int32 × (Nat → Int32) × (Nat → Int32) × (Nat → Int32) × (Nat → Int32)) (h : f_X2_addShoe   x1 x2 x3 x4 court_shoeCount court_claimCount court_suitCount court_shoePerson court_shoeOther court_shoeSort court_shoeDay = some R) : Met l yX2_addShoe (z_X2_addShoe) rm_X2_addShoe (va_Pc [.ref (ad 4), .int x1, .int x2, .int x3, .int x4] (zPre D cs (wl_X2_addShoe ad cs court_shoeCount court_claimCount court_suitCount court_shoePerson court_shoeOther court_shoeSort court_shoeDay) sz)) (Q_X2_addShoe D cs ad court_claimCount court_suitCount (va_A (wl_X2_addShoe ad cs court_shoeCount court_claimCount court_suitCount court_shoePerson court_shoeOther court_shoeSort court_shoeDay) sz) R) 0 0 (va_A (wl_X2_addShoe ad cs court_shoeCount court_claimCount court_suitCount court_shoePerson court_shoeOther court_shoeSort court_shoeDay) sz) := by
  refine Met.ofW (cc := cX2_addShoe) (maxL := 5) (ret := (some .int)) (by decide) rfl ?_
  intro p e s m args below meth c s₁ B hml hv
  obtain ⟨rfl, hsz, hP, hK, hD0⟩ := hv
  subst hsz
  have hD := hD0.self (sz := s.heap.size)
  have C0 : zC p s m _ meth c cX2_addShoe 5 (some .int) RX2 zW := ⟨B.exec, B.bytes, B.returns, hml, findClass_of_methodNamed B.named, fun w hw => atoms_spec (ws := z_X2_addShoe) B.pre w (List.mem_cons_of_mem _ hw), B.notSynchronized⟩
  have hA : ∀ q : Nat, s.heap.size ≤ q → va_A (wl_X2_addShoe ad cs court_shoeCount court_claimCount court_suitCount court_shoePerson court_shoeOther court_shoeSort court_shoeDay) s.heap.size q := fun q h => Or.inr h
  have hl := lv_entry ([.ref (ad 4), .int x1, .int x2, .int x3, .int x4]) (n := 5) (Nat.le_of_ble_eq_true rfl)
  rw [lg_entry_eq]
  generalize (lg_sl ([.ref (ad 4), .int x1, .int x2, .int x3, .int x4]) ++ List.replicate (5 - (lg_sl ([.ref (ad 4), .int x1, .int x2, .int x3, .int x4])).length) Slot.unset).toArray = ls at hl ⊢
  exact L_X2_addShoe_0 C0 hK hA   x1 x2 x3 x4 court_shoeCount court_shoePerson court_shoeOther court_shoeSort court_shoeDay h s.heap [] ls hP hD va_S.rf hl
theorem kw_152 : Cond.fieldLink RX2 56 "AlreadyJudged$Court" "claimCount" "I" ∈ zW := zwI (i := 152) (by decide +kernel) (by decide +kernel)
theorem dX2_addClaim_0 : decode cX2_addClaim 0 = .ok (.aload_n 0, 1) := by decide +kernel
theorem dX2_addClaim_1 : decode cX2_addClaim 1 = .ok (.getfield 56, 3) := by decide +kernel
theorem dX2_addClaim_4 : decode cX2_addClaim 4 = .ok (.bipush 32, 2) := by decide +kernel
theorem dX2_addClaim_6 : decode cX2_addClaim 6 = .ok (.if_icmp .lt 6, 3) := by decide +kernel
theorem dX2_addClaim_9 : decode cX2_addClaim 9 = .ok (.bipush (-3), 2) := by decide +kernel
theorem dX2_addClaim_11 : decode cX2_addClaim 11 = .ok (.ireturn, 1) := by decide +kernel
theorem dX2_addClaim_12 : decode cX2_addClaim 12 = .ok (.aload_n 0, 1) := by decide +kernel
theorem dX2_addClaim_13 : decode cX2_addClaim 13 = .ok (.getfield 24, 3) := by decide +kernel
theorem dX2_addClaim_16 : decode cX2_addClaim 16 = .ok (.aload_n 0, 1) := by decide +kernel
theorem dX2_addClaim_17 : decode cX2_addClaim 17 = .ok (.getfield 56, 3) := by decide +kernel
theorem dX2_addClaim_20 : decode cX2_addClaim 20 = .ok (.iload_n 1, 1) := by decide +kernel
theorem dX2_addClaim_21 : decode cX2_addClaim 21 = .ok (.bipush 100, 2) := by decide +kernel
theorem dX2_addClaim_23 : decode cX2_addClaim 23 = .ok (.idiv, 1) := by decide +kernel
theorem dX2_addClaim_24 : decode cX2_addClaim 24 = .ok (.iastore, 1) := by decide +kernel
theorem dX2_addClaim_25 : decode cX2_addClaim 25 = .ok (.aload_n 0, 1) := by decide +kernel
theorem dX2_addClaim_26 : decode cX2_addClaim 26 = .ok (.getfield 27, 3) := by decide +kernel
theorem dX2_addClaim_29 : decode cX2_addClaim 29 = .ok (.aload_n 0, 1) := by decide +kernel
theorem dX2_addClaim_30 : decode cX2_addClaim 30 = .ok (.getfield 56, 3) := by decide +kernel
theorem dX2_addClaim_33 : decode cX2_addClaim 33 = .ok (.iload_n 1, 1) := by decide +kernel
theorem dX2_addClaim_34 : decode cX2_addClaim 34 = .ok (.bipush 100, 2) := by decide +kernel
theorem dX2_addClaim_36 : decode cX2_addClaim 36 = .ok (.irem, 1) := by decide +kernel
theorem dX2_addClaim_37 : decode cX2_addClaim 37 = .ok (.iastore, 1) := by decide +kernel
theorem dX2_addClaim_38 : decode cX2_addClaim 38 = .ok (.aload_n 0, 1) := by decide +kernel
theorem dX2_addClaim_39 : decode cX2_addClaim 39 = .ok (.getfield 30, 3) := by decide +kernel
theorem dX2_addClaim_42 : decode cX2_addClaim 42 = .ok (.aload_n 0, 1) := by decide +kernel
theorem dX2_addClaim_43 : decode cX2_addClaim 43 = .ok (.getfield 56, 3) := by decide +kernel
theorem dX2_addClaim_46 : decode cX2_addClaim 46 = .ok (.iload_n 2, 1) := by decide +kernel
theorem dX2_addClaim_47 : decode cX2_addClaim 47 = .ok (.iastore, 1) := by decide +kernel
theorem dX2_addClaim_48 : decode cX2_addClaim 48 = .ok (.aload_n 0, 1) := by decide +kernel
theorem dX2_addClaim_49 : decode cX2_addClaim 49 = .ok (.getfield 33, 3) := by decide +kernel
theorem dX2_addClaim_52 : decode cX2_addClaim 52 = .ok (.aload_n 0, 1) := by decide +kernel
theorem dX2_addClaim_53 : decode cX2_addClaim 53 = .ok (.getfield 56, 3) := by decide +kernel
theorem dX2_addClaim_56 : decode cX2_addClaim 56 = .ok (.iload_n 3, 1) := by decide +kernel
theorem dX2_addClaim_57 : decode cX2_addClaim 57 = .ok (.iastore, 1) := by decide +kernel
theorem dX2_addClaim_58 : decode cX2_addClaim 58 = .ok (.aload_n 0, 1) := by decide +kernel
theorem dX2_addClaim_59 : decode cX2_addClaim 59 = .ok (.dup, 1) := by decide +kernel
theorem dX2_addClaim_60 : decode cX2_addClaim 60 = .ok (.getfield 56, 3) := by decide +kernel
theorem dX2_addClaim_63 : decode cX2_addClaim 63 = .ok (.iconst 1, 1) := by decide +kernel
theorem dX2_addClaim_64 : decode cX2_addClaim 64 = .ok (.iadd, 1) := by decide +kernel
theorem dX2_addClaim_65 : decode cX2_addClaim 65 = .ok (.putfield 56, 3) := by decide +kernel
theorem dX2_addClaim_68 : decode cX2_addClaim 68 = .ok (.aload_n 0, 1) := by decide +kernel
theorem dX2_addClaim_69 : decode cX2_addClaim 69 = .ok (.getfield 56, 3) := by decide +kernel
theorem dX2_addClaim_72 : decode cX2_addClaim 72 = .ok (.iconst 1, 1) := by decide +kernel
theorem dX2_addClaim_73 : decode cX2_addClaim 73 = .ok (.isub, 1) := by decide +kernel
theorem dX2_addClaim_74 : decode cX2_addClaim 74 = .ok (.ireturn, 1) := by decide +kernel
abbrev z_X2_addClaim : List Cond := .code yX2_addClaim cX2_addClaim 4 (some .int) :: zW
abbrev wl_X2_addClaim (ad : Nat → Nat) (cs : Nat → ClassId)  (court_shoeCount : Int32) (court_claimCount : Int32) (court_suitCount : Int32) (court_claimWho : Nat → Int32) (court_claimAgainst : Nat → Int32) (court_claimFact : Nat → Int32) (court_claimPlea : Nat → Int32) : va_W := [((ad 4), .inr (2, [.ref (ad 5), .ref (ad 6), .ref (ad 7), .ref (ad 8), .ref (ad 9), .ref (ad 10), .ref (ad 11), .ref (ad 12), .ref (ad 13), .ref (ad 14), .int court_shoeCount, .int court_claimCount, .int court_suitCount])), ((ad 9), .inl (cs 0, 32, .inl court_claimWho)), ((ad 10), .inl (cs 0, 32, .inl court_claimAgainst)), ((ad 11), .inl (cs 0, 32, .inl court_claimFact)), ((ad 12), .inl (cs 0, 32, .inl court_claimPlea))]
def Q_X2_addClaim (D : va_G) (cs : Nat → ClassId) (ad : Nat → Nat)  (court_shoeCount : Int32) (court_suitCount : Int32) (A : Nat → Prop) (R : Int32 × Int32 × (Nat → Int32) × (Nat → Int32) × (Nat → Int32) × (Nat → Int32)) : Array Value → State → Outcome → State → Prop :=
  va_Qi (fun (r : Int32) (u : Int32 × (Nat → Int32) × (Nat → Int32) × (Nat → Int32) × (Nat → Int32)) => (r, u) = R) (fun (u : Int32 × (Nat → Int32) × (Nat → Int32) × (Nat → Int32) × (Nat → Int32)) (t : State) => va_P D classes (wl_X2_addClaim ad cs court_shoeCount u.1 court_suitCount u.2.1 u.2.2.1 u.2.2.2.1 u.2.2.2.2) t.heap ∧ va_D A (wl_X2_addClaim ad cs court_shoeCount u.1 court_suitCount u.2.1 u.2.2.1 u.2.2.2.1 u.2.2.2.2)) A
abbrev rm_X2_addClaim : Room := { frames := 0, cells := 0, slots := 0, locals := 0 }
def B_X2_addClaim_0    (court_shoeCount : Int32) (court_suitCount : Int32) (x1 : Int32) (x2 : Int32) (x3 : Int32) (court_claimCount : Int32) (court_claimWho : Nat → Int32) (court_claimAgainst : Nat → Int32) (court_claimFact : Nat → Int32) (court_claimPlea : Nat → Int32) : Option (Int32 × Int32 × (Nat → Int32) × (Nat → Int32) × (Nat → Int32) × (Nat → Int32)) :=
  (if court_claimCount < (32 : Int32) then (zk_let (x1 / (100 : Int32)) (fun v_2 => (if (court_claimCount < 0 ∨ 32 ≤ court_claimCount.toNatClampNeg) then none else (zk_let (upd court_claimWho court_claimCount.toNatClampNeg v_2) (fun f_4 => (zk_let (x1 - x1 / (100 : Int32) * (100 : Int32)) (fun v_5 => (if (court_claimCount < 0 ∨ 32 ≤ court_claimCount.toNatClampNeg) then none else (zk_let (upd court_claimAgainst court_claimCount.toNatClampNeg v_5) (fun f_7 => (if (court_claimCount < 0 ∨ 32 ≤ court_claimCount.toNatClampNeg) then none else (zk_let (upd court_claimFact court_claimCount.toNatClampNeg x2) (fun f_9 => (if (court_claimCount < 0 ∨ 32 ≤ court_claimCount.toNatClampNeg) then none else (zk_let (upd court_claimPlea court_claimCount.toNatClampNeg x3) (fun f_11 => (zk_let (court_claimCount + (1 : Int32)) (fun v_12 => (some (v_12 - (1 : Int32), v_12, f_4, f_7, f_9, f_11)))))))))))))))))))) else (some ((-3 : Int32), court_claimCount, court_claimWho, court_claimAgainst, court_claimFact, court_claimPlea)))
def f_X2_addClaim   (x1 : Int32) (x2 : Int32) (x3 : Int32) (court_shoeCount : Int32) (court_claimCount : Int32) (court_suitCount : Int32) (court_claimWho : Nat → Int32) (court_claimAgainst : Nat → Int32) (court_claimFact : Nat → Int32) (court_claimPlea : Nat → Int32) : Option (Int32 × Int32 × (Nat → Int32) × (Nat → Int32) × (Nat → Int32) × (Nat → Int32)) := B_X2_addClaim_0   court_shoeCount court_suitCount x1 x2 x3 court_claimCount court_claimWho court_claimAgainst court_claimFact court_claimPlea
set_option maxHeartbeats 4000000 in
set_option maxRecDepth 100000 in
theorem L_X2_addClaim_0 {p : Program} {l : Launch} {e : Env} {s : State} {m : MethodId} {args : Array Value} {below : List Frame} {meth : Method} {c : Code} {A : Nat → Prop} {D : va_G} {cs : Nat → ClassId} {ad : Nat → Nat} {court_shoeCount : Int32} {court_suitCount : Int32} {R : Int32 × Int32 × (Nat → Int32) × (Nat → Int32) × (Nat → Int32) × (Nat → Int32)} (C0 : zC p s m args meth c cX2_addClaim 4 (some .int) RX2 zW) (hK : va_K D classes (zT cs) s) (hA : ∀ q : Nat, s.heap.size ≤ q → A q) (x1 : Int32) (x2 : Int32) (x3 : Int32) (court_claimCount : Int32) (court_claimWho : Nat → Int32) (court_claimAgainst : Nat → Int32) (court_claimFact : Nat → Int32) (court_claimPlea : Nat → Int32) (h : B_X2_addClaim_0 court_shoeCount court_suitCount x1 x2 x3 court_claimCount court_claimWho court_claimAgainst court_claimFact court_claimPlea = some R) (H : Heap) (locs : List Loc) (ls : Array Slot) (hP : va_P D classes (wl_X2_addClaim ad cs court_shoeCount court_claimCount court_suitCount court_claimWho court_claimAgainst court_claimFact court_claimPlea) H) (hD : va_D A (wl_X2_addClaim ad cs court_shoeCount court_claimCount court_suitCount court_claimWho court_claimAgainst court_claimFact court_claimPlea)) (hS : va_S A s.heap H locs) (hl : lv_has ls 4 [(0, .ref (ad 4)), (1, .int x1), (2, .int x2), (3, .int x3)]) : W p l e rm_X2_addClaim s m args below meth c H locs 0 0 (MQ below (Q_X2_addClaim D cs ad court_shoeCount court_suitCount A R) args s 0 0 A) (F0 m 0 ls []) := by
  obtain ⟨hx, hb, hr, hml, hown, ht, hlocks⟩ := id C0
  refine lv_aload_n hx hb dX2_addClaim_0 rfl (lv_at hl 0 rfl) ?_
  refine va_get (D := D) (ci := 2) (v := .int court_claimCount) (C := RX2) (T := TX2) (N := 13) hx hb ht iX2 hown hK hP 0 rfl rfl 11 (by decide) (ht _ kw_152) (fun _ h9 => h9) rfl dX2_addClaim_1 ?_
  refine lv_bipush (v := (32 : Int32)) hx hb dX2_addClaim_4 (by decide) ?_
  refine lv_icmp_lt (tgt := 12) hx hb dX2_addClaim_6 (by decide) (fun c_1 => ?_) (fun c_1 => ?_)
  · have h := zk_t c_1 h
    refine lv_aload_n hx hb dX2_addClaim_12 rfl (lv_at hl 0 rfl) ?_
    refine va_get (D := D) (ci := 2) (v := .ref (ad 9)) (C := RX2) (T := TX2) (N := 13) hx hb ht iX2 hown hK hP 0 rfl rfl 4 (by decide) (ht _ kw_129) (fun _ h9 => h9) rfl dX2_addClaim_13 ?_
    refine lv_aload_n hx hb dX2_addClaim_16 rfl (lv_at hl 0 rfl) ?_
    refine va_get (D := D) (ci := 2) (v := .int court_claimCount) (C := RX2) (T := TX2) (N := 13) hx hb ht iX2 hown hK hP 0 rfl rfl 11 (by decide) (ht _ kw_152) (fun _ h9 => h9) rfl dX2_addClaim_17 ?_
    refine lv_iload_n hx hb dX2_addClaim_20 rfl (lv_at hl 1 rfl) ?_
    refine lv_bipush (v := (100 : Int32)) hx hb dX2_addClaim_21 (by decide) ?_
    refine lv_idiv hx hb dX2_addClaim_23 (by decide) ?_
    obtain ⟨v_2, ev_2, h⟩ := zk_lt h
    refine W.eq (g2 := F0 m 24 ls [.int v_2, .int court_claimCount, .ref (ad 9)]) (by rw [ev_2]) ?_
    obtain ⟨g_3, h⟩ := zk_gd h
    obtain ⟨f_4, ef_4, h⟩ := zk_lt h
    refine va_iast hx hb hK hP hD hS 1 0 rfl rfl g_3 dX2_addClaim_24 (fun H locs hP hD hS => ?_)
    have hP : va_P D classes (wl_X2_addClaim ad cs court_shoeCount court_claimCount court_suitCount f_4 court_claimAgainst court_claimFact court_claimPlea) H := by rw [ef_4]; exact hP
    have hD : va_D A (wl_X2_addClaim ad cs court_shoeCount court_claimCount court_suitCount f_4 court_claimAgainst court_claimFact court_claimPlea) := by rw [ef_4]; exact hD
    refine lv_aload_n hx hb dX2_addClaim_25 rfl (lv_at hl 0 rfl) ?_
    refine va_get (D := D) (ci := 2) (v := .ref (ad 10)) (C := RX2) (T := TX2) (N := 13) hx hb ht iX2 hown hK hP 0 rfl rfl 5 (by decide) (ht _ kw_133) (fun _ h9 => h9) rfl dX2_addClaim_26 ?_
    refine lv_aload_n hx hb dX2_addClaim_29 rfl (lv_at hl 0 rfl) ?_
    refine va_get (D := D) (ci := 2) (v := .int court_claimCount) (C := RX2) (T := TX2) (N := 13) hx hb ht iX2 hown hK hP 0 rfl rfl 11 (by decide) (ht _ kw_152) (fun _ h9 => h9) rfl dX2_addClaim_30 ?_
    refine lv_iload_n hx hb dX2_addClaim_33 rfl (lv_at hl 1 rfl) ?_
    refine lv_bipush (v := (100 : Int32)) hx hb dX2_addClaim_34 (by decide) ?_
    refine lv_irem hx hb dX2_addClaim_36 (by decide) ?_
    obtain ⟨v_5, ev_5, h⟩ := zk_lt h
    refine W.eq (g2 := F0 m 37 ls [.int v_5, .int court_claimCount, .ref (ad 10)]) (by rw [ev_5]) ?_
    obtain ⟨g_6, h⟩ := zk_gd h
    obtain ⟨f_7, ef_7, h⟩ := zk_lt h
    refine va_iast hx hb hK hP hD hS 2 0 rfl rfl g_6 dX2_addClaim_37 (fun H locs hP hD hS => ?_)
    have hP : va_P D classes (wl_X2_addClaim ad cs court_shoeCount court_claimCount court_suitCount f_4 f_7 court_claimFact court_claimPlea) H := by rw [ef_7]; exact hP
    have hD : va_D A (wl_X2_addClaim ad cs court_shoeCount court_claimCount court_suitCount f_4 f_7 court_claimFact court_claimPlea) := by rw [ef_7]; exact hD
    refine lv_aload_n hx hb dX2_addClaim_38 rfl (lv_at hl 0 rfl) ?_
    refine va_get (D := D) (ci := 2) (v := .ref (ad 11)) (C := RX2) (T := TX2) (N := 13) hx hb ht iX2 hown hK hP 0 rfl rfl 6 (by decide) (ht _ kw_137) (fun _ h9 => h9) rfl dX2_addClaim_39 ?_
    refine lv_aload_n hx hb dX2_addClaim_42 rfl (lv_at hl 0 rfl) ?_
    refine va_get (D := D) (ci := 2) (v := .int court_claimCount) (C := RX2) (T := TX2) (N := 13) hx hb ht iX2 hown hK hP 0 rfl rfl 11 (by decide) (ht _ kw_152) (fun _ h9 => h9) rfl dX2_addClaim_43 ?_
    refine lv_iload_n hx hb dX2_addClaim_46 rfl (lv_at hl 2 rfl) ?_
    obtain ⟨g_8, h⟩ := zk_gd h
    obtain ⟨f_9, ef_9, h⟩ := zk_lt h
    refine va_iast hx hb hK hP hD hS 3 0 rfl rfl g_8 dX2_addClaim_47 (fun H locs hP hD hS => ?_)
    have hP : va_P D classes (wl_X2_addClaim ad cs court_shoeCount court_claimCount court_suitCount f_4 f_7 f_9 court_claimPlea) H := by rw [ef_9]; exact hP
    have hD : va_D A (wl_X2_addClaim ad cs court_shoeCount court_claimCount court_suitCount f_4 f_7 f_9 court_claimPlea) := by rw [ef_9]; exact hD
    refine lv_aload_n hx hb dX2_addClaim_48 rfl (lv_at hl 0 rfl) ?_
    refine va_get (D := D) (ci := 2) (v := .ref (ad 12)) (C := RX2) (T := TX2) (N := 13) hx hb ht iX2 hown hK hP 0 rfl rfl 7 (by decide) (ht _ kw_140) (fun _ h9 => h9) rfl dX2_addClaim_49 ?_
    refine lv_aload_n hx hb dX2_addClaim_52 rfl (lv_at hl 0 rfl) ?_
    refine va_get (D := D) (ci := 2) (v := .int court_claimCount) (C := RX2) (T := TX2) (N := 13) hx hb ht iX2 hown hK hP 0 rfl rfl 11 (by decide) (ht _ kw_152) (fun _ h9 => h9) rfl dX2_addClaim_53 ?_
    refine lv_iload_n hx hb dX2_addClaim_56 rfl (lv_at hl 3 rfl) ?_
    obtain ⟨g_10, h⟩ := zk_gd h
    obtain ⟨f_11, ef_11, h⟩ := zk_lt h
    refine va_iast hx hb hK hP hD hS 4 0 rfl rfl g_10 dX2_addClaim_57 (fun H locs hP hD hS => ?_)
    have hP : va_P D classes (wl_X2_addClaim ad cs court_shoeCount court_claimCount court_suitCount f_4 f_7 f_9 f_11) H := by rw [ef_11]; exact hP
    have hD : va_D A (wl_X2_addClaim ad cs court_shoeCount court_claimCount court_suitCount f_4 f_7 f_9 f_11) := by rw [ef_11]; exact hD
    refine lv_aload_n hx hb dX2_addClaim_58 rfl (lv_at hl 0 rfl) ?_
    refine lv_dup hx hb dX2_addClaim_59 rfl ?_
    refine va_get (D := D) (ci := 2) (v := .int court_claimCount) (C := RX2) (T := TX2) (N := 13) hx hb ht iX2 hown hK hP 0 rfl rfl 11 (by decide) (ht _ kw_152) (fun _ h9 => h9) rfl dX2_addClaim_60 ?_
    refine lv_iconst (v := (1 : Int32)) hx hb dX2_addClaim_63 (by decide) ?_
    refine lv_iadd hx hb dX2_addClaim_64 ?_
    obtain ⟨v_12, ev_12, h⟩ := zk_lt h
    refine W.eq (g2 := F0 m 65 ls [.int v_12, .ref (ad 4)]) (by rw [ev_12]) ?_
    refine va_put (D := D) (ci := 2) (v := .int v_12) (ty := .int) (C := RX2) (T := TX2) (N := 13) hx hb ht iX2 tyX2 tyX2_ok nmX2 hown hK hP hD hS 0 rfl rfl 11 (by decide) (ht _ kw_152) (fun _ h9 => h9) rfl (by decide +kernel) rfl rfl (Nat.le_of_ble_eq_true rfl) dX2_addClaim_65 (fun H locs hP hD hS => ?_)
    have hP : va_P D classes (wl_X2_addClaim ad cs court_shoeCount v_12 court_suitCount f_4 f_7 f_9 f_11) H := hP
    have hD : va_D A (wl_X2_addClaim ad cs court_shoeCount v_12 court_suitCount f_4 f_7 f_9 f_11) := hD
    refine lv_aload_n hx hb dX2_addClaim_68 rfl (lv_at hl 0 rfl) ?_
    refine va_get (D := D) (ci := 2) (v := .int v_12) (C := RX2) (T := TX2) (N := 13) hx hb ht iX2 hown hK hP 0 rfl rfl 11 (by decide) (ht _ kw_152) (fun _ h9 => h9) rfl dX2_addClaim_69 ?_
    refine lv_iconst (v := (1 : Int32)) hx hb dX2_addClaim_72 (by decide) ?_
    refine lv_isub hx hb dX2_addClaim_73 ?_
    exact W.iret (v := v_12 - (1 : Int32)) hx hb hr (fun t ht2 hW => ⟨⟨v_12 - (1 : Int32), (v_12, f_4, f_7, f_9, f_11), rfl, Option.some.inj h, by rw [ht2]; exact hP, hD⟩, hS.F ht2⟩) hS.2.2 dX2_addClaim_74 hlocks
  · have h := zk_f c_1 h
    refine lv_bipush (v := (-3 : Int32)) hx hb dX2_addClaim_9 (by decide) ?_
    exact W.iret (v := (-3 : Int32)) hx hb hr (fun t ht2 hW => ⟨⟨(-3 : Int32), (court_claimCount, court_claimWho, court_claimAgainst, court_claimFact, court_claimPlea), rfl, Option.some.inj h, by rw [ht2]; exact hP, hD⟩, hS.F ht2⟩) hS.2.2 dX2_addClaim_11 hlocks
set_option maxHeartbeats 4000000 in
set_option maxRecDepth 100000 in
theorem c_X2_addClaim (l : Launch) (D : va_G) (cs : Nat → ClassId) (ad : Nat → Nat) (sz : Nat) (x1 : Int32) (x2 : Int32) (x3 : Int32) (court_shoeCount : Int32) (court_claimCount : Int32) (court_suitCount : Int32) (court_claimWho : Nat → Int32) (court_claimAgainst : Nat → Int32) (court_claimFact : Nat → Int32) (court_claimPlea : Nat → Int32) (R : Int32 × Int32 × (Nat → Int32) × (Nat → Int32) × (Nat → Int32) × (Nat → Int32)) (h : f_X2_addClaim   x1 x2 x3 court_shoeCount court_claimCount court_suitCount court_claimWho court_claimAgainst court_claimFact court_claimPlea = some R) : Met l yX2_addClaim (z_X2_addClaim) rm_X2_addClaim (va_Pc [.ref (ad 4), .int x1, .int x2, .int x3] (zPre D cs (wl_X2_addClaim ad cs court_shoeCount court_claimCount court_suitCount court_claimWho court_claimAgainst court_claimFact court_claimPlea) sz)) (Q_X2_addClaim D cs ad court_shoeCount court_suitCount (va_A (wl_X2_addClaim ad cs court_shoeCount court_claimCount court_suitCount court_claimWho court_claimAgainst court_claimFact court_claimPlea) sz) R) 0 0 (va_A (wl_X2_addClaim ad cs court_shoeCount court_claimCount court_suitCount court_claimWho court_claimAgainst court_claimFact court_claimPlea) sz) := by
  refine Met.ofW (cc := cX2_addClaim) (maxL := 4) (ret := (some .int)) (by decide) rfl ?_
  intro p e s m args below meth c s₁ B hml hv
  obtain ⟨rfl, hsz, hP, hK, hD0⟩ := hv
  subst hsz
  have hD := hD0.self (sz := s.heap.size)
  have C0 : zC p s m _ meth c cX2_addClaim 4 (some .int) RX2 zW := ⟨B.exec, B.bytes, B.returns, hml, findClass_of_methodNamed B.named, fun w hw => atoms_spec (ws := z_X2_addClaim) B.pre w (List.mem_cons_of_mem _ hw), B.notSynchronized⟩
  have hA : ∀ q : Nat, s.heap.size ≤ q → va_A (wl_X2_addClaim ad cs court_shoeCount court_claimCount court_suitCount court_claimWho court_claimAgainst court_claimFact court_claimPlea) s.heap.size q := fun q h => Or.inr h
  have hl := lv_entry ([.ref (ad 4), .int x1, .int x2, .int x3]) (n := 4) (Nat.le_of_ble_eq_true rfl)
  rw [lg_entry_eq]
  generalize (lg_sl ([.ref (ad 4), .int x1, .int x2, .int x3]) ++ List.replicate (4 - (lg_sl ([.ref (ad 4), .int x1, .int x2, .int x3])).length) Slot.unset).toArray = ls at hl ⊢
  exact L_X2_addClaim_0 C0 hK hA   x1 x2 x3 court_claimCount court_claimWho court_claimAgainst court_claimFact court_claimPlea h s.heap [] ls hP hD va_S.rf hl
