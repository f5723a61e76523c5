theorem kw_104 : Cond.instanceMethod objectInit ∈ zW := zwI (i := 104) (by decide +kernel) (by decide +kernel)
theorem kw_105 : Cond.code objectInit ⟨#[0xb1]⟩ 1 none ∈ zW := zwI (i := 105) (by decide +kernel) (by decide +kernel)
theorem kw_111 : Cond.methodLink RX2 3 objectInit ∈ zW := zwI (i := 111) (by decide +kernel) (by decide +kernel)
theorem kw_112 : Cond.classLink RX2 36 "AlreadyJudged$Suit" ∈ zW := zwI (i := 112) (by decide +kernel) (by decide +kernel)
theorem kw_114 : Cond.classLink RX2 42 "AlreadyJudged$Law" ∈ zW := zwI (i := 114) (by decide +kernel) (by decide +kernel)
theorem kw_116 : Cond.fieldLink RX2 9 "AlreadyJudged$Court" "shoePerson" "[I" ∈ zW := zwI (i := 116) (by decide +kernel) (by decide +kernel)
theorem kw_119 : Cond.fieldLink RX2 15 "AlreadyJudged$Court" "shoeOther" "[I" ∈ zW := zwI (i := 119) (by decide +kernel) (by decide +kernel)
theorem kw_122 : Cond.fieldLink RX2 18 "AlreadyJudged$Court" "shoeSort" "[I" ∈ zW := zwI (i := 122) (by decide +kernel) (by decide +kernel)
theorem kw_125 : Cond.fieldLink RX2 21 "AlreadyJudged$Court" "shoeDay" "[I" ∈ zW := zwI (i := 125) (by decide +kernel) (by decide +kernel)
theorem kw_129 : Cond.fieldLink RX2 24 "AlreadyJudged$Court" "claimWho" "[I" ∈ zW := zwI (i := 129) (by decide +kernel) (by decide +kernel)
theorem kw_133 : Cond.fieldLink RX2 27 "AlreadyJudged$Court" "claimAgainst" "[I" ∈ zW := zwI (i := 133) (by decide +kernel) (by decide +kernel)
theorem kw_137 : Cond.fieldLink RX2 30 "AlreadyJudged$Court" "claimFact" "[I" ∈ zW := zwI (i := 137) (by decide +kernel) (by decide +kernel)
theorem kw_140 : Cond.fieldLink RX2 33 "AlreadyJudged$Court" "claimPlea" "[I" ∈ zW := zwI (i := 140) (by decide +kernel) (by decide +kernel)
theorem kw_143 : Cond.fieldLink RX2 38 "AlreadyJudged$Court" "suits" "[LAlreadyJudged$Suit;" ∈ zW := zwI (i := 143) (by decide +kernel) (by decide +kernel)
theorem kw_145 : Cond.fieldLink RX2 44 "AlreadyJudged$Court" "laws" "[LAlreadyJudged$Law;" ∈ zW := zwI (i := 145) (by decide +kernel) (by decide +kernel)
theorem kw_184 : Cond.arrayClass .int ∈ zW := zwI (i := 184) (by decide +kernel) (by decide +kernel)
theorem dX2_init_0 : decode cX2_init 0 = .ok (.aload_n 0, 1) := by decide +kernel
theorem dX2_init_1 : decode cX2_init 1 = .ok (.invokespecial 3, 3) := by decide +kernel
theorem dX2_init_4 : decode cX2_init 4 = .ok (.aload_n 0, 1) := by decide +kernel
theorem dX2_init_5 : decode cX2_init 5 = .ok (.bipush 40, 2) := by decide +kernel
theorem dX2_init_7 : decode cX2_init 7 = .ok (.newarray .int, 2) := by decide +kernel
theorem dX2_init_9 : decode cX2_init 9 = .ok (.putfield 9, 3) := by decide +kernel
theorem dX2_init_12 : decode cX2_init 12 = .ok (.aload_n 0, 1) := by decide +kernel
theorem dX2_init_13 : decode cX2_init 13 = .ok (.bipush 40, 2) := by decide +kernel
theorem dX2_init_15 : decode cX2_init 15 = .ok (.newarray .int, 2) := by decide +kernel
theorem dX2_init_17 : decode cX2_init 17 = .ok (.putfield 15, 3) := by decide +kernel
theorem dX2_init_20 : decode cX2_init 20 = .ok (.aload_n 0, 1) := by decide +kernel
theorem dX2_init_21 : decode cX2_init 21 = .ok (.bipush 40, 2) := by decide +kernel
theorem dX2_init_23 : decode cX2_init 23 = .ok (.newarray .int, 2) := by decide +kernel
theorem dX2_init_25 : decode cX2_init 25 = .ok (.putfield 18, 3) := by decide +kernel
theorem dX2_init_28 : decode cX2_init 28 = .ok (.aload_n 0, 1) := by decide +kernel
theorem dX2_init_29 : decode cX2_init 29 = .ok (.bipush 40, 2) := by decide +kernel
theorem dX2_init_31 : decode cX2_init 31 = .ok (.newarray .int, 2) := by decide +kernel
theorem dX2_init_33 : decode cX2_init 33 = .ok (.putfield 21, 3) := by decide +kernel
theorem dX2_init_36 : decode cX2_init 36 = .ok (.aload_n 0, 1) := by decide +kernel
theorem dX2_init_37 : decode cX2_init 37 = .ok (.bipush 32, 2) := by decide +kernel
theorem dX2_init_39 : decode cX2_init 39 = .ok (.newarray .int, 2) := by decide +kernel
theorem dX2_init_41 : decode cX2_init 41 = .ok (.putfield 24, 3) := by decide +kernel
theorem dX2_init_44 : decode cX2_init 44 = .ok (.aload_n 0, 1) := by decide +kernel
theorem dX2_init_45 : decode cX2_init 45 = .ok (.bipush 32, 2) := by decide +kernel
theorem dX2_init_47 : decode cX2_init 47 = .ok (.newarray .int, 2) := by decide +kernel
theorem dX2_init_49 : decode cX2_init 49 = .ok (.putfield 27, 3) := by decide +kernel
theorem dX2_init_52 : decode cX2_init 52 = .ok (.aload_n 0, 1) := by decide +kernel
theorem dX2_init_53 : decode cX2_init 53 = .ok (.bipush 32, 2) := by decide +kernel
theorem dX2_init_55 : decode cX2_init 55 = .ok (.newarray .int, 2) := by decide +kernel
theorem dX2_init_57 : decode cX2_init 57 = .ok (.putfield 30, 3) := by decide +kernel
theorem dX2_init_60 : decode cX2_init 60 = .ok (.aload_n 0, 1) := by decide +kernel
theorem dX2_init_61 : decode cX2_init 61 = .ok (.bipush 32, 2) := by decide +kernel
theorem dX2_init_63 : decode cX2_init 63 = .ok (.newarray .int, 2) := by decide +kernel
theorem dX2_init_65 : decode cX2_init 65 = .ok (.putfield 33, 3) := by decide +kernel
theorem dX2_init_68 : decode cX2_init 68 = .ok (.aload_n 0, 1) := by decide +kernel
theorem dX2_init_69 : decode cX2_init 69 = .ok (.bipush 40, 2) := by decide +kernel
theorem dX2_init_71 : decode cX2_init 71 = .ok (.anewarray 36, 3) := by decide +kernel
theorem dX2_init_74 : decode cX2_init 74 = .ok (.putfield 38, 3) := by decide +kernel
theorem dX2_init_77 : decode cX2_init 77 = .ok (.aload_n 0, 1) := by decide +kernel
theorem dX2_init_78 : decode cX2_init 78 = .ok (.bipush 32, 2) := by decide +kernel
theorem dX2_init_80 : decode cX2_init 80 = .ok (.anewarray 42, 3) := by decide +kernel
theorem dX2_init_83 : decode cX2_init 83 = .ok (.putfield 44, 3) := by decide +kernel
theorem dX2_init_86 : decode cX2_init 86 = .ok (.return_, 1) := by decide +kernel
abbrev z_X2_init : List Cond := .code yX2_init cX2_init 1 none :: zW
abbrev rm_X2_init : Room := { frames := 1, cells := 10, slots := 360, locals := 20 }
set_option maxHeartbeats 4000000 in
set_option maxRecDepth 100000 in
theorem ci_X2_init (l : Launch) (D : va_G) (cs : Nat → ClassId) (h0 : Nat)  (sz : Nat) : Met l yX2_init z_X2_init rm_X2_init (va_Pc [.ref h0] (zPreO D cs [(h0, .inr (2, [.null, .null, .null, .null, .null, .null, .null, .null, .null, .null, .int 0, .int 0, .int 0]))] sz)) (va_Qv (fun _ : Nat → Nat => True) (fun (u : Nat → Nat) (t : State) => va_P D classes [(h0, .inr (2, [.ref (u 0), .ref (u 1), .ref (u 2), .ref (u 3), .ref (u 4), .ref (u 5), .ref (u 6), .ref (u 7), .ref (u 8), .ref (u 9), .int 0, .int 0, .int 0])), ((u 0), .inl (cs 0, 40, .inl (fun _ => 0))), ((u 1), .inl (cs 0, 40, .inl (fun _ => 0))), ((u 2), .inl (cs 0, 40, .inl (fun _ => 0))), ((u 3), .inl (cs 0, 40, .inl (fun _ => 0))), ((u 4), .inl (cs 0, 32, .inl (fun _ => 0))), ((u 5), .inl (cs 0, 32, .inl (fun _ => 0))), ((u 6), .inl (cs 0, 32, .inl (fun _ => 0))), ((u 7), .inl (cs 0, 32, .inl (fun _ => 0))), ((u 8), .inl (cs 5, 40, .inr (.inr (.inr (.inr (fun _ => none)))))), ((u 9), .inl (cs 6, 32, .inr (.inr (.inr (.inr (fun _ => none))))))] t.heap ∧ va_D (va_A [(h0, .inr (2, [.null, .null, .null, .null, .null, .null, .null, .null, .null, .null, .int 0, .int 0, .int 0]))] sz) [(h0, .inr (2, [.ref (u 0), .ref (u 1), .ref (u 2), .ref (u 3), .ref (u 4), .ref (u 5), .ref (u 6), .ref (u 7), .ref (u 8), .ref (u 9), .int 0, .int 0, .int 0])), ((u 0), .inl (cs 0, 40, .inl (fun _ => 0))), ((u 1), .inl (cs 0, 40, .inl (fun _ => 0))), ((u 2), .inl (cs 0, 40, .inl (fun _ => 0))), ((u 3), .inl (cs 0, 40, .inl (fun _ => 0))), ((u 4), .inl (cs 0, 32, .inl (fun _ => 0))), ((u 5), .inl (cs 0, 32, .inl (fun _ => 0))), ((u 6), .inl (cs 0, 32, .inl (fun _ => 0))), ((u 7), .inl (cs 0, 32, .inl (fun _ => 0))), ((u 8), .inl (cs 5, 40, .inr (.inr (.inr (.inr (fun _ => none)))))), ((u 9), .inl (cs 6, 32, .inr (.inr (.inr (.inr (fun _ => none))))))]) (va_A [(h0, .inr (2, [.null, .null, .null, .null, .null, .null, .null, .null, .null, .null, .int 0, .int 0, .int 0]))] sz)) 10 360 (va_A [(h0, .inr (2, [.null, .null, .null, .null, .null, .null, .null, .null, .null, .null, .int 0, .int 0, .int 0]))] sz) := by
  refine Met.ofW (cc := cX2_init) (maxL := 1) (ret := none) (by decide) rfl ?_
  intro p e s m args below meth c s₁ B hml hv
  obtain ⟨rfl, ⟨hsz, hP, hK, hD0⟩, hO⟩ := hv
  subst hsz
  have hD := hD0.self (sz := s.heap.size)
  have hx := B.exec
  have hb := B.bytes
  have hr := B.returns
  have ht : ∀ w ∈ zW, w.before _ s = true := fun w hw => atoms_spec (ws := z_X2_init) B.pre w (List.mem_cons_of_mem _ hw)
  have hown : s.vm.findClass RX2 = some m.cls := findClass_of_methodNamed B.named
  have hlocks := B.notSynchronized
  have hin : meth.name = "<init>" := (name_of_methodNamed B.named B.method).1
  generalize hAe : va_A [(h0, .inr (2, [.null, .null, .null, .null, .null, .null, .null, .null, .null, .null, .int 0, .int 0, .int 0]))] s.heap.size = A at hD ⊢
  have hA : ∀ q : Nat, s.heap.size ≤ q → A q := fun q h => by rw [← hAe]; exact Or.inr h
  have hS : va_S A s.heap s.heap [] := va_S.rf
  have hl := lv_entry ([.ref h0]) (n := 1) (Nat.le_of_ble_eq_true rfl)
  rw [lg_entry_eq]
  generalize (lg_sl ([.ref h0]) ++ List.replicate (1 - (lg_sl ([.ref h0])).length) Slot.unset).toArray = ls at hl ⊢
  obtain ⟨H, hH⟩ : ∃ H, H = s.heap := ⟨_, rfl⟩
  have hS : va_S A s.heap H [] := by rw [hH]; exact va_S.rf
  rw [← hH]
  have hP : va_P D classes [(h0, .inr (2, [.null, .null, .null, .null, .null, .null, .null, .null, .null, .null, .int 0, .int 0, .int 0]))] H := by rw [hH]; exact hP
  clear hH
  refine lv_aload_n hx hb dX2_init_0 rfl (lv_at hl 0 rfl) ?_
  refine W.objInit hx hb hown (ht _ kw_111) (ht _ kw_104) (ht _ kw_105) rfl (by rw [hml]; exact hl.1) rfl dX2_init_1 (Nat.le_of_ble_eq_true rfl) (Nat.le_of_ble_eq_true rfl) ?_
  refine W.eq (g2 := F0 m 4 ls []) rfl ?_
  refine lv_aload_n hx hb dX2_init_4 rfl (lv_at hl 0 rfl) ?_
  refine lv_bipush (v := (40 : Int32)) hx hb dX2_init_5 (by decide) ?_
  refine zk_newa (atype := .int) (ty := .int) (a0 := (40, .inl (fun _ => 0))) (N' := 40) hx hb (ht _ kw_184) rfl hK 0 rfl (by intro C h; cases h) hP hD hS hA (fun _ => rfl) (by decide) (by decide) (Nat.le_of_ble_eq_true rfl) (Nat.le_of_ble_eq_true rfl) (Nat.le_of_ble_eq_true rfl) dX2_init_7 (fun q_0 H hP hD hS => ?_)
  have hP : va_P D classes [(h0, .inr (2, [.null, .null, .null, .null, .null, .null, .null, .null, .null, .null, .int 0, .int 0, .int 0])), (q_0, .inl (cs 0, 40, .inl (fun _ => 0)))] H := hP
  have hD : va_D A [(h0, .inr (2, [.null, .null, .null, .null, .null, .null, .null, .null, .null, .null, .int 0, .int 0, .int 0])), (q_0, .inl (cs 0, 40, .inl (fun _ => 0)))] := hD
  refine va_putF (D := D) (ci := 2) (v := .ref q_0) (ty := .array .int) (C := RX2) (T := TX2) (N := 13) hx hb ht iX2 tyX2 tyX2_ok nmX2 hown hK hP hD hS 0 rfl rfl 0 (by decide) (ht _ kw_116) (fun _ h9 => h9) rfl hin rfl (by decide +kernel) rfl rfl (Nat.le_of_ble_eq_true rfl) dX2_init_9 (fun H locs hP hD hS => ?_)
  have hP : va_P D classes [(h0, .inr (2, [.ref q_0, .null, .null, .null, .null, .null, .null, .null, .null, .null, .int 0, .int 0, .int 0])), (q_0, .inl (cs 0, 40, .inl (fun _ => 0)))] H := hP
  have hD : va_D A [(h0, .inr (2, [.ref q_0, .null, .null, .null, .null, .null, .null, .null, .null, .null, .int 0, .int 0, .int 0])), (q_0, .inl (cs 0, 40, .inl (fun _ => 0)))] := hD
  refine lv_aload_n hx hb dX2_init_12 rfl (lv_at hl 0 rfl) ?_
  refine lv_bipush (v := (40 : Int32)) hx hb dX2_init_13 (by decide) ?_
  refine zk_newa (atype := .int) (ty := .int) (a0 := (40, .inl (fun _ => 0))) (N' := 40) hx hb (ht _ kw_184) rfl hK 0 rfl (by intro C h; cases h) hP hD hS hA (fun _ => rfl) (by decide) (by decide) (Nat.le_of_ble_eq_true rfl) (Nat.le_of_ble_eq_true rfl) (Nat.le_of_ble_eq_true rfl) dX2_init_15 (fun q_1 H hP hD hS => ?_)
  have hP : va_P D classes [(h0, .inr (2, [.ref q_0, .null, .null, .null, .null, .null, .null, .null, .null, .null, .int 0, .int 0, .int 0])), (q_0, .inl (cs 0, 40, .inl (fun _ => 0))), (q_1, .inl (cs 0, 40, .inl (fun _ => 0)))] H := hP
  have hD : va_D A [(h0, .inr (2, [.ref q_0, .null, .null, .null, .null, .null, .null, .null, .null, .null, .int 0, .int 0, .int 0])), (q_0, .inl (cs 0, 40, .inl (fun _ => 0))), (q_1, .inl (cs 0, 40, .inl (fun _ => 0)))] := hD
  refine va_putF (D := D) (ci := 2) (v := .ref q_1) (ty := .array .int) (C := RX2) (T := TX2) (N := 13) hx hb ht iX2 tyX2 tyX2_ok nmX2 hown hK hP hD hS 0 rfl rfl 1 (by decide) (ht _ kw_119) (fun _ h9 => h9) rfl hin rfl (by decide +kernel) rfl rfl (Nat.le_of_ble_eq_true rfl) dX2_init_17 (fun H locs hP hD hS => ?_)
  have hP : va_P D classes [(h0, .inr (2, [.ref q_0, .ref q_1, .null, .null, .null, .null, .null, .null, .null, .null, .int 0, .int 0, .int 0])), (q_0, .inl (cs 0, 40, .inl (fun _ => 0))), (q_1, .inl (cs 0, 40, .inl (fun _ => 0)))] H := hP
  have hD : va_D A [(h0, .inr (2, [.ref q_0, .ref q_1, .null, .null, .null, .null, .null, .null, .null, .null, .int 0, .int 0, .int 0])), (q_0, .inl (cs 0, 40, .inl (fun _ => 0))), (q_1, .inl (cs 0, 40, .inl (fun _ => 0)))] := hD
  refine lv_aload_n hx hb dX2_init_20 rfl (lv_at hl 0 rfl) ?_
  refine lv_bipush (v := (40 : Int32)) hx hb dX2_init_21 (by decide) ?_
  refine zk_newa (atype := .int) (ty := .int) (a0 := (40, .inl (fun _ => 0))) (N' := 40) hx hb (ht _ kw_184) rfl hK 0 rfl (by intro C h; cases h) hP hD hS hA (fun _ => rfl) (by decide) (by decide) (Nat.le_of_ble_eq_true rfl) (Nat.le_of_ble_eq_true rfl) (Nat.le_of_ble_eq_true rfl) dX2_init_23 (fun q_2 H hP hD hS => ?_)
  have hP : va_P D classes [(h0, .inr (2, [.ref q_0, .ref q_1, .null, .null, .null, .null, .null, .null, .null, .null, .int 0, .int 0, .int 0])), (q_0, .inl (cs 0, 40, .inl (fun _ => 0))), (q_1, .inl (cs 0, 40, .inl (fun _ => 0))), (q_2, .inl (cs 0, 40, .inl (fun _ => 0)))] H := hP
  have hD : va_D A [(h0, .inr (2, [.ref q_0, .ref q_1, .null, .null, .null, .null, .null, .null, .null, .null, .int 0, .int 0, .int 0])), (q_0, .inl (cs 0, 40, .inl (fun _ => 0))), (q_1, .inl (cs 0, 40, .inl (fun _ => 0))), (q_2, .inl (cs 0, 40, .inl (fun _ => 0)))] := hD
  refine va_putF (D := D) (ci := 2) (v := .ref q_2) (ty := .array .int) (C := RX2) (T := TX2) (N := 13) hx hb ht iX2 tyX2 tyX2_ok nmX2 hown hK hP hD hS 0 rfl rfl 2 (by decide) (ht _ kw_122) (fun _ h9 => h9) rfl hin rfl (by decide +kernel) rfl rfl (Nat.le_of_ble_eq_true rfl) dX2_init_25 (fun H locs hP hD hS => ?_)
  have hP : va_P D classes [(h0, .inr (2, [.ref q_0, .ref q_1, .ref q_2, .null, .null, .null, .null, .null, .null, .null, .int 0, .int 0, .int 0])), (q_0, .inl (cs 0, 40, .inl (fun _ => 0))), (q_1, .inl (cs 0, 40, .inl (fun _ => 0))), (q_2, .inl (cs 0, 40, .inl (fun _ => 0)))] H := hP
  have hD : va_D A [(h0, .inr (2, [.ref q_0, .ref q_1, .ref q_2, .null, .null, .null, .null, .null, .null, .null, .int 0, .int 0, .int 0])), (q_0, .inl (cs 0, 40, .inl (fun _ => 0))), (q_1, .inl (cs 0, 40, .inl (fun _ => 0))), (q_2, .inl (cs 0, 40, .inl (fun _ => 0)))] := hD
  refine lv_aload_n hx hb dX2_init_28 rfl (lv_at hl 0 rfl) ?_
  refine lv_bipush (v := (40 : Int32)) hx hb dX2_init_29 (by decide) ?_
  refine zk_newa (atype := .int) (ty := .int) (a0 := (40, .inl (fun _ => 0))) (N' := 40) hx hb (ht _ kw_184) rfl hK 0 rfl (by intro C h; cases h) hP hD hS hA (fun _ => rfl) (by decide) (by decide) (Nat.le_of_ble_eq_true rfl) (Nat.le_of_ble_eq_true rfl) (Nat.le_of_ble_eq_true rfl) dX2_init_31 (fun q_3 H hP hD hS => ?_)
  have hP : va_P D classes [(h0, .inr (2, [.ref q_0, .ref q_1, .ref q_2, .null, .null, .null, .null, .null, .null, .null, .int 0, .int 0, .int 0])), (q_0, .inl (cs 0, 40, .inl (fun _ => 0))), (q_1, .inl (cs 0, 40, .inl (fun _ => 0))), (q_2, .inl (cs 0, 40, .inl (fun _ => 0))), (q_3, .inl (cs 0, 40, .inl (fun _ => 0)))] H := hP
  have hD : va_D A [(h0, .inr (2, [.ref q_0, .ref q_1, .ref q_2, .null, .null, .null, .null, .null, .null, .null, .int 0, .int 0, .int 0])), (q_0, .inl (cs 0, 40, .inl (fun _ => 0))), (q_1, .inl (cs 0, 40, .inl (fun _ => 0))), (q_2, .inl (cs 0, 40, .inl (fun _ => 0))), (q_3, .inl (cs 0, 40, .inl (fun _ => 0)))] := hD
  refine va_putF (D := D) (ci := 2) (v := .ref q_3) (ty := .array .int) (C := RX2) (T := TX2) (N := 13) hx hb ht iX2 tyX2 tyX2_ok nmX2 hown hK hP hD hS 0 rfl rfl 3 (by decide) (ht _ kw_125) (fun _ h9 => h9) rfl hin rfl (by decide +kernel) rfl rfl (Nat.le_of_ble_eq_true rfl) dX2_init_33 (fun H locs hP hD hS => ?_)
  have hP : va_P D classes [(h0, .inr (2, [.ref q_0, .ref q_1, .ref q_2, .ref q_3, .null, .null, .null, .null, .null, .null, .int 0, .int 0, .int 0])), (q_0, .inl (cs 0, 40, .inl (fun _ => 0))), (q_1, .inl (cs 0, 40, .inl (fun _ => 0))), (q_2, .inl (cs 0, 40, .inl (fun _ => 0))), (q_3, .inl (cs 0, 40, .inl (fun _ => 0)))] H := hP
  have hD : va_D A [(h0, .inr (2, [.ref q_0, .ref q_1, .ref q_2, .ref q_3, .null, .null, .null, .null, .null, .null, .int 0, .int 0, .int 0])), (q_0, .inl (cs 0, 40, .inl (fun _ => 0))), (q_1, .inl (cs 0, 40, .inl (fun _ => 0))), (q_2, .inl (cs 0, 40, .inl (fun _ => 0))), (q_3, .inl (cs 0, 40, .inl (fun _ => 0)))] := hD
  refine lv_aload_n hx hb dX2_init_36 rfl (lv_at hl 0 rfl) ?_
  refine lv_bipush (v := (32 : Int32)) hx hb dX2_init_37 (by decide) ?_
  refine zk_newa (atype := .int) (ty := .int) (a0 := (32, .inl (fun _ => 0))) (N' := 32) hx hb (ht _ kw_184) rfl hK 0 rfl (by intro C h; cases h) hP hD hS hA (fun _ => rfl) (by decide) (by decide) (Nat.le_of_ble_eq_true rfl) (Nat.le_of_ble_eq_true rfl) (Nat.le_of_ble_eq_true rfl) dX2_init_39 (fun q_4 H hP hD hS => ?_)
  have hP : va_P D classes [(h0, .inr (2, [.ref q_0, .ref q_1, .ref q_2, .ref q_3, .null, .null, .null, .null, .null, .null, .int 0, .int 0, .int 0])), (q_0, .inl (cs 0, 40, .inl (fun _ => 0))), (q_1, .inl (cs 0, 40, .inl (fun _ => 0))), (q_2, .inl (cs 0, 40, .inl (fun _ => 0))), (q_3, .inl (cs 0, 40, .inl (fun _ => 0))), (q_4, .inl (cs 0, 32, .inl (fun _ => 0)))] H := hP
  have hD : va_D A [(h0, .inr (2, [.ref q_0, .ref q_1, .ref q_2, .ref q_3, .null, .null, .null, .null, .null, .null, .int 0, .int 0, .int 0])), (q_0, .inl (cs 0, 40, .inl (fun _ => 0))), (q_1, .inl (cs 0, 40, .inl (fun _ => 0))), (q_2, .inl (cs 0, 40, .inl (fun _ => 0))), (q_3, .inl (cs 0, 40, .inl (fun _ => 0))), (q_4, .inl (cs 0, 32, .inl (fun _ => 0)))] := hD
  refine va_putF (D := D) (ci := 2) (v := .ref q_4) (ty := .array .int) (C := RX2) (T := TX2) (N := 13) hx hb ht iX2 tyX2 tyX2_ok nmX2 hown hK hP hD hS 0 rfl rfl 4 (by decide) (ht _ kw_129) (fun _ h9 => h9) rfl hin rfl (by decide +kernel) rfl rfl (Nat.le_of_ble_eq_true rfl) dX2_init_41 (fun H locs hP hD hS => ?_)
  have hP : va_P D classes [(h0, .inr (2, [.ref q_0, .ref q_1, .ref q_2, .ref q_3, .ref q_4, .null, .null, .null, .null, .null, .int 0, .int 0, .int 0])), (q_0, .inl (cs 0, 40, .inl (fun _ => 0))), (q_1, .inl (cs 0, 40, .inl (fun _ => 0))), (q_2, .inl (cs 0, 40, .inl (fun _ => 0))), (q_3, .inl (cs 0, 40, .inl (fun _ => 0))), (q_4, .inl (cs 0, 32, .inl (fun _ => 0)))] H := hP
  have hD : va_D A [(h0, .inr (2, [.ref q_0, .ref q_1, .ref q_2, .ref q_3, .ref q_4, .null, .null, .null, .null, .null, .int 0, .int 0, .int 0])), (q_0, .inl (cs 0, 40, .inl (fun _ => 0))), (q_1, .inl (cs 0, 40, .inl (fun _ => 0))), (q_2, .inl (cs 0, 40, .inl (fun _ => 0))), (q_3, .inl (cs 0, 40, .inl (fun _ => 0))), (q_4, .inl (cs 0, 32, .inl (fun _ => 0)))] := hD
  refine lv_aload_n hx hb dX2_init_44 rfl (lv_at hl 0 rfl) ?_
  refine lv_bipush (v := (32 : Int32)) hx hb dX2_init_45 (by decide) ?_
  refine zk_newa (atype := .int) (ty := .int) (a0 := (32, .inl (fun _ => 0))) (N' := 32) hx hb (ht _ kw_184) rfl hK 0 rfl (by intro C h; cases h) hP hD hS hA (fun _ => rfl) (by decide) (by decide) (Nat.le_of_ble_eq_true rfl) (Nat.le_of_ble_eq_true rfl) (Nat.le_of_ble_eq_true rfl) dX2_init_47 (fun q_5 H hP hD hS => ?_)
  have hP : va_P D classes [(h0, .inr (2, [.ref q_0, .ref q_1, .ref q_2, .ref q_3, .ref q_4, .null, .null, .null, .null, .null, .int 0, .int 0, .int 0])), (q_0, .inl (cs 0, 40, .inl (fun _ => 0))), (q_1, .inl (cs 0, 40, .inl (fun _ => 0))), (q_2, .inl (cs 0, 40, .inl (fun _ => 0))), (q_3, .inl (cs 0, 40, .inl (fun _ => 0))), (q_4, .inl (cs 0, 32, .inl (fun _ => 0))), (q_5, .inl (cs 0, 32, .inl (fun _ => 0)))] H := hP
  have hD : va_D A [(h0, .inr (2, [.ref q_0, .ref q_1, .ref q_2, .ref q_3, .ref q_4, .null, .null, .null, .null, .null, .int 0, .int 0, .int 0])), (q_0, .inl (cs 0, 40, .inl (fun _ => 0))), (q_1, .inl (cs 0, 40, .inl (fun _ => 0))), (q_2, .inl (cs 0, 40, .inl (fun _ => 0))), (q_3, .inl (cs 0, 40, .inl (fun _ => 0))), (q_4, .inl (cs 0, 32, .inl (fun _ => 0))), (q_5, .inl (cs 0, 32, .inl (fun _ => 0)))] := hD
  refine va_putF (D := D) (ci := 2) (v := .ref q_5) (ty := .array .int) (C := RX2) (T := TX2) (N := 13) hx hb ht iX2 tyX2 tyX2_ok nmX2 hown hK hP hD hS 0 rfl rfl 5 (by decide) (ht _ kw_133) (fun _ h9 => h9) rfl hin rfl (by decide +kernel) rfl rfl (Nat.le_of_ble_eq_true rfl) dX2_init_49 (fun H locs hP hD hS => ?_)
  have hP : va_P D classes [(h0, .inr (2, [.ref q_0, .ref q_1, .ref q_2, .ref q_3, .ref q_4, .ref q_5, .null, .null, .null, .null, .int 0, .int 0, .int 0])), (q_0, .inl (cs 0, 40, .inl (fun _ => 0))), (q_1, .inl (cs 0, 40, .inl (fun _ => 0))), (q_2, .inl (cs 0, 40, .inl (fun _ => 0))), (q_3, .inl (cs 0, 40, .inl (fun _ => 0))), (q_4, .inl (cs 0, 32, .inl (fun _ => 0))), (q_5, .inl (cs 0, 32, .inl (fun _ => 0)))] H := hP
  have hD : va_D A [(h0, .inr (2, [.ref q_0, .ref q_1, .ref q_2, .ref q_3, .ref q_4, .ref q_5, .null, .null, .null, .null, .int 0, .int 0, .int 0])), (q_0, .inl (cs 0, 40, .inl (fun _ => 0))), (q_1, .inl (cs 0, 40, .inl (fun _ => 0))), (q_2, .inl (cs 0, 40, .inl (fun _ => 0))), (q_3, .inl (cs 0, 40, .inl (fun _ => 0))), (q_4, .inl (cs 0, 32, .inl (fun _ => 0))), (q_5, .inl (cs 0, 32, .inl (fun _ => 0)))] := hD
  refine lv_aload_n hx hb dX2_init_52 rfl (lv_at hl 0 rfl) ?_
  refine lv_bipush (v := (32 : Int32)) hx hb dX2_init_53 (by decide) ?_
  refine zk_newa (atype := .int) (ty := .int) (a0 := (32, .inl (fun _ => 0))) (N' := 32) hx hb (ht _ kw_184) rfl hK 0 rfl (by intro C h; cases h) hP hD hS hA (fun _ => rfl) (by decide) (by decide) (Nat.le_of_ble_eq_true rfl) (Nat.le_of_ble_eq_true rfl) (Nat.le_of_ble_eq_true rfl) dX2_init_55 (fun q_6 H hP hD hS => ?_)
  have hP : va_P D classes [(h0, .inr (2, [.ref q_0, .ref q_1, .ref q_2, .ref q_3, .ref q_4, .ref q_5, .null, .null, .null, .null, .int 0, .int 0, .int 0])), (q_0, .inl (cs 0, 40, .inl (fun _ => 0))), (q_1, .inl (cs 0, 40, .inl (fun _ => 0))), (q_2, .inl (cs 0, 40, .inl (fun _ => 0))), (q_3, .inl (cs 0, 40, .inl (fun _ => 0))), (q_4, .inl (cs 0, 32, .inl (fun _ => 0))), (q_5, .inl (cs 0, 32, .inl (fun _ => 0))), (q_6, .inl (cs 0, 32, .inl (fun _ => 0)))] H := hP
  have hD : va_D A [(h0, .inr (2, [.ref q_0, .ref q_1, .ref q_2, .ref q_3, .ref q_4, .ref q_5, .null, .null, .null, .null, .int 0, .int 0, .int 0])), (q_0, .inl (cs 0, 40, .inl (fun _ => 0))), (q_1, .inl (cs 0, 40, .inl (fun _ => 0))), (q_2, .inl (cs 0, 40, .inl (fun _ => 0))), (q_3, .inl (cs 0, 40, .inl (fun _ => 0))), (q_4, .inl (cs 0, 32, .inl (fun _ => 0))), (q_5, .inl (cs 0, 32, .inl (fun _ => 0))), (q_6, .inl (cs 0, 32, .inl (fun _ => 0)))] := hD
  refine va_putF (D := D) (ci := 2) (v := .ref q_6) (ty := .array .int) (C := RX2) (T := TX2) (N := 13) hx hb ht iX2 tyX2 tyX2_ok nmX2 hown hK hP hD hS 0 rfl rfl 6 (by decide) (ht _ kw_137) (fun _ h9 => h9) rfl hin rfl (by decide +kernel) rfl rfl (Nat.le_of_ble_eq_true rfl) dX2_init_57 (fun H locs hP hD hS => ?_)
  have hP : va_P D classes [(h0, .inr (2, [.ref q_0, .ref q_1, .ref q_2, .ref q_3, .ref q_4, .ref q_5, .ref q_6, .null, .null, .null, .int 0, .int 0, .int 0])), (q_0, .inl (cs 0, 40, .inl (fun _ => 0))), (q_1, .inl (cs 0, 40, .inl (fun _ => 0))), (q_2, .inl (cs 0, 40, .inl (fun _ => 0))), (q_3, .inl (cs 0, 40, .inl (fun _ => 0))), (q_4, .inl (cs 0, 32, .inl (fun _ => 0))), (q_5, .inl (cs 0, 32, .inl (fun _ => 0))), (q_6, .inl (cs 0, 32, .inl (fun _ => 0)))] H := hP
  have hD : va_D A [(h0, .inr (2, [.ref q_0, .ref q_1, .ref q_2, .ref q_3, .ref q_4, .ref q_5, .ref q_6, .null, .null, .null, .int 0, .int 0, .int 0])), (q_0, .inl (cs 0, 40, .inl (fun _ => 0))), (q_1, .inl (cs 0, 40, .inl (fun _ => 0))), (q_2, .inl (cs 0, 40, .inl (fun _ => 0))), (q_3, .inl (cs 0, 40, .inl (fun _ => 0))), (q_4, .inl (cs 0, 32, .inl (fun _ => 0))), (q_5, .inl (cs 0, 32, .inl (fun _ => 0))), (q_6, .inl (cs 0, 32, .inl (fun _ => 0)))] := hD
  refine lv_aload_n hx hb dX2_init_60 rfl (lv_at hl 0 rfl) ?_
  refine lv_bipush (v := (32 : Int32)) hx hb dX2_init_61 (by decide) ?_
  refine zk_newa (atype := .int) (ty := .int) (a0 := (32, .inl (fun _ => 0))) (N' := 32) hx hb (ht _ kw_184) rfl hK 0 rfl (by intro C h; cases h) hP hD hS hA (fun _ => rfl) (by decide) (by decide) (Nat.le_of_ble_eq_true rfl) (Nat.le_of_ble_eq_true rfl) (Nat.le_of_ble_eq_true rfl) dX2_init_63 (fun q_7 H hP hD hS => ?_)
  have hP : va_P D classes [(h0, .inr (2, [.ref q_0, .ref q_1, .ref q_2, .ref q_3, .ref q_4, .ref q_5, .ref q_6, .null, .null, .null, .int 0, .int 0, .int 0])), (q_0, .inl (cs 0, 40, .inl (fun _ => 0))), (q_1, .inl (cs 0, 40, .inl (fun _ => 0))), (q_2, .inl (cs 0, 40, .inl (fun _ => 0))), (q_3, .inl (cs 0, 40, .inl (fun _ => 0))), (q_4, .inl (cs 0, 32, .inl (fun _ => 0))), (q_5, .inl (cs 0, 32, .inl (fun _ => 0))), (q_6, .inl (cs 0, 32, .inl (fun _ => 0))), (q_7, .inl (cs 0, 32, .inl (fun _ => 0)))] H := hP
  have hD : va_D A [(h0, .inr (2, [.ref q_0, .ref q_1, .ref q_2, .ref q_3, .ref q_4, .ref q_5, .ref q_6, .null, .null, .null, .int 0, .int 0, .int 0])), (q_0, .inl (cs 0, 40, .inl (fun _ => 0))), (q_1, .inl (cs 0, 40, .inl (fun _ => 0))), (q_2, .inl (cs 0, 40, .inl (fun _ => 0))), (q_3, .inl (cs 0, 40, .inl (fun _ => 0))), (q_4, .inl (cs 0, 32, .inl (fun _ => 0))), (q_5, .inl (cs 0, 32, .inl (fun _ => 0))), (q_6, .inl (cs 0, 32, .inl (fun _ => 0))), (q_7, .inl (cs 0, 32, .inl (fun _ => 0)))] := hD
  refine va_putF (D := D) (ci := 2) (v := .ref q_7) (ty := .array .int) (C := RX2) (T := TX2) (N := 13) hx hb ht iX2 tyX2 tyX2_ok nmX2 hown hK hP hD hS 0 rfl rfl 7 (by decide) (ht _ kw_140) (fun _ h9 => h9) rfl hin rfl (by decide +kernel) rfl rfl (Nat.le_of_ble_eq_true rfl) dX2_init_65 (fun H locs hP hD hS => ?_)
  have hP : va_P D classes [(h0, .inr (2, [.ref q_0, .ref q_1, .ref q_2, .ref q_3, .ref q_4, .ref q_5, .ref q_6, .ref q_7, .null, .null, .int 0, .int 0, .int 0])), (q_0, .inl (cs 0, 40, .inl (fun _ => 0))), (q_1, .inl (cs 0, 40, .inl (fun _ => 0))), (q_2, .inl (cs 0, 40, .inl (fun _ => 0))), (q_3, .inl (cs 0, 40, .inl (fun _ => 0))), (q_4, .inl (cs 0, 32, .inl (fun _ => 0))), (q_5, .inl (cs 0, 32, .inl (fun _ => 0))), (q_6, .inl (cs 0, 32, .inl (fun _ => 0))), (q_7, .inl (cs 0, 32, .inl (fun _ => 0)))] H := hP
  have hD : va_D A [(h0, .inr (2, [.ref q_0, .ref q_1, .ref q_2, .ref q_3, .ref q_4, .ref q_5, .ref q_6, .ref q_7, .null, .null, .int 0, .int 0, .int 0])), (q_0, .inl (cs 0, 40, .inl (fun _ => 0))), (q_1, .inl (cs 0, 40, .inl (fun _ => 0))), (q_2, .inl (cs 0, 40, .inl (fun _ => 0))), (q_3, .inl (cs 0, 40, .inl (fun _ => 0))), (q_4, .inl (cs 0, 32, .inl (fun _ => 0))), (q_5, .inl (cs 0, 32, .inl (fun _ => 0))), (q_6, .inl (cs 0, 32, .inl (fun _ => 0))), (q_7, .inl (cs 0, 32, .inl (fun _ => 0)))] := hD
  refine lv_aload_n hx hb dX2_init_68 rfl (lv_at hl 0 rfl) ?_
  refine lv_bipush (v := (40 : Int32)) hx hb dX2_init_69 (by decide) ?_
  refine zk_newq (C := "AlreadyJudged$Suit") (N' := 40) hx hb hown (ht _ kw_112) hO.1 hK 5 rfl hP hD hS hA (by decide) (by decide) (Nat.le_of_ble_eq_true rfl) (Nat.le_of_ble_eq_true rfl) (Nat.le_of_ble_eq_true rfl) dX2_init_71 (fun q_8 H hP hD hS => ?_)
  have hP : va_P D classes [(h0, .inr (2, [.ref q_0, .ref q_1, .ref q_2, .ref q_3, .ref q_4, .ref q_5, .ref q_6, .ref q_7, .null, .null, .int 0, .int 0, .int 0])), (q_0, .inl (cs 0, 40, .inl (fun _ => 0))), (q_1, .inl (cs 0, 40, .inl (fun _ => 0))), (q_2, .inl (cs 0, 40, .inl (fun _ => 0))), (q_3, .inl (cs 0, 40, .inl (fun _ => 0))), (q_4, .inl (cs 0, 32, .inl (fun _ => 0))), (q_5, .inl (cs 0, 32, .inl (fun _ => 0))), (q_6, .inl (cs 0, 32, .inl (fun _ => 0))), (q_7, .inl (cs 0, 32, .inl (fun _ => 0))), (q_8, .inl (cs 5, 40, .inr (.inr (.inr (.inr (fun _ => none))))))] H := hP
  have hD : va_D A [(h0, .inr (2, [.ref q_0, .ref q_1, .ref q_2, .ref q_3, .ref q_4, .ref q_5, .ref q_6, .ref q_7, .null, .null, .int 0, .int 0, .int 0])), (q_0, .inl (cs 0, 40, .inl (fun _ => 0))), (q_1, .inl (cs 0, 40, .inl (fun _ => 0))), (q_2, .inl (cs 0, 40, .inl (fun _ => 0))), (q_3, .inl (cs 0, 40, .inl (fun _ => 0))), (q_4, .inl (cs 0, 32, .inl (fun _ => 0))), (q_5, .inl (cs 0, 32, .inl (fun _ => 0))), (q_6, .inl (cs 0, 32, .inl (fun _ => 0))), (q_7, .inl (cs 0, 32, .inl (fun _ => 0))), (q_8, .inl (cs 5, 40, .inr (.inr (.inr (.inr (fun _ => none))))))] := hD
  refine va_putF (D := D) (ci := 2) (v := .ref q_8) (ty := .array (.object "AlreadyJudged$Suit")) (C := RX2) (T := TX2) (N := 13) hx hb ht iX2 tyX2 tyX2_ok nmX2 hown hK hP hD hS 0 rfl rfl 8 (by decide) (ht _ kw_143) (fun _ h9 => h9) rfl hin rfl (by decide +kernel) rfl rfl (Nat.le_of_ble_eq_true rfl) dX2_init_74 (fun H locs hP hD hS => ?_)
  have hP : va_P D classes [(h0, .inr (2, [.ref q_0, .ref q_1, .ref q_2, .ref q_3, .ref q_4, .ref q_5, .ref q_6, .ref q_7, .ref q_8, .null, .int 0, .int 0, .int 0])), (q_0, .inl (cs 0, 40, .inl (fun _ => 0))), (q_1, .inl (cs 0, 40, .inl (fun _ => 0))), (q_2, .inl (cs 0, 40, .inl (fun _ => 0))), (q_3, .inl (cs 0, 40, .inl (fun _ => 0))), (q_4, .inl (cs 0, 32, .inl (fun _ => 0))), (q_5, .inl (cs 0, 32, .inl (fun _ => 0))), (q_6, .inl (cs 0, 32, .inl (fun _ => 0))), (q_7, .inl (cs 0, 32, .inl (fun _ => 0))), (q_8, .inl (cs 5, 40, .inr (.inr (.inr (.inr (fun _ => none))))))] H := hP
  have hD : va_D A [(h0, .inr (2, [.ref q_0, .ref q_1, .ref q_2, .ref q_3, .ref q_4, .ref q_5, .ref q_6, .ref q_7, .ref q_8, .null, .int 0, .int 0, .int 0])), (q_0, .inl (cs 0, 40, .inl (fun _ => 0))), (q_1, .inl (cs 0, 40, .inl (fun _ => 0))), (q_2, .inl (cs 0, 40, .inl (fun _ => 0))), (q_3, .inl (cs 0, 40, .inl (fun _ => 0))), (q_4, .inl (cs 0, 32, .inl (fun _ => 0))), (q_5, .inl (cs 0, 32, .inl (fun _ => 0))), (q_6, .inl (cs 0, 32, .inl (fun _ => 0))), (q_7, .inl (cs 0, 32, .inl (fun _ => 0))), (q_8, .inl (cs 5, 40, .inr (.inr (.inr (.inr (fun _ => none))))))] := hD
  refine lv_aload_n hx hb dX2_init_77 rfl (lv_at hl 0 rfl) ?_
  refine lv_bipush (v := (32 : Int32)) hx hb dX2_init_78 (by decide) ?_
  refine zk_newq (C := "AlreadyJudged$Law") (N' := 32) hx hb hown (ht _ kw_114) hO.2.1 hK 6 rfl hP hD hS hA (by decide) (by decide) (Nat.le_of_ble_eq_true rfl) (Nat.le_of_ble_eq_true rfl) (Nat.le_of_ble_eq_true rfl) dX2_init_80 (fun q_9 H hP hD hS => ?_)
  have hP : va_P D classes [(h0, .inr (2, [.ref q_0, .ref q_1, .ref q_2, .ref q_3, .ref q_4, .ref q_5, .ref q_6, .ref q_7, .ref q_8, .null, .int 0, .int 0, .int 0])), (q_0, .inl (cs 0, 40, .inl (fun _ => 0))), (q_1, .inl (cs 0, 40, .inl (fun _ => 0))), (q_2, .inl (cs 0, 40, .inl (fun _ => 0))), (q_3, .inl (cs 0, 40, .inl (fun _ => 0))), (q_4, .inl (cs 0, 32, .inl (fun _ => 0))), (q_5, .inl (cs 0, 32, .inl (fun _ => 0))), (q_6, .inl (cs 0, 32, .inl (fun _ => 0))), (q_7, .inl (cs 0, 32, .inl (fun _ => 0))), (q_8, .inl (cs 5, 40, .inr (.inr (.inr (.inr (fun _ => none)))))), (q_9, .inl (cs 6, 32, .inr (.inr (.inr (.inr (fun _ => none))))))] H := hP
  have hD : va_D A [(h0, .inr (2, [.ref q_0, .ref q_1, .ref q_2, .ref q_3, .ref q_4, .ref q_5, .ref q_6, .ref q_7, .ref q_8, .null, .int 0, .int 0, .int 0])), (q_0, .inl (cs 0, 40, .inl (fun _ => 0))), (q_1, .inl (cs 0, 40, .inl (fun _ => 0))), (q_2, .inl (cs 0, 40, .inl (fun _ => 0))), (q_3, .inl (cs 0, 40, .inl (fun _ => 0))), (q_4, .inl (cs 0, 32, .inl (fun _ => 0))), (q_5, .inl (cs 0, 32, .inl (fun _ => 0))), (q_6, .inl (cs 0, 32, .inl (fun _ => 0))), (q_7, .inl (cs 0, 32, .inl (fun _ => 0))), (q_8, .inl (cs 5, 40, .inr (.inr (.inr (.inr (fun _ => none)))))), (q_9, .inl (cs 6, 32, .inr (.inr (.inr (.inr (fun _ => none))))))] := hD
  refine va_putF (D := D) (ci := 2) (v := .ref q_9) (ty := .array (.object "AlreadyJudged$Law")) (C := RX2) (T := TX2) (N := 13) hx hb ht iX2 tyX2 tyX2_ok nmX2 hown hK hP hD hS 0 rfl rfl 9 (by decide) (ht _ kw_145) (fun _ h9 => h9) rfl hin rfl (by decide +kernel) rfl rfl (Nat.le_of_ble_eq_true rfl) dX2_init_83 (fun H locs hP hD hS => ?_)
  have hP : va_P D classes [(h0, .inr (2, [.ref q_0, .ref q_1, .ref q_2, .ref q_3, .ref q_4, .ref q_5, .ref q_6, .ref q_7, .ref q_8, .ref q_9, .int 0, .int 0, .int 0])), (q_0, .inl (cs 0, 40, .inl (fun _ => 0))), (q_1, .inl (cs 0, 40, .inl (fun _ => 0))), (q_2, .inl (cs 0, 40, .inl (fun _ => 0))), (q_3, .inl (cs 0, 40, .inl (fun _ => 0))), (q_4, .inl (cs 0, 32, .inl (fun _ => 0))), (q_5, .inl (cs 0, 32, .inl (fun _ => 0))), (q_6, .inl (cs 0, 32, .inl (fun _ => 0))), (q_7, .inl (cs 0, 32, .inl (fun _ => 0))), (q_8, .inl (cs 5, 40, .inr (.inr (.inr (.inr (fun _ => none)))))), (q_9, .inl (cs 6, 32, .inr (.inr (.inr (.inr (fun _ => none))))))] H := hP
  have hD : va_D A [(h0, .inr (2, [.ref q_0, .ref q_1, .ref q_2, .ref q_3, .ref q_4, .ref q_5, .ref q_6, .ref q_7, .ref q_8, .ref q_9, .int 0, .int 0, .int 0])), (q_0, .inl (cs 0, 40, .inl (fun _ => 0))), (q_1, .inl (cs 0, 40, .inl (fun _ => 0))), (q_2, .inl (cs 0, 40, .inl (fun _ => 0))), (q_3, .inl (cs 0, 40, .inl (fun _ => 0))), (q_4, .inl (cs 0, 32, .inl (fun _ => 0))), (q_5, .inl (cs 0, 32, .inl (fun _ => 0))), (q_6, .inl (cs 0, 32, .inl (fun _ => 0))), (q_7, .inl (cs 0, 32, .inl (fun _ => 0))), (q_8, .inl (cs 5, 40, .inr (.inr (.inr (.inr (fun _ => none)))))), (q_9, .inl (cs 6, 32, .inr (.inr (.inr (.inr (fun _ => none))))))] := hD
  refine W.widen (k := 10) (n := 360) (Nat.le_of_ble_eq_true rfl) (Nat.le_of_ble_eq_true rfl) ?_
  exact W.vret hx hb hr (fun t ht2 hW => ⟨⟨fun k => [q_0, q_1, q_2, q_3, q_4, q_5, q_6, q_7, q_8, q_9].getD k 0, rfl, trivial, by rw [ht2]; exact hP, hD⟩, hS.F ht2⟩) hS.2.2 dX2_init_86 hlocks
theorem kw_234 : Cond.methodLink RX9 3 objectInit ∈ zW := zwI (i := 234) (by decide +kernel) (by decide +kernel)
theorem kw_235 : Cond.fieldLink RX9 9 "AlreadyJudged$Tape" "bytes" "[I" ∈ zW := zwI (i := 235) (by decide +kernel) (by decide +kernel)
theorem dX9_init_0 : decode cX9_init 0 = .ok (.aload_n 0, 1) := by decide +kernel
theorem dX9_init_1 : decode cX9_init 1 = .ok (.invokespecial 3, 3) := by decide +kernel
theorem dX9_init_4 : decode cX9_init 4 = .ok (.aload_n 0, 1) := by decide +kernel
theorem dX9_init_5 : decode cX9_init 5 = .ok (.bipush 120, 2) := by decide +kernel
theorem dX9_init_7 : decode cX9_init 7 = .ok (.newarray .int, 2) := by decide +kernel
theorem dX9_init_9 : decode cX9_init 9 = .ok (.putfield 9, 3) := by decide +kernel
theorem dX9_init_12 : decode cX9_init 12 = .ok (.return_, 1) := by decide +kernel
abbrev z_X9_init : List Cond := .code yX9_init cX9_init 1 none :: zW
abbrev rm_X9_init : Room := { frames := 1, cells := 1, slots := 120, locals := 20 }
set_option maxHeartbeats 4000000 in
set_option maxRecDepth 100000 in
theorem ci_X9_init (l : Launch) (D : va_G) (cs : Nat → ClassId) (h0 : Nat)  (sz : Nat) : Met l yX9_init z_X9_init rm_X9_init (va_Pc [.ref h0] (zPre D cs [(h0, .inr (9, [.null, .int 0]))] sz)) (va_Qv (fun _ : Nat → Nat => True) (fun (u : Nat → Nat) (t : State) => va_P D classes [(h0, .inr (9, [.ref (u 0), .int 0])), ((u 0), .inl (cs 0, 120, .inl (fun _ => 0)))] t.heap ∧ va_D (va_A [(h0, .inr (9, [.null, .int 0]))] sz) [(h0, .inr (9, [.ref (u 0), .int 0])), ((u 0), .inl (cs 0, 120, .inl (fun _ => 0)))]) (va_A [(h0, .inr (9, [.null, .int 0]))] sz)) 1 120 (va_A [(h0, .inr (9, [.null, .int 0]))] sz) := by
  refine Met.ofW (cc := cX9_init) (maxL := 1) (ret := none) (by decide) rfl ?_
  intro p e s m args below meth c s₁ B hml hv
  obtain ⟨rfl, hsz, hP, hK, hD0⟩ := hv
  subst hsz
  have hD := hD0.self (sz := s.heap.size)
  have hx := B.exec
  have hb := B.bytes
  have hr := B.returns
  have ht : ∀ w ∈ zW, w.before _ s = true := fun w hw => atoms_spec (ws := z_X9_init) B.pre w (List.mem_cons_of_mem _ hw)
  have hown : s.vm.findClass RX9 = some m.cls := findClass_of_methodNamed B.named
  have hlocks := B.notSynchronized
  have hin : meth.name = "<init>" := (name_of_methodNamed B.named B.method).1
  generalize hAe : va_A [(h0, .inr (9, [.null, .int 0]))] s.heap.size = A at hD ⊢
  have hA : ∀ q : Nat, s.heap.size ≤ q → A q := fun q h => by rw [← hAe]; exact Or.inr h
  have hS : va_S A s.heap s.heap [] := va_S.rf
  have hl := lv_entry ([.ref h0]) (n := 1) (Nat.le_of_ble_eq_true rfl)
  rw [lg_entry_eq]
  generalize (lg_sl ([.ref h0]) ++ List.replicate (1 - (lg_sl ([.ref h0])).length) Slot.unset).toArray = ls at hl ⊢
  obtain ⟨H, hH⟩ : ∃ H, H = s.heap := ⟨_, rfl⟩
  have hS : va_S A s.heap H [] := by rw [hH]; exact va_S.rf
  rw [← hH]
  have hP : va_P D classes [(h0, .inr (9, [.null, .int 0]))] H := by rw [hH]; exact hP
  clear hH
  refine lv_aload_n hx hb dX9_init_0 rfl (lv_at hl 0 rfl) ?_
  refine W.objInit hx hb hown (ht _ kw_234) (ht _ kw_104) (ht _ kw_105) rfl (by rw [hml]; exact hl.1) rfl dX9_init_1 (Nat.le_of_ble_eq_true rfl) (Nat.le_of_ble_eq_true rfl) ?_
  refine W.eq (g2 := F0 m 4 ls []) rfl ?_
  refine lv_aload_n hx hb dX9_init_4 rfl (lv_at hl 0 rfl) ?_
  refine lv_bipush (v := (120 : Int32)) hx hb dX9_init_5 (by decide) ?_
  refine zk_newa (atype := .int) (ty := .int) (a0 := (120, .inl (fun _ => 0))) (N' := 120) hx hb (ht _ kw_184) rfl hK 0 rfl (by intro C h; cases h) hP hD hS hA (fun _ => rfl) (by decide) (by decide) (Nat.le_of_ble_eq_true rfl) (Nat.le_of_ble_eq_true rfl) (Nat.le_of_ble_eq_true rfl) dX9_init_7 (fun q_0 H hP hD hS => ?_)
  have hP : va_P D classes [(h0, .inr (9, [.null, .int 0])), (q_0, .inl (cs 0, 120, .inl (fun _ => 0)))] H := hP
  have hD : va_D A [(h0, .inr (9, [.null, .int 0])), (q_0, .inl (cs 0, 120, .inl (fun _ => 0)))] := hD
  refine va_putF (D := D) (ci := 9) (v := .ref q_0) (ty := .array .int) (C := RX9) (T := TX9) (N := 2) hx hb ht iX9 tyX9 tyX9_ok nmX9 hown hK hP hD hS 0 rfl rfl 0 (by decide) (ht _ kw_235) (fun _ h9 => h9) rfl hin rfl (by decide +kernel) rfl rfl (Nat.le_of_ble_eq_true rfl) dX9_init_9 (fun H locs hP hD hS => ?_)
  have hP : va_P D classes [(h0, .inr (9, [.ref q_0, .int 0])), (q_0, .inl (cs 0, 120, .inl (fun _ => 0)))] H := hP
  have hD : va_D A [(h0, .inr (9, [.ref q_0, .int 0])), (q_0, .inl (cs 0, 120, .inl (fun _ => 0)))] := hD
  refine W.widen (k := 1) (n := 120) (Nat.le_of_ble_eq_true rfl) (Nat.le_of_ble_eq_true rfl) ?_
  exact W.vret hx hb hr (fun t ht2 hW => ⟨⟨fun k => [q_0].getD k 0, rfl, trivial, by rw [ht2]; exact hP, hD⟩, hS.F ht2⟩) hS.2.2 dX9_init_12 hlocks
theorem kw_273 : Cond.methodLink RX5 3 objectInit ∈ zW := zwI (i := 273) (by decide +kernel) (by decide +kernel)
theorem kw_274 : Cond.fieldLink RX5 15 "AlreadyJudged$LawReader" "tape" "LAlreadyJudged$Tape;" ∈ zW := zwI (i := 274) (by decide +kernel) (by decide +kernel)
theorem kw_275 : Cond.fieldLink RX5 9 "AlreadyJudged$LawReader" "code" "[I" ∈ zW := zwI (i := 275) (by decide +kernel) (by decide +kernel)
theorem dX5_init_0 : decode cX5_init 0 = .ok (.aload_n 0, 1) := by decide +kernel
theorem dX5_init_1 : decode cX5_init 1 = .ok (.invokespecial 3, 3) := by decide +kernel
theorem dX5_init_4 : decode cX5_init 4 = .ok (.aload_n 0, 1) := by decide +kernel
theorem dX5_init_5 : decode cX5_init 5 = .ok (.bipush 121, 2) := by decide +kernel
theorem dX5_init_7 : decode cX5_init 7 = .ok (.newarray .int, 2) := by decide +kernel
theorem dX5_init_9 : decode cX5_init 9 = .ok (.putfield 9, 3) := by decide +kernel
theorem dX5_init_12 : decode cX5_init 12 = .ok (.aload_n 0, 1) := by decide +kernel
theorem dX5_init_13 : decode cX5_init 13 = .ok (.aload_n 1, 1) := by decide +kernel
theorem dX5_init_14 : decode cX5_init 14 = .ok (.putfield 15, 3) := by decide +kernel
theorem dX5_init_17 : decode cX5_init 17 = .ok (.return_, 1) := by decide +kernel
abbrev z_X5_init : List Cond := .code yX5_init cX5_init 2 none :: zW
abbrev rm_X5_init : Room := { frames := 1, cells := 1, slots := 121, locals := 20 }
set_option maxHeartbeats 4000000 in
set_option maxRecDepth 100000 in
theorem ci_X5_init (l : Launch) (D : va_G) (cs : Nat → ClassId) (h0 : Nat) (p1 : Nat) (sz : Nat) : Met l yX5_init z_X5_init rm_X5_init (va_Pc [.ref h0, .ref p1] (zPre D cs [(h0, .inr (5, [.null, .null, .int 0, .int 0, .int 0]))] sz)) (va_Qv (fun _ : Nat → Nat => True) (fun (u : Nat → Nat) (t : State) => va_P D classes [(h0, .inr (5, [.ref p1, .ref (u 0), .int 0, .int 0, .int 0])), ((u 0), .inl (cs 0, 121, .inl (fun _ => 0)))] t.heap ∧ va_D (va_A [(h0, .inr (5, [.null, .null, .int 0, .int 0, .int 0]))] sz) [(h0, .inr (5, [.ref p1, .ref (u 0), .int 0, .int 0, .int 0])), ((u 0), .inl (cs 0, 121, .inl (fun _ => 0)))]) (va_A [(h0, .inr (5, [.null, .null, .int 0, .int 0, .int 0]))] sz)) 1 121 (va_A [(h0, .inr (5, [.null, .null, .int 0, .int 0, .int 0]))] sz) := by
  refine Met.ofW (cc := cX5_init) (maxL := 2) (ret := none) (by decide) rfl ?_
  intro p e s m args below meth c s₁ B hml hv
  obtain ⟨rfl, hsz, hP, hK, hD0⟩ := hv
  subst hsz
  have hD := hD0.self (sz := s.heap.size)
  have hx := B.exec
  have hb := B.bytes
  have hr := B.returns
  have ht : ∀ w ∈ zW, w.before _ s = true := fun w hw => atoms_spec (ws := z_X5_init) B.pre w (List.mem_cons_of_mem _ hw)
  have hown : s.vm.findClass RX5 = some m.cls := findClass_of_methodNamed B.named
  have hlocks := B.notSynchronized
  have hin : meth.name = "<init>" := (name_of_methodNamed B.named B.method).1
  generalize hAe : va_A [(h0, .inr (5, [.null, .null, .int 0, .int 0, .int 0]))] s.heap.size = A at hD ⊢
  have hA : ∀ q : Nat, s.heap.size ≤ q → A q := fun q h => by rw [← hAe]; exact Or.inr h
  have hS : va_S A s.heap s.heap [] := va_S.rf
  have hl := lv_entry ([.ref h0, .ref p1]) (n := 2) (Nat.le_of_ble_eq_true rfl)
  rw [lg_entry_eq]
  generalize (lg_sl ([.ref h0, .ref p1]) ++ List.replicate (2 - (lg_sl ([.ref h0, .ref p1])).length) Slot.unset).toArray = ls at hl ⊢
  obtain ⟨H, hH⟩ : ∃ H, H = s.heap := ⟨_, rfl⟩
  have hS : va_S A s.heap H [] := by rw [hH]; exact va_S.rf
  rw [← hH]
  have hP : va_P D classes [(h0, .inr (5, [.null, .null, .int 0, .int 0, .int 0]))] H := by rw [hH]; exact hP
  clear hH
  refine lv_aload_n hx hb dX5_init_0 rfl (lv_at hl 0 rfl) ?_
  refine W.objInit hx hb hown (ht _ kw_273) (ht _ kw_104) (ht _ kw_105) rfl (by rw [hml]; exact hl.1) rfl dX5_init_1 (Nat.le_of_ble_eq_true rfl) (Nat.le_of_ble_eq_true rfl) ?_
  refine W.eq (g2 := F0 m 4 ls []) rfl ?_
  refine lv_aload_n hx hb dX5_init_4 rfl (lv_at hl 0 rfl) ?_
  refine lv_bipush (v := (121 : Int32)) hx hb dX5_init_5 (by decide) ?_
  refine zk_newa (atype := .int) (ty := .int) (a0 := (121, .inl (fun _ => 0))) (N' := 121) hx hb (ht _ kw_184) rfl hK 0 rfl (by intro C h; cases h) hP hD hS hA (fun _ => rfl) (by decide) (by decide) (Nat.le_of_ble_eq_true rfl) (Nat.le_of_ble_eq_true rfl) (Nat.le_of_ble_eq_true rfl) dX5_init_7 (fun q_0 H hP hD hS => ?_)
  have hP : va_P D classes [(h0, .inr (5, [.null, .null, .int 0, .int 0, .int 0])), (q_0, .inl (cs 0, 121, .inl (fun _ => 0)))] H := hP
  have hD : va_D A [(h0, .inr (5, [.null, .null, .int 0, .int 0, .int 0])), (q_0, .inl (cs 0, 121, .inl (fun _ => 0)))] := hD
  refine va_putF (D := D) (ci := 5) (v := .ref q_0) (ty := .array .int) (C := RX5) (T := TX5) (N := 5) hx hb ht iX5 tyX5 tyX5_ok nmX5 hown hK hP hD hS 0 rfl rfl 1 (by decide) (ht _ kw_275) (fun _ h9 => h9) rfl hin rfl (by decide +kernel) rfl rfl (Nat.le_of_ble_eq_true rfl) dX5_init_9 (fun H locs hP hD hS => ?_)
  have hP : va_P D classes [(h0, .inr (5, [.null, .ref q_0, .int 0, .int 0, .int 0])), (q_0, .inl (cs 0, 121, .inl (fun _ => 0)))] H := hP
  have hD : va_D A [(h0, .inr (5, [.null, .ref q_0, .int 0, .int 0, .int 0])), (q_0, .inl (cs 0, 121, .inl (fun _ => 0)))] := hD
  refine lv_aload_n hx hb dX5_init_12 rfl (lv_at hl 0 rfl) ?_
  refine lv_aload_n hx hb dX5_init_13 rfl (lv_at hl 1 rfl) ?_
  refine va_putF (D := D) (ci := 5) (v := .ref p1) (ty := .object "AlreadyJudged$Tape") (C := RX5) (T := TX5) (N := 5) hx hb ht iX5 tyX5 tyX5_ok nmX5 hown hK hP hD hS 0 rfl rfl 0 (by decide) (ht _ kw_274) (fun _ h9 => h9) rfl hin rfl (by decide +kernel) rfl rfl (Nat.le_of_ble_eq_true rfl) dX5_init_14 (fun H locs hP hD hS => ?_)
  have hP : va_P D classes [(h0, .inr (5, [.ref p1, .ref q_0, .int 0, .int 0, .int 0])), (q_0, .inl (cs 0, 121, .inl (fun _ => 0)))] H := hP
  have hD : va_D A [(h0, .inr (5, [.ref p1, .ref q_0, .int 0, .int 0, .int 0])), (q_0, .inl (cs 0, 121, .inl (fun _ => 0)))] := hD
  refine W.widen (k := 1) (n := 121) (Nat.le_of_ble_eq_true rfl) (Nat.le_of_ble_eq_true rfl) ?_
  exact W.vret hx hb hr (fun t ht2 hW => ⟨⟨fun k => [q_0].getD k 0, rfl, trivial, by rw [ht2]; exact hP, hD⟩, hS.F ht2⟩) hS.2.2 dX5_init_17 hlocks
theorem kw_250 : Cond.methodLink RX8 3 objectInit ∈ zW := zwI (i := 250) (by decide +kernel) (by decide +kernel)
theorem kw_251 : Cond.fieldLink RX8 9 "AlreadyJudged$SuitReader" "tape" "LAlreadyJudged$Tape;" ∈ zW := zwI (i := 251) (by decide +kernel) (by decide +kernel)
theorem dX8_init_0 : decode cX8_init 0 = .ok (.aload_n 0, 1) := by decide +kernel
theorem dX8_init_1 : decode cX8_init 1 = .ok (.invokespecial 3, 3) := by decide +kernel
theorem dX8_init_4 : decode cX8_init 4 = .ok (.aload_n 0, 1) := by decide +kernel
theorem dX8_init_5 : decode cX8_init 5 = .ok (.aload_n 1, 1) := by decide +kernel
theorem dX8_init_6 : decode cX8_init 6 = .ok (.putfield 9, 3) := by decide +kernel
theorem dX8_init_9 : decode cX8_init 9 = .ok (.return_, 1) := by decide +kernel
abbrev z_X8_init : List Cond := .code yX8_init cX8_init 2 none :: zW
abbrev rm_X8_init : Room := { frames := 1, cells := 0, slots := 0, locals := 20 }
set_option maxHeartbeats 4000000 in
set_option maxRecDepth 100000 in
theorem ci_X8_init (l : Launch) (D : va_G) (cs : Nat → ClassId) (h0 : Nat) (p1 : Nat) (sz : Nat) : Met l yX8_init z_X8_init rm_X8_init (va_Pc [.ref h0, .ref p1] (zPre D cs [(h0, .inr (8, [.null, .null, .int 0, .int 0, .int 0]))] sz)) (va_Qv (fun _ : Nat → Nat => True) (fun (u : Nat → Nat) (t : State) => va_P D classes [(h0, .inr (8, [.ref p1, .null, .int 0, .int 0, .int 0]))] t.heap ∧ va_D (va_A [(h0, .inr (8, [.null, .null, .int 0, .int 0, .int 0]))] sz) [(h0, .inr (8, [.ref p1, .null, .int 0, .int 0, .int 0]))]) (va_A [(h0, .inr (8, [.null, .null, .int 0, .int 0, .int 0]))] sz)) 0 0 (va_A [(h0, .inr (8, [.null, .null, .int 0, .int 0, .int 0]))] sz) := by
  refine Met.ofW (cc := cX8_init) (maxL := 2) (ret := none) (by decide) rfl ?_
  intro p e s m args below meth c s₁ B hml hv
  obtain ⟨rfl, hsz, hP, hK, hD0⟩ := hv
  subst hsz
  have hD := hD0.self (sz := s.heap.size)
  have hx := B.exec
  have hb := B.bytes
  have hr := B.returns
  have ht : ∀ w ∈ zW, w.before _ s = true := fun w hw => atoms_spec (ws := z_X8_init) B.pre w (List.mem_cons_of_mem _ hw)
  have hown : s.vm.findClass RX8 = some m.cls := findClass_of_methodNamed B.named
  have hlocks := B.notSynchronized
  have hin : meth.name = "<init>" := (name_of_methodNamed B.named B.method).1
  generalize hAe : va_A [(h0, .inr (8, [.null, .null, .int 0, .int 0, .int 0]))] s.heap.size = A at hD ⊢
  have hA : ∀ q : Nat, s.heap.size ≤ q → A q := fun q h => by rw [← hAe]; exact Or.inr h
  have hS : va_S A s.heap s.heap [] := va_S.rf
  have hl := lv_entry ([.ref h0, .ref p1]) (n := 2) (Nat.le_of_ble_eq_true rfl)
  rw [lg_entry_eq]
  generalize (lg_sl ([.ref h0, .ref p1]) ++ List.replicate (2 - (lg_sl ([.ref h0, .ref p1])).length) Slot.unset).toArray = ls at hl ⊢
  obtain ⟨H, hH⟩ : ∃ H, H = s.heap := ⟨_, rfl⟩
  have hS : va_S A s.heap H [] := by rw [hH]; exact va_S.rf
  rw [← hH]
  have hP : va_P D classes [(h0, .inr (8, [.null, .null, .int 0, .int 0, .int 0]))] H := by rw [hH]; exact hP
  clear hH
  refine lv_aload_n hx hb dX8_init_0 rfl (lv_at hl 0 rfl) ?_
  refine W.objInit hx hb hown (ht _ kw_250) (ht _ kw_104) (ht _ kw_105) rfl (by rw [hml]; exact hl.1) rfl dX8_init_1 (Nat.le_of_ble_eq_true rfl) (Nat.le_of_ble_eq_true rfl) ?_
  refine W.eq (g2 := F0 m 4 ls []) rfl ?_
  refine lv_aload_n hx hb dX8_init_4 rfl (lv_at hl 0 rfl) ?_
  refine lv_aload_n hx hb dX8_init_5 rfl (lv_at hl 1 rfl) ?_
  refine va_putF (D := D) (ci := 8) (v := .ref p1) (ty := .object "AlreadyJudged$Tape") (C := RX8) (T := TX8) (N := 5) hx hb ht iX8 tyX8 tyX8_ok nmX8 hown hK hP hD hS 0 rfl rfl 0 (by decide) (ht _ kw_251) (fun _ h9 => h9) rfl hin rfl (by decide +kernel) rfl rfl (Nat.le_of_ble_eq_true rfl) dX8_init_6 (fun H locs hP hD hS => ?_)
  have hP : va_P D classes [(h0, .inr (8, [.ref p1, .null, .int 0, .int 0, .int 0]))] H := hP
  have hD : va_D A [(h0, .inr (8, [.ref p1, .null, .int 0, .int 0, .int 0]))] := hD
  refine W.widen (k := 0) (n := 0) (Nat.le_of_ble_eq_true rfl) (Nat.le_of_ble_eq_true rfl) ?_
  exact W.vret hx hb hr (fun t ht2 hW => ⟨⟨fun k => [].getD k 0, rfl, trivial, by rw [ht2]; exact hP, hD⟩, hS.F ht2⟩) hS.2.2 dX8_init_9 hlocks
theorem kw_302 : Cond.methodLink RX7 3 objectInit ∈ zW := zwI (i := 302) (by decide +kernel) (by decide +kernel)
theorem kw_330 : Cond.fieldLink RX7 9 "AlreadyJudged$Suit" "undoneFrom" "I" ∈ zW := zwI (i := 330) (by decide +kernel) (by decide +kernel)
theorem kw_333 : Cond.fieldLink RX7 15 "AlreadyJudged$Suit" "asked" "[I" ∈ zW := zwI (i := 333) (by decide +kernel) (by decide +kernel)
theorem dX7_init_0 : decode cX7_init 0 = .ok (.aload_n 0, 1) := by decide +kernel
theorem dX7_init_1 : decode cX7_init 1 = .ok (.invokespecial 3, 3) := by decide +kernel
theorem dX7_init_4 : decode cX7_init 4 = .ok (.aload_n 0, 1) := by decide +kernel
theorem dX7_init_5 : decode cX7_init 5 = .ok (.iconst (-1), 1) := by decide +kernel
theorem dX7_init_6 : decode cX7_init 6 = .ok (.putfield 9, 3) := by decide +kernel
theorem dX7_init_9 : decode cX7_init 9 = .ok (.aload_n 0, 1) := by decide +kernel
theorem dX7_init_10 : decode cX7_init 10 = .ok (.bipush 32, 2) := by decide +kernel
theorem dX7_init_12 : decode cX7_init 12 = .ok (.newarray .int, 2) := by decide +kernel
theorem dX7_init_14 : decode cX7_init 14 = .ok (.putfield 15, 3) := by decide +kernel
theorem dX7_init_17 : decode cX7_init 17 = .ok (.return_, 1) := by decide +kernel
abbrev z_X7_init : List Cond := .code yX7_init cX7_init 1 none :: zW
abbrev rm_X7_init : Room := { frames := 1, cells := 1, slots := 32, locals := 20 }
set_option maxHeartbeats 4000000 in
set_option maxRecDepth 100000 in
theorem ci_X7_init (l : Launch) (D : va_G) (cs : Nat → ClassId) (h0 : Nat)  (sz : Nat) : Met l yX7_init z_X7_init rm_X7_init (va_Pc [.ref h0] (zPre D cs [(h0, .inr (7, [.int 0, .int 0, .int 0, .int 0, .int 0, .int 0, .int 0, .null, .int 0, .int 0, .int 0, .int 0, .int 0, .int 0, .int 0]))] sz)) (va_Qv (fun _ : Nat → Nat => True) (fun (u : Nat → Nat) (t : State) => va_P D classes [(h0, .inr (7, [.int 0, .int 0, .int 0, .int 0, .int 0, .int 0, .int (-1 : Int32), .ref (u 0), .int 0, .int 0, .int 0, .int 0, .int 0, .int 0, .int 0])), ((u 0), .inl (cs 0, 32, .inl (fun _ => 0)))] t.heap ∧ va_D (va_A [(h0, .inr (7, [.int 0, .int 0, .int 0, .int 0, .int 0, .int 0, .int 0, .null, .int 0, .int 0, .int 0, .int 0, .int 0, .int 0, .int 0]))] sz) [(h0, .inr (7, [.int 0, .int 0, .int 0, .int 0, .int 0, .int 0, .int (-1 : Int32), .ref (u 0), .int 0, .int 0, .int 0, .int 0, .int 0, .int 0, .int 0])), ((u 0), .inl (cs 0, 32, .inl (fun _ => 0)))]) (va_A [(h0, .inr (7, [.int 0, .int 0, .int 0, .int 0, .int 0, .int 0, .int 0, .null, .int 0, .int 0, .int 0, .int 0, .int 0, .int 0, .int 0]))] sz)) 1 32 (va_A [(h0, .inr (7, [.int 0, .int 0, .int 0, .int 0, .int 0, .int 0, .int 0, .null, .int 0, .int 0, .int 0, .int 0, .int 0, .int 0, .int 0]))] sz) := by
  refine Met.ofW (cc := cX7_init) (maxL := 1) (ret := none) (by decide) rfl ?_
  intro p e s m args below meth c s₁ B hml hv
  obtain ⟨rfl, hsz, hP, hK, hD0⟩ := hv
  subst hsz
  have hD := hD0.self (sz := s.heap.size)
  have hx := B.exec
  have hb := B.bytes
  have hr := B.returns
  have ht : ∀ w ∈ zW, w.before _ s = true := fun w hw => atoms_spec (ws := z_X7_init) B.pre w (List.mem_cons_of_mem _ hw)
  have hown : s.vm.findClass RX7 = some m.cls := findClass_of_methodNamed B.named
  have hlocks := B.notSynchronized
  have hin : meth.name = "<init>" := (name_of_methodNamed B.named B.method).1
  generalize hAe : va_A [(h0, .inr (7, [.int 0, .int 0, .int 0, .int 0, .int 0, .int 0, .int 0, .null, .int 0, .int 0, .int 0, .int 0, .int 0, .int 0, .int 0]))] s.heap.size = A at hD ⊢
  have hA : ∀ q : Nat, s.heap.size ≤ q → A q := fun q h => by rw [← hAe]; exact Or.inr h
  have hS : va_S A s.heap s.heap [] := va_S.rf
  have hl := lv_entry ([.ref h0]) (n := 1) (Nat.le_of_ble_eq_true rfl)
  rw [lg_entry_eq]
  generalize (lg_sl ([.ref h0]) ++ List.replicate (1 - (lg_sl ([.ref h0])).length) Slot.unset).toArray = ls at hl ⊢
  obtain ⟨H, hH⟩ : ∃ H, H = s.heap := ⟨_, rfl⟩
  have hS : va_S A s.heap H [] := by rw [hH]; exact va_S.rf
  rw [← hH]
  have hP : va_P D classes [(h0, .inr (7, [.int 0, .int 0, .int 0, .int 0, .int 0, .int 0, .int 0, .null, .int 0, .int 0, .int 0, .int 0, .int 0, .int 0, .int 0]))] H := by rw [hH]; exact hP
  clear hH
  refine lv_aload_n hx hb dX7_init_0 rfl (lv_at hl 0 rfl) ?_
  refine W.objInit hx hb hown (ht _ kw_302) (ht _ kw_104) (ht _ kw_105) rfl (by rw [hml]; exact hl.1) rfl dX7_init_1 (Nat.le_of_ble_eq_true rfl) (Nat.le_of_ble_eq_true rfl) ?_
  refine W.eq (g2 := F0 m 4 ls []) rfl ?_
  refine lv_aload_n hx hb dX7_init_4 rfl (lv_at hl 0 rfl) ?_
  refine lv_iconst (v := (-1 : Int32)) hx hb dX7_init_5 (by decide) ?_
  refine va_put (D := D) (ci := 7) (v := .int (-1 : Int32)) (ty := .int) (C := RX7) (T := TX7) (N := 15) hx hb ht iX7 tyX7 tyX7_ok nmX7 hown hK hP hD hS 0 rfl rfl 6 (by decide) (ht _ kw_330) (fun _ h9 => h9) rfl (by decide +kernel) rfl rfl (Nat.le_of_ble_eq_true rfl) dX7_init_6 (fun H locs hP hD hS => ?_)
  have hP : va_P D classes [(h0, .inr (7, [.int 0, .int 0, .int 0, .int 0, .int 0, .int 0, .int (-1 : Int32), .null, .int 0, .int 0, .int 0, .int 0, .int 0, .int 0, .int 0]))] H := hP
  have hD : va_D A [(h0, .inr (7, [.int 0, .int 0, .int 0, .int 0, .int 0, .int 0, .int (-1 : Int32), .null, .int 0, .int 0, .int 0, .int 0, .int 0, .int 0, .int 0]))] := hD
  refine lv_aload_n hx hb dX7_init_9 rfl (lv_at hl 0 rfl) ?_
  refine lv_bipush (v := (32 : Int32)) hx hb dX7_init_10 (by decide) ?_
  refine zk_newa (atype := .int) (ty := .int) (a0 := (32, .inl (fun _ => 0))) (N' := 32) hx hb (ht _ kw_184) rfl hK 0 rfl (by intro C h; cases h) hP hD hS hA (fun _ => rfl) (by decide) (by decide) (Nat.le_of_ble_eq_true rfl) (Nat.le_of_ble_eq_true rfl) (Nat.le_of_ble_eq_true rfl) dX7_init_12 (fun q_0 H hP hD hS => ?_)
  have hP : va_P D classes [(h0, .inr (7, [.int 0, .int 0, .int 0, .int 0, .int 0, .int 0, .int (-1 : Int32), .null, .int 0, .int 0, .int 0, .int 0, .int 0, .int 0, .int 0])), (q_0, .inl (cs 0, 32, .inl (fun _ => 0)))] H := hP
  have hD : va_D A [(h0, .inr (7, [.int 0, .int 0, .int 0, .int 0, .int 0, .int 0, .int (-1 : Int32), .null, .int 0, .int 0, .int 0, .int 0, .int 0, .int 0, .int 0])), (q_0, .inl (cs 0, 32, .inl (fun _ => 0)))] := hD
  refine va_putF (D := D) (ci := 7) (v := .ref q_0) (ty := .array .int) (C := RX7) (T := TX7) (N := 15) hx hb ht iX7 tyX7 tyX7_ok nmX7 hown hK hP hD hS 0 rfl rfl 7 (by decide) (ht _ kw_333) (fun _ h9 => h9) rfl hin rfl (by decide +kernel) rfl rfl (Nat.le_of_ble_eq_true rfl) dX7_init_14 (fun H locs hP hD hS => ?_)
  have hP : va_P D classes [(h0, .inr (7, [.int 0, .int 0, .int 0, .int 0, .int 0, .int 0, .int (-1 : Int32), .ref q_0, .int 0, .int 0, .int 0, .int 0, .int 0, .int 0, .int 0])), (q_0, .inl (cs 0, 32, .inl (fun _ => 0)))] H := hP
  have hD : va_D A [(h0, .inr (7, [.int 0, .int 0, .int 0, .int 0, .int 0, .int 0, .int (-1 : Int32), .ref q_0, .int 0, .int 0, .int 0, .int 0, .int 0, .int 0, .int 0])), (q_0, .inl (cs 0, 32, .inl (fun _ => 0)))] := hD
  refine W.widen (k := 1) (n := 32) (Nat.le_of_ble_eq_true rfl) (Nat.le_of_ble_eq_true rfl) ?_
  exact W.vret hx hb hr (fun t ht2 hW => ⟨⟨fun k => [q_0].getD k 0, rfl, trivial, by rw [ht2]; exact hP, hD⟩, hS.F ht2⟩) hS.2.2 dX7_init_17 hlocks
theorem kw_82 : Cond.initialized RX7 ∈ zW := zwI (i := 82) (by decide +kernel) (by decide +kernel)
theorem kw_296 : Cond.methodLink RX10 3 objectInit ∈ zW := zwI (i := 296) (by decide +kernel) (by decide +kernel)
theorem kw_297 : Cond.classLink RX10 27 RX7 ∈ zW := zwI (i := 297) (by decide +kernel) (by decide +kernel)
theorem kw_298 : Cond.instantiable RX7 15 ∈ zW := zwI (i := 298) (by decide +kernel) (by decide +kernel)
theorem kw_300 : Cond.instanceMethod yX7_init ∈ zW := zwI (i := 300) (by decide +kernel) (by decide +kernel)
theorem kw_301 : Cond.code yX7_init cX7_init 1 none ∈ zW := zwI (i := 301) (by decide +kernel) (by decide +kernel)
theorem kw_387 : Cond.fieldLink RX10 9 "AlreadyJudged$Wishes" "claims" "[I" ∈ zW := zwI (i := 387) (by decide +kernel) (by decide +kernel)
theorem kw_388 : Cond.fieldLink RX10 15 "AlreadyJudged$Wishes" "wins" "[I" ∈ zW := zwI (i := 388) (by decide +kernel) (by decide +kernel)
theorem kw_391 : Cond.fieldLink RX10 18 "AlreadyJudged$Wishes" "closed" "[I" ∈ zW := zwI (i := 391) (by decide +kernel) (by decide +kernel)
theorem kw_392 : Cond.fieldLink RX10 21 "AlreadyJudged$Wishes" "closers" "[I" ∈ zW := zwI (i := 392) (by decide +kernel) (by decide +kernel)
theorem kw_393 : Cond.fieldLink RX10 24 "AlreadyJudged$Wishes" "placeOn" "[I" ∈ zW := zwI (i := 393) (by decide +kernel) (by decide +kernel)
theorem kw_394 : Cond.fieldLink RX10 30 "AlreadyJudged$Wishes" "brought" "LAlreadyJudged$Suit;" ∈ zW := zwI (i := 394) (by decide +kernel) (by decide +kernel)
theorem dX10_init_0 : decode cX10_init 0 = .ok (.aload_n 0, 1) := by decide +kernel
theorem dX10_init_1 : decode cX10_init 1 = .ok (.invokespecial 3, 3) := by decide +kernel
theorem dX10_init_4 : decode cX10_init 4 = .ok (.aload_n 0, 1) := by decide +kernel
theorem dX10_init_5 : decode cX10_init 5 = .ok (.iconst 5, 1) := by decide +kernel
theorem dX10_init_6 : decode cX10_init 6 = .ok (.newarray .int, 2) := by decide +kernel
theorem dX10_init_8 : decode cX10_init 8 = .ok (.putfield 9, 3) := by decide +kernel
theorem dX10_init_11 : decode cX10_init 11 = .ok (.aload_n 0, 1) := by decide +kernel
theorem dX10_init_12 : decode cX10_init 12 = .ok (.iconst 5, 1) := by decide +kernel
theorem dX10_init_13 : decode cX10_init 13 = .ok (.newarray .int, 2) := by decide +kernel
theorem dX10_init_15 : decode cX10_init 15 = .ok (.putfield 15, 3) := by decide +kernel
theorem dX10_init_18 : decode cX10_init 18 = .ok (.aload_n 0, 1) := by decide +kernel
theorem dX10_init_19 : decode cX10_init 19 = .ok (.iconst 5, 1) := by decide +kernel
theorem dX10_init_20 : decode cX10_init 20 = .ok (.newarray .int, 2) := by decide +kernel
theorem dX10_init_22 : decode cX10_init 22 = .ok (.putfield 18, 3) := by decide +kernel
theorem dX10_init_25 : decode cX10_init 25 = .ok (.aload_n 0, 1) := by decide +kernel
theorem dX10_init_26 : decode cX10_init 26 = .ok (.bipush 125, 2) := by decide +kernel
theorem dX10_init_28 : decode cX10_init 28 = .ok (.newarray .int, 2) := by decide +kernel
theorem dX10_init_30 : decode cX10_init 30 = .ok (.putfield 21, 3) := by decide +kernel
theorem dX10_init_33 : decode cX10_init 33 = .ok (.aload_n 0, 1) := by decide +kernel
theorem dX10_init_34 : decode cX10_init 34 = .ok (.iconst 5, 1) := by decide +kernel
theorem dX10_init_35 : decode cX10_init 35 = .ok (.newarray .int, 2) := by decide +kernel
theorem dX10_init_37 : decode cX10_init 37 = .ok (.putfield 24, 3) := by decide +kernel
theorem dX10_init_40 : decode cX10_init 40 = .ok (.aload_n 0, 1) := by decide +kernel
theorem dX10_init_41 : decode cX10_init 41 = .ok (.new 27, 3) := by decide +kernel
theorem dX10_init_44 : decode cX10_init 44 = .ok (.dup, 1) := by decide +kernel
theorem dX10_init_45 : decode cX10_init 45 = .ok (.invokespecial 29, 3) := by decide +kernel
theorem dX10_init_48 : decode cX10_init 48 = .ok (.putfield 30, 3) := by decide +kernel
theorem dX10_init_51 : decode cX10_init 51 = .ok (.return_, 1) := by decide +kernel
abbrev z_X10_init : List Cond := .code yX10_init cX10_init 1 none :: zW
abbrev rm_X10_init : Room := { frames := 2, cells := 7, slots := 192, locals := 40 }
set_option maxHeartbeats 4000000 in
set_option maxRecDepth 100000 in
theorem ci_X10_init (l : Launch) (D : va_G) (cs : Nat → ClassId) (h0 : Nat)  (sz : Nat) : Met l yX10_init z_X10_init rm_X10_init (va_Pc [.ref h0] (zPreO D cs [(h0, .inr (10, [.null, .null, .int 0, .null, .null, .null, .null, .int 0, .int 0]))] sz)) (va_Qv (fun _ : Nat → Nat => True) (fun (u : Nat → Nat) (t : State) => va_P D classes [(h0, .inr (10, [.ref (u 0), .ref (u 1), .int 0, .ref (u 2), .ref (u 3), .ref (u 4), .ref (u 5), .int 0, .int 0])), ((u 0), .inl (cs 0, 5, .inl (fun _ => 0))), ((u 1), .inl (cs 0, 5, .inl (fun _ => 0))), ((u 2), .inl (cs 0, 5, .inl (fun _ => 0))), ((u 3), .inl (cs 0, 125, .inl (fun _ => 0))), ((u 4), .inl (cs 0, 5, .inl (fun _ => 0))), ((u 5), .inr (7, [.int 0, .int 0, .int 0, .int 0, .int 0, .int 0, .int (-1 : Int32), .ref (u 6), .int 0, .int 0, .int 0, .int 0, .int 0, .int 0, .int 0])), ((u 6), .inl (cs 0, 32, .inl (fun _ => 0)))] t.heap ∧ va_D (va_A [(h0, .inr (10, [.null, .null, .int 0, .null, .null, .null, .null, .int 0, .int 0]))] sz) [(h0, .inr (10, [.ref (u 0), .ref (u 1), .int 0, .ref (u 2), .ref (u 3), .ref (u 4), .ref (u 5), .int 0, .int 0])), ((u 0), .inl (cs 0, 5, .inl (fun _ => 0))), ((u 1), .inl (cs 0, 5, .inl (fun _ => 0))), ((u 2), .inl (cs 0, 5, .inl (fun _ => 0))), ((u 3), .inl (cs 0, 125, .inl (fun _ => 0))), ((u 4), .inl (cs 0, 5, .inl (fun _ => 0))), ((u 5), .inr (7, [.int 0, .int 0, .int 0, .int 0, .int 0, .int 0, .int (-1 : Int32), .ref (u 6), .int 0, .int 0, .int 0, .int 0, .int 0, .int 0, .int 0])), ((u 6), .inl (cs 0, 32, .inl (fun _ => 0)))]) (va_A [(h0, .inr (10, [.null, .null, .int 0, .null, .null, .null, .null, .int 0, .int 0]))] sz)) 7 192 (va_A [(h0, .inr (10, [.null, .null, .int 0, .null, .null, .null, .null, .int 0, .int 0]))] sz) := by
  refine Met.ofW (cc := cX10_init) (maxL := 1) (ret := none) (by decide) rfl ?_
  intro p e s m args below meth c s₁ B hml hv
  obtain ⟨rfl, ⟨hsz, hP, hK, hD0⟩, hO⟩ := hv
  subst hsz
  have hD := hD0.self (sz := s.heap.size)
  have hx := B.exec
  have hb := B.bytes
  have hr := B.returns
  have ht : ∀ w ∈ zW, w.before _ s = true := fun w hw => atoms_spec (ws := z_X10_init) B.pre w (List.mem_cons_of_mem _ hw)
  have hown : s.vm.findClass RX10 = some m.cls := findClass_of_methodNamed B.named
  have hlocks := B.notSynchronized
  have hin : meth.name = "<init>" := (name_of_methodNamed B.named B.method).1
  generalize hAe : va_A [(h0, .inr (10, [.null, .null, .int 0, .null, .null, .null, .null, .int 0, .int 0]))] s.heap.size = A at hD ⊢
  have hA : ∀ q : Nat, s.heap.size ≤ q → A q := fun q h => by rw [← hAe]; exact Or.inr h
  have hS : va_S A s.heap s.heap [] := va_S.rf
  have hl := lv_entry ([.ref h0]) (n := 1) (Nat.le_of_ble_eq_true rfl)
  rw [lg_entry_eq]
  generalize (lg_sl ([.ref h0]) ++ List.replicate (1 - (lg_sl ([.ref h0])).length) Slot.unset).toArray = ls at hl ⊢
  obtain ⟨H, hH⟩ : ∃ H, H = s.heap := ⟨_, rfl⟩
  have hS : va_S A s.heap H [] := by rw [hH]; exact va_S.rf
  rw [← hH]
  have hP : va_P D classes [(h0, .inr (10, [.null, .null, .int 0, .null, .null, .null, .null, .int 0, .int 0]))] H := by rw [hH]; exact hP
  clear hH
  refine lv_aload_n hx hb dX10_init_0 rfl (lv_at hl 0 rfl) ?_
  refine W.objInit hx hb hown (ht _ kw_296) (ht _ kw_104) (ht _ kw_105) rfl (by rw [hml]; exact hl.1) rfl dX10_init_1 (Nat.le_of_ble_eq_true rfl) (Nat.le_of_ble_eq_true rfl) ?_
  refine W.eq (g2 := F0 m 4 ls []) rfl ?_
  refine lv_aload_n hx hb dX10_init_4 rfl (lv_at hl 0 rfl) ?_
  refine lv_iconst (v := (5 : Int32)) hx hb dX10_init_5 (by decide) ?_
  refine zk_newa (atype := .int) (ty := .int) (a0 := (5, .inl (fun _ => 0))) (N' := 5) hx hb (ht _ kw_184) rfl hK 0 rfl (by intro C h; cases h) hP hD hS hA (fun _ => rfl) (by decide) (by decide) (Nat.le_of_ble_eq_true rfl) (Nat.le_of_ble_eq_true rfl) (Nat.le_of_ble_eq_true rfl) dX10_init_6 (fun q_0 H hP hD hS => ?_)
  have hP : va_P D classes [(h0, .inr (10, [.null, .null, .int 0, .null, .null, .null, .null, .int 0, .int 0])), (q_0, .inl (cs 0, 5, .inl (fun _ => 0)))] H := hP
  have hD : va_D A [(h0, .inr (10, [.null, .null, .int 0, .null, .null, .null, .null, .int 0, .int 0])), (q_0, .inl (cs 0, 5, .inl (fun _ => 0)))] := hD
  refine va_putF (D := D) (ci := 10) (v := .ref q_0) (ty := .array .int) (C := RX10) (T := TX10) (N := 9) hx hb ht iX10 tyX10 tyX10_ok nmX10 hown hK hP hD hS 0 rfl rfl 0 (by decide) (ht _ kw_387) (fun _ h9 => h9) rfl hin rfl (by decide +kernel) rfl rfl (Nat.le_of_ble_eq_true rfl) dX10_init_8 (fun H locs hP hD hS => ?_)
  have hP : va_P D classes [(h0, .inr (10, [.ref q_0, .null, .int 0, .null, .null, .null, .null, .int 0, .int 0])), (q_0, .inl (cs 0, 5, .inl (fun _ => 0)))] H := hP
  have hD : va_D A [(h0, .inr (10, [.ref q_0, .null, .int 0, .null, .null, .null, .null, .int 0, .int 0])), (q_0, .inl (cs 0, 5, .inl (fun _ => 0)))] := hD
  refine lv_aload_n hx hb dX10_init_11 rfl (lv_at hl 0 rfl) ?_
  refine lv_iconst (v := (5 : Int32)) hx hb dX10_init_12 (by decide) ?_
  refine zk_newa (atype := .int) (ty := .int) (a0 := (5, .inl (fun _ => 0))) (N' := 5) hx hb (ht _ kw_184) rfl hK 0 rfl (by intro C h; cases h) hP hD hS hA (fun _ => rfl) (by decide) (by decide) (Nat.le_of_ble_eq_true rfl) (Nat.le_of_ble_eq_true rfl) (Nat.le_of_ble_eq_true rfl) dX10_init_13 (fun q_1 H hP hD hS => ?_)
  have hP : va_P D classes [(h0, .inr (10, [.ref q_0, .null, .int 0, .null, .null, .null, .null, .int 0, .int 0])), (q_0, .inl (cs 0, 5, .inl (fun _ => 0))), (q_1, .inl (cs 0, 5, .inl (fun _ => 0)))] H := hP
  have hD : va_D A [(h0, .inr (10, [.ref q_0, .null, .int 0, .null, .null, .null, .null, .int 0, .int 0])), (q_0, .inl (cs 0, 5, .inl (fun _ => 0))), (q_1, .inl (cs 0, 5, .inl (fun _ => 0)))] := hD
  refine va_putF (D := D) (ci := 10) (v := .ref q_1) (ty := .array .int) (C := RX10) (T := TX10) (N := 9) hx hb ht iX10 tyX10 tyX10_ok nmX10 hown hK hP hD hS 0 rfl rfl 1 (by decide) (ht _ kw_388) (fun _ h9 => h9) rfl hin rfl (by decide +kernel) rfl rfl (Nat.le_of_ble_eq_true rfl) dX10_init_15 (fun H locs hP hD hS => ?_)
  have hP : va_P D classes [(h0, .inr (10, [.ref q_0, .ref q_1, .int 0, .null, .null, .null, .null, .int 0, .int 0])), (q_0, .inl (cs 0, 5, .inl (fun _ => 0))), (q_1, .inl (cs 0, 5, .inl (fun _ => 0)))] H := hP
  have hD : va_D A [(h0, .inr (10, [.ref q_0, .ref q_1, .int 0, .null, .null, .null, .null, .int 0, .int 0])), (q_0, .inl (cs 0, 5, .inl (fun _ => 0))), (q_1, .inl (cs 0, 5, .inl (fun _ => 0)))] := hD
  refine lv_aload_n hx hb dX10_init_18 rfl (lv_at hl 0 rfl) ?_
  refine lv_iconst (v := (5 : Int32)) hx hb dX10_init_19 (by decide) ?_
  refine zk_newa (atype := .int) (ty := .int) (a0 := (5, .inl (fun _ => 0))) (N' := 5) hx hb (ht _ kw_184) rfl hK 0 rfl (by intro C h; cases h) hP hD hS hA (fun _ => rfl) (by decide) (by decide) (Nat.le_of_ble_eq_true rfl) (Nat.le_of_ble_eq_true rfl) (Nat.le_of_ble_eq_true rfl) dX10_init_20 (fun q_2 H hP hD hS => ?_)
  have hP : va_P D classes [(h0, .inr (10, [.ref q_0, .ref q_1, .int 0, .null, .null, .null, .null, .int 0, .int 0])), (q_0, .inl (cs 0, 5, .inl (fun _ => 0))), (q_1, .inl (cs 0, 5, .inl (fun _ => 0))), (q_2, .inl (cs 0, 5, .inl (fun _ => 0)))] H := hP
  have hD : va_D A [(h0, .inr (10, [.ref q_0, .ref q_1, .int 0, .null, .null, .null, .null, .int 0, .int 0])), (q_0, .inl (cs 0, 5, .inl (fun _ => 0))), (q_1, .inl (cs 0, 5, .inl (fun _ => 0))), (q_2, .inl (cs 0, 5, .inl (fun _ => 0)))] := hD
  refine va_putF (D := D) (ci := 10) (v := .ref q_2) (ty := .array .int) (C := RX10) (T := TX10) (N := 9) hx hb ht iX10 tyX10 tyX10_ok nmX10 hown hK hP hD hS 0 rfl rfl 3 (by decide) (ht _ kw_391) (fun _ h9 => h9) rfl hin rfl (by decide +kernel) rfl rfl (Nat.le_of_ble_eq_true rfl) dX10_init_22 (fun H locs hP hD hS => ?_)
  have hP : va_P D classes [(h0, .inr (10, [.ref q_0, .ref q_1, .int 0, .ref q_2, .null, .null, .null, .int 0, .int 0])), (q_0, .inl (cs 0, 5, .inl (fun _ => 0))), (q_1, .inl (cs 0, 5, .inl (fun _ => 0))), (q_2, .inl (cs 0, 5, .inl (fun _ => 0)))] H := hP
  have hD : va_D A [(h0, .inr (10, [.ref q_0, .ref q_1, .int 0, .ref q_2, .null, .null, .null, .int 0, .int 0])), (q_0, .inl (cs 0, 5, .inl (fun _ => 0))), (q_1, .inl (cs 0, 5, .inl (fun _ => 0))), (q_2, .inl (cs 0, 5, .inl (fun _ => 0)))] := hD
  refine lv_aload_n hx hb dX10_init_25 rfl (lv_at hl 0 rfl) ?_
  refine lv_bipush (v := (125 : Int32)) hx hb dX10_init_26 (by decide) ?_
  refine zk_newa (atype := .int) (ty := .int) (a0 := (125, .inl (fun _ => 0))) (N' := 125) hx hb (ht _ kw_184) rfl hK 0 rfl (by intro C h; cases h) hP hD hS hA (fun _ => rfl) (by decide) (by decide) (Nat.le_of_ble_eq_true rfl) (Nat.le_of_ble_eq_true rfl) (Nat.le_of_ble_eq_true rfl) dX10_init_28 (fun q_3 H hP hD hS => ?_)
  have hP : va_P D classes [(h0, .inr (10, [.ref q_0, .ref q_1, .int 0, .ref q_2, .null, .null, .null, .int 0, .int 0])), (q_0, .inl (cs 0, 5, .inl (fun _ => 0))), (q_1, .inl (cs 0, 5, .inl (fun _ => 0))), (q_2, .inl (cs 0, 5, .inl (fun _ => 0))), (q_3, .inl (cs 0, 125, .inl (fun _ => 0)))] H := hP
  have hD : va_D A [(h0, .inr (10, [.ref q_0, .ref q_1, .int 0, .ref q_2, .null, .null, .null, .int 0, .int 0])), (q_0, .inl (cs 0, 5, .inl (fun _ => 0))), (q_1, .inl (cs 0, 5, .inl (fun _ => 0))), (q_2, .inl (cs 0, 5, .inl (fun _ => 0))), (q_3, .inl (cs 0, 125, .inl (fun _ => 0)))] := hD
  refine va_putF (D := D) (ci := 10) (v := .ref q_3) (ty := .array .int) (C := RX10) (T := TX10) (N := 9) hx hb ht iX10 tyX10 tyX10_ok nmX10 hown hK hP hD hS 0 rfl rfl 4 (by decide) (ht _ kw_392) (fun _ h9 => h9) rfl hin rfl (by decide +kernel) rfl rfl (Nat.le_of_ble_eq_true rfl) dX10_init_30 (fun H locs hP hD hS => ?_)
  have hP : va_P D classes [(h0, .inr (10, [.ref q_0, .ref q_1, .int 0, .ref q_2, .ref q_3, .null, .null, .int 0, .int 0])), (q_0, .inl (cs 0, 5, .inl (fun _ => 0))), (q_1, .inl (cs 0, 5, .inl (fun _ => 0))), (q_2, .inl (cs 0, 5, .inl (fun _ => 0))), (q_3, .inl (cs 0, 125, .inl (fun _ => 0)))] H := hP
  have hD : va_D A [(h0, .inr (10, [.ref q_0, .ref q_1, .int 0, .ref q_2, .ref q_3, .null, .null, .int 0, .int 0])), (q_0, .inl (cs 0, 5, .inl (fun _ => 0))), (q_1, .inl (cs 0, 5, .inl (fun _ => 0))), (q_2, .inl (cs 0, 5, .inl (fun _ => 0))), (q_3, .inl (cs 0, 125, .inl (fun _ => 0)))] := hD
  refine lv_aload_n hx hb dX10_init_33 rfl (lv_at hl 0 rfl) ?_
  refine lv_iconst (v := (5 : Int32)) hx hb dX10_init_34 (by decide) ?_
  refine zk_newa (atype := .int) (ty := .int) (a0 := (5, .inl (fun _ => 0))) (N' := 5) hx hb (ht _ kw_184) rfl hK 0 rfl (by intro C h; cases h) hP hD hS hA (fun _ => rfl) (by decide) (by decide) (Nat.le_of_ble_eq_true rfl) (Nat.le_of_ble_eq_true rfl) (Nat.le_of_ble_eq_true rfl) dX10_init_35 (fun q_4 H hP hD hS => ?_)
  have hP : va_P D classes [(h0, .inr (10, [.ref q_0, .ref q_1, .int 0, .ref q_2, .ref q_3, .null, .null, .int 0, .int 0])), (q_0, .inl (cs 0, 5, .inl (fun _ => 0))), (q_1, .inl (cs 0, 5, .inl (fun _ => 0))), (q_2, .inl (cs 0, 5, .inl (fun _ => 0))), (q_3, .inl (cs 0, 125, .inl (fun _ => 0))), (q_4, .inl (cs 0, 5, .inl (fun _ => 0)))] H := hP
  have hD : va_D A [(h0, .inr (10, [.ref q_0, .ref q_1, .int 0, .ref q_2, .ref q_3, .null, .null, .int 0, .int 0])), (q_0, .inl (cs 0, 5, .inl (fun _ => 0))), (q_1, .inl (cs 0, 5, .inl (fun _ => 0))), (q_2, .inl (cs 0, 5, .inl (fun _ => 0))), (q_3, .inl (cs 0, 125, .inl (fun _ => 0))), (q_4, .inl (cs 0, 5, .inl (fun _ => 0)))] := hD
  refine va_putF (D := D) (ci := 10) (v := .ref q_4) (ty := .array .int) (C := RX10) (T := TX10) (N := 9) hx hb ht iX10 tyX10 tyX10_ok nmX10 hown hK hP hD hS 0 rfl rfl 5 (by decide) (ht _ kw_393) (fun _ h9 => h9) rfl hin rfl (by decide +kernel) rfl rfl (Nat.le_of_ble_eq_true rfl) dX10_init_37 (fun H locs hP hD hS => ?_)
  have hP : va_P D classes [(h0, .inr (10, [.ref q_0, .ref q_1, .int 0, .ref q_2, .ref q_3, .ref q_4, .null, .int 0, .int 0])), (q_0, .inl (cs 0, 5, .inl (fun _ => 0))), (q_1, .inl (cs 0, 5, .inl (fun _ => 0))), (q_2, .inl (cs 0, 5, .inl (fun _ => 0))), (q_3, .inl (cs 0, 125, .inl (fun _ => 0))), (q_4, .inl (cs 0, 5, .inl (fun _ => 0)))] H := hP
  have hD : va_D A [(h0, .inr (10, [.ref q_0, .ref q_1, .int 0, .ref q_2, .ref q_3, .ref q_4, .null, .int 0, .int 0])), (q_0, .inl (cs 0, 5, .inl (fun _ => 0))), (q_1, .inl (cs 0, 5, .inl (fun _ => 0))), (q_2, .inl (cs 0, 5, .inl (fun _ => 0))), (q_3, .inl (cs 0, 125, .inl (fun _ => 0))), (q_4, .inl (cs 0, 5, .inl (fun _ => 0)))] := hD
  refine lv_aload_n hx hb dX10_init_40 rfl (lv_at hl 0 rfl) ?_
  refine va_new (ci := 7) (fs := [.int 0, .int 0, .int 0, .int 0, .int 0, .int 0, .int 0, .null, .int 0, .int 0, .int 0, .int 0, .int 0, .int 0, .int 0]) (C := RX7) (T := TX7) (N := 15) hx hb ht iX7 tyX7 tyX7_ok hown (ht _ kw_297) (ht _ kw_298) (ht _ kw_82) hK hP hD hS hA rfl (zkDX7) (Nat.le_of_ble_eq_true rfl) (Nat.le_of_ble_eq_true rfl) dX10_init_41 (fun q_5 H hP hD hS => ?_)
  have hP : va_P D classes [(h0, .inr (10, [.ref q_0, .ref q_1, .int 0, .ref q_2, .ref q_3, .ref q_4, .null, .int 0, .int 0])), (q_0, .inl (cs 0, 5, .inl (fun _ => 0))), (q_1, .inl (cs 0, 5, .inl (fun _ => 0))), (q_2, .inl (cs 0, 5, .inl (fun _ => 0))), (q_3, .inl (cs 0, 125, .inl (fun _ => 0))), (q_4, .inl (cs 0, 5, .inl (fun _ => 0))), (q_5, .inr (7, [.int 0, .int 0, .int 0, .int 0, .int 0, .int 0, .int 0, .null, .int 0, .int 0, .int 0, .int 0, .int 0, .int 0, .int 0]))] H := hP
  have hD : va_D A [(h0, .inr (10, [.ref q_0, .ref q_1, .int 0, .ref q_2, .ref q_3, .ref q_4, .null, .int 0, .int 0])), (q_0, .inl (cs 0, 5, .inl (fun _ => 0))), (q_1, .inl (cs 0, 5, .inl (fun _ => 0))), (q_2, .inl (cs 0, 5, .inl (fun _ => 0))), (q_3, .inl (cs 0, 125, .inl (fun _ => 0))), (q_4, .inl (cs 0, 5, .inl (fun _ => 0))), (q_5, .inr (7, [.int 0, .int 0, .int 0, .int 0, .int 0, .int 0, .int 0, .null, .int 0, .int 0, .int 0, .int 0, .int 0, .int 0, .int 0]))] := hD
  refine lv_dup hx hb dX10_init_44 rfl ?_
  refine zk_jv (post := fun _ => True) (w1 := fun (u : Nat → Nat) => [(q_5, .inr (7, [.int 0, .int 0, .int 0, .int 0, .int 0, .int 0, .int (-1 : Int32), .ref (u 0), .int 0, .int 0, .int 0, .int 0, .int 0, .int 0, .int 0])), ((u 0), .inl (cs 0, 32, .inl (fun _ => 0)))]) (As := []) (rest := [.ref q_5, .ref h0]) (ci_X7_init l D cs q_5  H.size) ⟨hx, hb, hml, hown, ht⟩ (⟨va_cnB 0 ht (zGN kw_301) rfl rfl rfl (zOn hO 3 rfl) (ht _ kw_82) (by decide +kernel) ⟨Nat.le_of_ble_eq_true rfl, Nat.le_of_ble_eq_true rfl⟩, rfl, ht _ kw_300⟩) hP hD hS hK hA [6] [0, 1, 2, 3, 4, 5] rfl rfl rfl rfl (by decide) rfl hl.1 (Nat.le_of_ble_eq_true rfl) dX10_init_45 ⟨Nat.le_of_ble_eq_true rfl, Nat.le_of_ble_eq_true rfl⟩ (fun qq_45 H locs hq hP hD hS => ?_)
  have hP : va_P D classes [(h0, .inr (10, [.ref q_0, .ref q_1, .int 0, .ref q_2, .ref q_3, .ref q_4, .null, .int 0, .int 0])), (q_0, .inl (cs 0, 5, .inl (fun _ => 0))), (q_1, .inl (cs 0, 5, .inl (fun _ => 0))), (q_2, .inl (cs 0, 5, .inl (fun _ => 0))), (q_3, .inl (cs 0, 125, .inl (fun _ => 0))), (q_4, .inl (cs 0, 5, .inl (fun _ => 0))), (q_5, .inr (7, [.int 0, .int 0, .int 0, .int 0, .int 0, .int 0, .int (-1 : Int32), .ref (qq_45 0), .int 0, .int 0, .int 0, .int 0, .int 0, .int 0, .int 0])), ((qq_45 0), .inl (cs 0, 32, .inl (fun _ => 0)))] H := hP
  have hD : va_D A [(h0, .inr (10, [.ref q_0, .ref q_1, .int 0, .ref q_2, .ref q_3, .ref q_4, .null, .int 0, .int 0])), (q_0, .inl (cs 0, 5, .inl (fun _ => 0))), (q_1, .inl (cs 0, 5, .inl (fun _ => 0))), (q_2, .inl (cs 0, 5, .inl (fun _ => 0))), (q_3, .inl (cs 0, 125, .inl (fun _ => 0))), (q_4, .inl (cs 0, 5, .inl (fun _ => 0))), (q_5, .inr (7, [.int 0, .int 0, .int 0, .int 0, .int 0, .int 0, .int (-1 : Int32), .ref (qq_45 0), .int 0, .int 0, .int 0, .int 0, .int 0, .int 0, .int 0])), ((qq_45 0), .inl (cs 0, 32, .inl (fun _ => 0)))] := hD
  refine va_putF (D := D) (ci := 10) (v := .ref q_5) (ty := .object "AlreadyJudged$Suit") (C := RX10) (T := TX10) (N := 9) hx hb ht iX10 tyX10 tyX10_ok nmX10 hown hK hP hD hS 0 rfl rfl 6 (by decide) (ht _ kw_394) (fun _ h9 => h9) rfl hin rfl (by decide +kernel) rfl rfl (Nat.le_of_ble_eq_true rfl) dX10_init_48 (fun H locs hP hD hS => ?_)
  have hP : va_P D classes [(h0, .inr (10, [.ref q_0, .ref q_1, .int 0, .ref q_2, .ref q_3, .ref q_4, .ref q_5, .int 0, .int 0])), (q_0, .inl (cs 0, 5, .inl (fun _ => 0))), (q_1, .inl (cs 0, 5, .inl (fun _ => 0))), (q_2, .inl (cs 0, 5, .inl (fun _ => 0))), (q_3, .inl (cs 0, 125, .inl (fun _ => 0))), (q_4, .inl (cs 0, 5, .inl (fun _ => 0))), (q_5, .inr (7, [.int 0, .int 0, .int 0, .int 0, .int 0, .int 0, .int (-1 : Int32), .ref (qq_45 0), .int 0, .int 0, .int 0, .int 0, .int 0, .int 0, .int 0])), ((qq_45 0), .inl (cs 0, 32, .inl (fun _ => 0)))] H := hP
  have hD : va_D A [(h0, .inr (10, [.ref q_0, .ref q_1, .int 0, .ref q_2, .ref q_3, .ref q_4, .ref q_5, .int 0, .int 0])), (q_0, .inl (cs 0, 5, .inl (fun _ => 0))), (q_1, .inl (cs 0, 5, .inl (fun _ => 0))), (q_2, .inl (cs 0, 5, .inl (fun _ => 0))), (q_3, .inl (cs 0, 125, .inl (fun _ => 0))), (q_4, .inl (cs 0, 5, .inl (fun _ => 0))), (q_5, .inr (7, [.int 0, .int 0, .int 0, .int 0, .int 0, .int 0, .int (-1 : Int32), .ref (qq_45 0), .int 0, .int 0, .int 0, .int 0, .int 0, .int 0, .int 0])), ((qq_45 0), .inl (cs 0, 32, .inl (fun _ => 0)))] := hD
  refine W.widen (k := 7) (n := 192) (Nat.le_of_ble_eq_true rfl) (Nat.le_of_ble_eq_true rfl) ?_
  exact W.vret hx hb hr (fun t ht2 hW => ⟨⟨fun k => [q_0, q_1, q_2, q_3, q_4, q_5, (qq_45 0)].getD k 0, rfl, trivial, by rw [ht2]; exact hP, hD⟩, hS.F ht2⟩) hS.2.2 dX10_init_51 hlocks
theorem kw_423 : Cond.methodLink RX1 3 objectInit ∈ zW := zwI (i := 423) (by decide +kernel) (by decide +kernel)
theorem kw_424 : Cond.fieldLink RX1 24 "AlreadyJudged$Changes" "court" "LAlreadyJudged$Court;" ∈ zW := zwI (i := 424) (by decide +kernel) (by decide +kernel)
theorem kw_425 : Cond.fieldLink RX1 9 "AlreadyJudged$Changes" "sorts" "[I" ∈ zW := zwI (i := 425) (by decide +kernel) (by decide +kernel)
theorem kw_426 : Cond.fieldLink RX1 15 "AlreadyJudged$Changes" "numbers" "[I" ∈ zW := zwI (i := 426) (by decide +kernel) (by decide +kernel)
theorem kw_427 : Cond.fieldLink RX1 18 "AlreadyJudged$Changes" "befores" "[I" ∈ zW := zwI (i := 427) (by decide +kernel) (by decide +kernel)
theorem kw_428 : Cond.fieldLink RX1 21 "AlreadyJudged$Changes" "afters" "[I" ∈ zW := zwI (i := 428) (by decide +kernel) (by decide +kernel)
theorem dX1_init_0 : decode cX1_init 0 = .ok (.aload_n 0, 1) := by decide +kernel
theorem dX1_init_1 : decode cX1_init 1 = .ok (.invokespecial 3, 3) := by decide +kernel
theorem dX1_init_4 : decode cX1_init 4 = .ok (.aload_n 0, 1) := by decide +kernel
theorem dX1_init_5 : decode cX1_init 5 = .ok (.bipush 40, 2) := by decide +kernel
theorem dX1_init_7 : decode cX1_init 7 = .ok (.newarray .int, 2) := by decide +kernel
theorem dX1_init_9 : decode cX1_init 9 = .ok (.putfield 9, 3) := by decide +kernel
theorem dX1_init_12 : decode cX1_init 12 = .ok (.aload_n 0, 1) := by decide +kernel
theorem dX1_init_13 : decode cX1_init 13 = .ok (.bipush 40, 2) := by decide +kernel
theorem dX1_init_15 : decode cX1_init 15 = .ok (.newarray .int, 2) := by decide +kernel
theorem dX1_init_17 : decode cX1_init 17 = .ok (.putfield 15, 3) := by decide +kernel
theorem dX1_init_20 : decode cX1_init 20 = .ok (.aload_n 0, 1) := by decide +kernel
theorem dX1_init_21 : decode cX1_init 21 = .ok (.bipush 40, 2) := by decide +kernel
theorem dX1_init_23 : decode cX1_init 23 = .ok (.newarray .int, 2) := by decide +kernel
theorem dX1_init_25 : decode cX1_init 25 = .ok (.putfield 18, 3) := by decide +kernel
theorem dX1_init_28 : decode cX1_init 28 = .ok (.aload_n 0, 1) := by decide +kernel
theorem dX1_init_29 : decode cX1_init 29 = .ok (.bipush 40, 2) := by decide +kernel
theorem dX1_init_31 : decode cX1_init 31 = .ok (.newarray .int, 2) := by decide +kernel
theorem dX1_init_33 : decode cX1_init 33 = .ok (.putfield 21, 3) := by decide +kernel
theorem dX1_init_36 : decode cX1_init 36 = .ok (.aload_n 0, 1) := by decide +kernel
theorem dX1_init_37 : decode cX1_init 37 = .ok (.aload_n 1, 1) := by decide +kernel
theorem dX1_init_38 : decode cX1_init 38 = .ok (.putfield 24, 3) := by decide +kernel
theorem dX1_init_41 : decode cX1_init 41 = .ok (.return_, 1) := by decide +kernel
abbrev z_X1_init : List Cond := .code yX1_init cX1_init 2 none :: zW
abbrev rm_X1_init : Room := { frames := 1, cells := 4, slots := 160, locals := 20 }
set_option maxHeartbeats 4000000 in
set_option maxRecDepth 100000 in
theorem ci_X1_init (l : Launch) (D : va_G) (cs : Nat → ClassId) (h0 : Nat) (p1 : Nat) (sz : Nat) : Met l yX1_init z_X1_init rm_X1_init (va_Pc [.ref h0, .ref p1] (zPre D cs [(h0, .inr (1, [.null, .null, .null, .null, .null, .int 0, .int 0]))] sz)) (va_Qv (fun _ : Nat → Nat => True) (fun (u : Nat → Nat) (t : State) => va_P D classes [(h0, .inr (1, [.ref p1, .ref (u 0), .ref (u 1), .ref (u 2), .ref (u 3), .int 0, .int 0])), ((u 0), .inl (cs 0, 40, .inl (fun _ => 0))), ((u 1), .inl (cs 0, 40, .inl (fun _ => 0))), ((u 2), .inl (cs 0, 40, .inl (fun _ => 0))), ((u 3), .inl (cs 0, 40, .inl (fun _ => 0)))] t.heap ∧ va_D (va_A [(h0, .inr (1, [.null, .null, .null, .null, .null, .int 0, .int 0]))] sz) [(h0, .inr (1, [.ref p1, .ref (u 0), .ref (u 1), .ref (u 2), .ref (u 3), .int 0, .int 0])), ((u 0), .inl (cs 0, 40, .inl (fun _ => 0))), ((u 1), .inl (cs 0, 40, .inl (fun _ => 0))), ((u 2), .inl (cs 0, 40, .inl (fun _ => 0))), ((u 3), .inl (cs 0, 40, .inl (fun _ => 0)))]) (va_A [(h0, .inr (1, [.null, .null, .null, .null, .null, .int 0, .int 0]))] sz)) 4 160 (va_A [(h0, .inr (1, [.null, .null, .null, .null, .null, .int 0, .int 0]))] sz) := by
  refine Met.ofW (cc := cX1_init) (maxL := 2) (ret := none) (by decide) rfl ?_
  intro p e s m args below meth c s₁ B hml hv
  obtain ⟨rfl, hsz, hP, hK, hD0⟩ := hv
  subst hsz
  have hD := hD0.self (sz := s.heap.size)
  have hx := B.exec
  have hb := B.bytes
  have hr := B.returns
  have ht : ∀ w ∈ zW, w.before _ s = true := fun w hw => atoms_spec (ws := z_X1_init) B.pre w (List.mem_cons_of_mem _ hw)
  have hown : s.vm.findClass RX1 = some m.cls := findClass_of_methodNamed B.named
  have hlocks := B.notSynchronized
  have hin : meth.name = "<init>" := (name_of_methodNamed B.named B.method).1
  generalize hAe : va_A [(h0, .inr (1, [.null, .null, .null, .null, .null, .int 0, .int 0]))] s.heap.size = A at hD ⊢
  have hA : ∀ q : Nat, s.heap.size ≤ q → A q := fun q h => by rw [← hAe]; exact Or.inr h
  have hS : va_S A s.heap s.heap [] := va_S.rf
  have hl := lv_entry ([.ref h0, .ref p1]) (n := 2) (Nat.le_of_ble_eq_true rfl)
  rw [lg_entry_eq]
  generalize (lg_sl ([.ref h0, .ref p1]) ++ List.replicate (2 - (lg_sl ([.ref h0, .ref p1])).length) Slot.unset).toArray = ls at hl ⊢
  obtain ⟨H, hH⟩ : ∃ H, H = s.heap := ⟨_, rfl⟩
  have hS : va_S A s.heap H [] := by rw [hH]; exact va_S.rf
  rw [← hH]
  have hP : va_P D classes [(h0, .inr (1, [.null, .null, .null, .null, .null, .int 0, .int 0]))] H := by rw [hH]; exact hP
  clear hH
  refine lv_aload_n hx hb dX1_init_0 rfl (lv_at hl 0 rfl) ?_
  refine W.objInit hx hb hown (ht _ kw_423) (ht _ kw_104) (ht _ kw_105) rfl (by rw [hml]; exact hl.1) rfl dX1_init_1 (Nat.le_of_ble_eq_true rfl) (Nat.le_of_ble_eq_true rfl) ?_
  refine W.eq (g2 := F0 m 4 ls []) rfl ?_
  refine lv_aload_n hx hb dX1_init_4 rfl (lv_at hl 0 rfl) ?_
  refine lv_bipush (v := (40 : Int32)) hx hb dX1_init_5 (by decide) ?_
  refine zk_newa (atype := .int) (ty := .int) (a0 := (40, .inl (fun _ => 0))) (N' := 40) hx hb (ht _ kw_184) rfl hK 0 rfl (by intro C h; cases h) hP hD hS hA (fun _ => rfl) (by decide) (by decide) (Nat.le_of_ble_eq_true rfl) (Nat.le_of_ble_eq_true rfl) (Nat.le_of_ble_eq_true rfl) dX1_init_7 (fun q_0 H hP hD hS => ?_)
  have hP : va_P D classes [(h0, .inr (1, [.null, .null, .null, .null, .null, .int 0, .int 0])), (q_0, .inl (cs 0, 40, .inl (fun _ => 0)))] H := hP
  have hD : va_D A [(h0, .inr (1, [.null, .null, .null, .null, .null, .int 0, .int 0])), (q_0, .inl (cs 0, 40, .inl (fun _ => 0)))] := hD
  refine va_putF (D := D) (ci := 1) (v := .ref q_0) (ty := .array .int) (C := RX1) (T := TX1) (N := 7) hx hb ht iX1 tyX1 tyX1_ok nmX1 hown hK hP hD hS 0 rfl rfl 1 (by decide) (ht _ kw_425) (fun _ h9 => h9) rfl hin rfl (by decide +kernel) rfl rfl (Nat.le_of_ble_eq_true rfl) dX1_init_9 (fun H locs hP hD hS => ?_)
  have hP : va_P D classes [(h0, .inr (1, [.null, .ref q_0, .null, .null, .null, .int 0, .int 0])), (q_0, .inl (cs 0, 40, .inl (fun _ => 0)))] H := hP
  have hD : va_D A [(h0, .inr (1, [.null, .ref q_0, .null, .null, .null, .int 0, .int 0])), (q_0, .inl (cs 0, 40, .inl (fun _ => 0)))] := hD
  refine lv_aload_n hx hb dX1_init_12 rfl (lv_at hl 0 rfl) ?_
  refine lv_bipush (v := (40 : Int32)) hx hb dX1_init_13 (by decide) ?_
  refine zk_newa (atype := .int) (ty := .int) (a0 := (40, .inl (fun _ => 0))) (N' := 40) hx hb (ht _ kw_184) rfl hK 0 rfl (by intro C h; cases h) hP hD hS hA (fun _ => rfl) (by decide) (by decide) (Nat.le_of_ble_eq_true rfl) (Nat.le_of_ble_eq_true rfl) (Nat.le_of_ble_eq_true rfl) dX1_init_15 (fun q_1 H hP hD hS => ?_)
  have hP : va_P D classes [(h0, .inr (1, [.null, .ref q_0, .null, .null, .null, .int 0, .int 0])), (q_0, .inl (cs 0, 40, .inl (fun _ => 0))), (q_1, .inl (cs 0, 40, .inl (fun _ => 0)))] H := hP
  have hD : va_D A [(h0, .inr (1, [.null, .ref q_0, .null, .null, .null, .int 0, .int 0])), (q_0, .inl (cs 0, 40, .inl (fun _ => 0))), (q_1, .inl (cs 0, 40, .inl (fun _ => 0)))] := hD
  refine va_putF (D := D) (ci := 1) (v := .ref q_1) (ty := .array .int) (C := RX1) (T := TX1) (N := 7) hx hb ht iX1 tyX1 tyX1_ok nmX1 hown hK hP hD hS 0 rfl rfl 2 (by decide) (ht _ kw_426) (fun _ h9 => h9) rfl hin rfl (by decide +kernel) rfl rfl (Nat.le_of_ble_eq_true rfl) dX1_init_17 (fun H locs hP hD hS => ?_)
  have hP : va_P D classes [(h0, .inr (1, [.null, .ref q_0, .ref q_1, .null, .null, .int 0, .int 0])), (q_0, .inl (cs 0, 40, .inl (fun _ => 0))), (q_1, .inl (cs 0, 40, .inl (fun _ => 0)))] H := hP
  have hD : va_D A [(h0, .inr (1, [.null, .ref q_0, .ref q_1, .null, .null, .int 0, .int 0])), (q_0, .inl (cs 0, 40, .inl (fun _ => 0))), (q_1, .inl (cs 0, 40, .inl (fun _ => 0)))] := hD
  refine lv_aload_n hx hb dX1_init_20 rfl (lv_at hl 0 rfl) ?_
  refine lv_bipush (v := (40 : Int32)) hx hb dX1_init_21 (by decide) ?_
  refine zk_newa (atype := .int) (ty := .int) (a0 := (40, .inl (fun _ => 0))) (N' := 40) hx hb (ht _ kw_184) rfl hK 0 rfl (by intro C h; cases h) hP hD hS hA (fun _ => rfl) (by decide) (by decide) (Nat.le_of_ble_eq_true rfl) (Nat.le_of_ble_eq_true rfl) (Nat.le_of_ble_eq_true rfl) dX1_init_23 (fun q_2 H hP hD hS => ?_)
  have hP : va_P D classes [(h0, .inr (1, [.null, .ref q_0, .ref q_1, .null, .null, .int 0, .int 0])), (q_0, .inl (cs 0, 40, .inl (fun _ => 0))), (q_1, .inl (cs 0, 40, .inl (fun _ => 0))), (q_2, .inl (cs 0, 40, .inl (fun _ => 0)))] H := hP
  have hD : va_D A [(h0, .inr (1, [.null, .ref q_0, .ref q_1, .null, .null, .int 0, .int 0])), (q_0, .inl (cs 0, 40, .inl (fun _ => 0))), (q_1, .inl (cs 0, 40, .inl (fun _ => 0))), (q_2, .inl (cs 0, 40, .inl (fun _ => 0)))] := hD
  refine va_putF (D := D) (ci := 1) (v := .ref q_2) (ty := .array .int) (C := RX1) (T := TX1) (N := 7) hx hb ht iX1 tyX1 tyX1_ok nmX1 hown hK hP hD hS 0 rfl rfl 3 (by decide) (ht _ kw_427) (fun _ h9 => h9) rfl hin rfl (by decide +kernel) rfl rfl (Nat.le_of_ble_eq_true rfl) dX1_init_25 (fun H locs hP hD hS => ?_)
  have hP : va_P D classes [(h0, .inr (1, [.null, .ref q_0, .ref q_1, .ref q_2, .null, .int 0, .int 0])), (q_0, .inl (cs 0, 40, .inl (fun _ => 0))), (q_1, .inl (cs 0, 40, .inl (fun _ => 0))), (q_2, .inl (cs 0, 40, .inl (fun _ => 0)))] H := hP
  have hD : va_D A [(h0, .inr (1, [.null, .ref q_0, .ref q_1, .ref q_2, .null, .int 0, .int 0])), (q_0, .inl (cs 0, 40, .inl (fun _ => 0))), (q_1, .inl (cs 0, 40, .inl (fun _ => 0))), (q_2, .inl (cs 0, 40, .inl (fun _ => 0)))] := hD
  refine lv_aload_n hx hb dX1_init_28 rfl (lv_at hl 0 rfl) ?_
  refine lv_bipush (v := (40 : Int32)) hx hb dX1_init_29 (by decide) ?_
  refine zk_newa (atype := .int) (ty := .int) (a0 := (40, .inl (fun _ => 0))) (N' := 40) hx hb (ht _ kw_184) rfl hK 0 rfl (by intro C h; cases h) hP hD hS hA (fun _ => rfl) (by decide) (by decide) (Nat.le_of_ble_eq_true rfl) (Nat.le_of_ble_eq_true rfl) (Nat.le_of_ble_eq_true rfl) dX1_init_31 (fun q_3 H hP hD hS => ?_)
  have hP : va_P D classes [(h0, .inr (1, [.null, .ref q_0, .ref q_1, .ref q_2, .null, .int 0, .int 0])), (q_0, .inl (cs 0, 40, .inl (fun _ => 0))), (q_1, .inl (cs 0, 40, .inl (fun _ => 0))), (q_2, .inl (cs 0, 40, .inl (fun _ => 0))), (q_3, .inl (cs 0, 40, .inl (fun _ => 0)))] H := hP
  have hD : va_D A [(h0, .inr (1, [.null, .ref q_0, .ref q_1, .ref q_2, .null, .int 0, .int 0])), (q_0, .inl (cs 0, 40, .inl (fun _ => 0))), (q_1, .inl (cs 0, 40, .inl (fun _ => 0))), (q_2, .inl (cs 0, 40, .inl (fun _ => 0))), (q_3, .inl (cs 0, 40, .inl (fun _ => 0)))] := hD
  refine va_putF (D := D) (ci := 1) (v := .ref q_3) (ty := .array .int) (C := RX1) (T := TX1) (N := 7) hx hb ht iX1 tyX1 tyX1_ok nmX1 hown hK hP hD hS 0 rfl rfl 4 (by decide) (ht _ kw_428) (fun _ h9 => h9) rfl hin rfl (by decide +kernel) rfl rfl (Nat.le_of_ble_eq_true rfl) dX1_init_33 (fun H locs hP hD hS => ?_)
  have hP : va_P D classes [(h0, .inr (1, [.null, .ref q_0, .ref q_1, .ref q_2, .ref q_3, .int 0, .int 0])), (q_0, .inl (cs 0, 40, .inl (fun _ => 0))), (q_1, .inl (cs 0, 40, .inl (fun _ => 0))), (q_2, .inl (cs 0, 40, .inl (fun _ => 0))), (q_3, .inl (cs 0, 40, .inl (fun _ => 0)))] H := hP
  have hD : va_D A [(h0, .inr (1, [.null, .ref q_0, .ref q_1, .ref q_2, .ref q_3, .int 0, .int 0])), (q_0, .inl (cs 0, 40, .inl (fun _ => 0))), (q_1, .inl (cs 0, 40, .inl (fun _ => 0))), (q_2, .inl (cs 0, 40, .inl (fun _ => 0))), (q_3, .inl (cs 0, 40, .inl (fun _ => 0)))] := hD
  refine lv_aload_n hx hb dX1_init_36 rfl (lv_at hl 0 rfl) ?_
  refine lv_aload_n hx hb dX1_init_37 rfl (lv_at hl 1 rfl) ?_
  refine va_putF (D := D) (ci := 1) (v := .ref p1) (ty := .object "AlreadyJudged$Court") (C := RX1) (T := TX1) (N := 7) hx hb ht iX1 tyX1 tyX1_ok nmX1 hown hK hP hD hS 0 rfl rfl 0 (by decide) (ht _ kw_424) (fun _ h9 => h9) rfl hin rfl (by decide +kernel) rfl rfl (Nat.le_of_ble_eq_true rfl) dX1_init_38 (fun H locs hP hD hS => ?_)
  have hP : va_P D classes [(h0, .inr (1, [.ref p1, .ref q_0, .ref q_1, .ref q_2, .ref q_3, .int 0, .int 0])), (q_0, .inl (cs 0, 40, .inl (fun _ => 0))), (q_1, .inl (cs 0, 40, .inl (fun _ => 0))), (q_2, .inl (cs 0, 40, .inl (fun _ => 0))), (q_3, .inl (cs 0, 40, .inl (fun _ => 0)))] H := hP
  have hD : va_D A [(h0, .inr (1, [.ref p1, .ref q_0, .ref q_1, .ref q_2, .ref q_3, .int 0, .int 0])), (q_0, .inl (cs 0, 40, .inl (fun _ => 0))), (q_1, .inl (cs 0, 40, .inl (fun _ => 0))), (q_2, .inl (cs 0, 40, .inl (fun _ => 0))), (q_3, .inl (cs 0, 40, .inl (fun _ => 0)))] := hD
  refine W.widen (k := 4) (n := 160) (Nat.le_of_ble_eq_true rfl) (Nat.le_of_ble_eq_true rfl) ?_
  exact W.vret hx hb hr (fun t ht2 hW => ⟨⟨fun k => [q_0, q_1, q_2, q_3].getD k 0, rfl, trivial, by rw [ht2]; exact hP, hD⟩, hS.F ht2⟩) hS.2.2 dX1_init_41 hlocks
theorem kw_452 : Cond.methodLink RX0 3 objectInit ∈ zW := zwI (i := 452) (by decide +kernel) (by decide +kernel)
theorem kw_453 : Cond.fieldLink RX0 9 "AlreadyJudged$Acts" "bodies" "[I" ∈ zW := zwI (i := 453) (by decide +kernel) (by decide +kernel)
theorem dX0_init_0 : decode cX0_init 0 = .ok (.aload_n 0, 1) := by decide +kernel
theorem dX0_init_1 : decode cX0_init 1 = .ok (.invokespecial 3, 3) := by decide +kernel
theorem dX0_init_4 : decode cX0_init 4 = .ok (.aload_n 0, 1) := by decide +kernel
theorem dX0_init_5 : decode cX0_init 5 = .ok (.bipush 24, 2) := by decide +kernel
theorem dX0_init_7 : decode cX0_init 7 = .ok (.newarray .int, 2) := by decide +kernel
theorem dX0_init_9 : decode cX0_init 9 = .ok (.putfield 9, 3) := by decide +kernel
theorem dX0_init_12 : decode cX0_init 12 = .ok (.return_, 1) := by decide +kernel
abbrev z_X0_init : List Cond := .code yX0_init cX0_init 1 none :: zW
abbrev rm_X0_init : Room := { frames := 1, cells := 1, slots := 24, locals := 20 }
set_option maxHeartbeats 4000000 in
set_option maxRecDepth 100000 in
theorem ci_X0_init (l : Launch) (D : va_G) (cs : Nat → ClassId) (h0 : Nat)  (sz : Nat) : Met l yX0_init z_X0_init rm_X0_init (va_Pc [.ref h0] (zPre D cs [(h0, .inr (0, [.null, .int 0, .int 0, .int 0, .int 0]))] sz)) (va_Qv (fun _ : Nat → Nat => True) (fun (u : Nat → Nat) (t : State) => va_P D classes [(h0, .inr (0, [.ref (u 0), .int 0, .int 0, .int 0, .int 0])), ((u 0), .inl (cs 0, 24, .inl (fun _ => 0)))] t.heap ∧ va_D (va_A [(h0, .inr (0, [.null, .int 0, .int 0, .int 0, .int 0]))] sz) [(h0, .inr (0, [.ref (u 0), .int 0, .int 0, .int 0, .int 0])), ((u 0), .inl (cs 0, 24, .inl (fun _ => 0)))]) (va_A [(h0, .inr (0, [.null, .int 0, .int 0, .int 0, .int 0]))] sz)) 1 24 (va_A [(h0, .inr (0, [.null, .int 0, .int 0, .int 0, .int 0]))] sz) := by
  refine Met.ofW (cc := cX0_init) (maxL := 1) (ret := none) (by decide) rfl ?_
  intro p e s m args below meth c s₁ B hml hv
  obtain ⟨rfl, hsz, hP, hK, hD0⟩ := hv
  subst hsz
  have hD := hD0.self (sz := s.heap.size)
  have hx := B.exec
  have hb := B.bytes
  have hr := B.returns
  have ht : ∀ w ∈ zW, w.before _ s = true := fun w hw => atoms_spec (ws := z_X0_init) B.pre w (List.mem_cons_of_mem _ hw)
  have hown : s.vm.findClass RX0 = some m.cls := findClass_of_methodNamed B.named
  have hlocks := B.notSynchronized
  have hin : meth.name = "<init>" := (name_of_methodNamed B.named B.method).1
  generalize hAe : va_A [(h0, .inr (0, [.null, .int 0, .int 0, .int 0, .int 0]))] s.heap.size = A at hD ⊢
  have hA : ∀ q : Nat, s.heap.size ≤ q → A q := fun q h => by rw [← hAe]; exact Or.inr h
  have hS : va_S A s.heap s.heap [] := va_S.rf
  have hl := lv_entry ([.ref h0]) (n := 1) (Nat.le_of_ble_eq_true rfl)
  rw [lg_entry_eq]
  generalize (lg_sl ([.ref h0]) ++ List.replicate (1 - (lg_sl ([.ref h0])).length) Slot.unset).toArray = ls at hl ⊢
  obtain ⟨H, hH⟩ : ∃ H, H = s.heap := ⟨_, rfl⟩
  have hS : va_S A s.heap H [] := by rw [hH]; exact va_S.rf
  rw [← hH]
  have hP : va_P D classes [(h0, .inr (0, [.null, .int 0, .int 0, .int 0, .int 0]))] H := by rw [hH]; exact hP
  clear hH
  refine lv_aload_n hx hb dX0_init_0 rfl (lv_at hl 0 rfl) ?_
  refine W.objInit hx hb hown (ht _ kw_452) (ht _ kw_104) (ht _ kw_105) rfl (by rw [hml]; exact hl.1) rfl dX0_init_1 (Nat.le_of_ble_eq_true rfl) (Nat.le_of_ble_eq_true rfl) ?_
  refine W.eq (g2 := F0 m 4 ls []) rfl ?_
  refine lv_aload_n hx hb dX0_init_4 rfl (lv_at hl 0 rfl) ?_
  refine lv_bipush (v := (24 : Int32)) hx hb dX0_init_5 (by decide) ?_
  refine zk_newa (atype := .int) (ty := .int) (a0 := (24, .inl (fun _ => 0))) (N' := 24) hx hb (ht _ kw_184) rfl hK 0 rfl (by intro C h; cases h) hP hD hS hA (fun _ => rfl) (by decide) (by decide) (Nat.le_of_ble_eq_true rfl) (Nat.le_of_ble_eq_true rfl) (Nat.le_of_ble_eq_true rfl) dX0_init_7 (fun q_0 H hP hD hS => ?_)
  have hP : va_P D classes [(h0, .inr (0, [.null, .int 0, .int 0, .int 0, .int 0])), (q_0, .inl (cs 0, 24, .inl (fun _ => 0)))] H := hP
  have hD : va_D A [(h0, .inr (0, [.null, .int 0, .int 0, .int 0, .int 0])), (q_0, .inl (cs 0, 24, .inl (fun _ => 0)))] := hD
  refine va_putF (D := D) (ci := 0) (v := .ref q_0) (ty := .array .int) (C := RX0) (T := TX0) (N := 5) hx hb ht iX0 tyX0 tyX0_ok nmX0 hown hK hP hD hS 0 rfl rfl 0 (by decide) (ht _ kw_453) (fun _ h9 => h9) rfl hin rfl (by decide +kernel) rfl rfl (Nat.le_of_ble_eq_true rfl) dX0_init_9 (fun H locs hP hD hS => ?_)
  have hP : va_P D classes [(h0, .inr (0, [.ref q_0, .int 0, .int 0, .int 0, .int 0])), (q_0, .inl (cs 0, 24, .inl (fun _ => 0)))] H := hP
  have hD : va_D A [(h0, .inr (0, [.ref q_0, .int 0, .int 0, .int 0, .int 0])), (q_0, .inl (cs 0, 24, .inl (fun _ => 0)))] := hD
  refine W.widen (k := 1) (n := 24) (Nat.le_of_ble_eq_true rfl) (Nat.le_of_ble_eq_true rfl) ?_
  exact W.vret hx hb hr (fun t ht2 hW => ⟨⟨fun k => [q_0].getD k 0, rfl, trivial, by rw [ht2]; exact hP, hD⟩, hS.F ht2⟩) hS.2.2 dX0_init_12 hlocks
