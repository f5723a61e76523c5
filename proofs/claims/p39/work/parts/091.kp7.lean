
def KPk (z u : ZT) : Prop := (u.1 1) = (z.1 1) ∧ (u.2.1 6) = (z.2.1 6) ∧ (u.2.1 7) = (z.2.1 7) ∧ (u.2.1 8) = (z.2.1 8) ∧ (u.2.1 9) = (z.2.1 9) ∧ (u.1 0) = (z.1 0) ∧ (u.2.1 15) = (z.2.1 15) ∧ (u.2.1 2) = (z.2.1 2) ∧ (u.2.1 3) = (z.2.1 3) ∧ (u.2.1 4) = (z.2.1 4) ∧ (u.2.1 5) = (z.2.1 5) ∧ (u.1 13) = (z.1 13) ∧ (u.2.1 17) = (z.2.1 17) ∧ (u.2.1 18) = (z.2.1 18) ∧ (u.1 32) = (z.1 32) ∧ (u.2.1 27) = (z.2.1 27) ∧ (u.1 30) = (z.1 30) ∧ (u.2.1 23) = (z.2.1 23) ∧ (u.2.1 24) = (z.2.1 24) ∧ (u.2.1 25) = (z.2.1 25) ∧ (u.2.1 26) = (z.2.1 26) ∧ (u.1 31) = (z.1 31) ∧ (u.1 36) = (z.1 36) ∧ (u.1 37) = (z.1 37) ∧ (u.1 38) = (z.1 38) ∧ (u.2.2.1 2) = (z.2.2.1 2) ∧ (u.1 39) = (z.1 39) ∧ (u.1 40) = (z.1 40) ∧ (u.1 41) = (z.1 41) ∧ (u.2.2.1 3) = (z.2.2.1 3) ∧ (u.1 42) = (z.1 42) ∧ (u.1 43) = (z.1 43) ∧ (u.1 44) = (z.1 44) ∧ (u.2.2.1 4) = (z.2.2.1 4) ∧ (u.1 45) = (z.1 45) ∧ (u.1 46) = (z.1 46) ∧ (u.1 47) = (z.1 47) ∧ (u.2.2.1 5) = (z.2.2.1 5) ∧ (u.1 48) = (z.1 48) ∧ (u.1 49) = (z.1 49) ∧ (u.1 50) = (z.1 50) ∧ (u.2.2.1 6) = (z.2.2.1 6) ∧ (u.1 51) = (z.1 51) ∧ (u.1 52) = (z.1 52) ∧ (u.1 53) = (z.1 53) ∧ (u.2.2.1 7) = (z.2.2.1 7)
def KPS_k (z u : ZT) : Prop := (u.2.1 28) = (z.2.1 28) ∧ (u.2.1 29) = (z.2.1 29) ∧ (u.2.1 30) = (z.2.1 30) ∧ (u.2.1 32) = (z.2.1 32) ∧ (u.2.1 33) = (z.2.1 33) ∧ (u.2.1 35) = (z.2.1 35) ∧ (u.2.1 36) = (z.2.1 36) ∧ (u.2.1 37) = (z.2.1 37) ∧ (u.2.1 38) = (z.2.1 38) ∧ (u.2.1 39) = (z.2.1 39) ∧ (u.2.1 40) = (z.2.1 40) ∧ (u.2.1 41) = (z.2.1 41) ∧ (u.2.2.2.2.2.1 0) = (z.2.2.2.2.2.1 0) ∧ (u.2.1 31) = (z.2.1 31) ∧ (u.2.1 34) = (z.2.1 34)
def KPL (z u : ZT) (x1 : Int32) : Prop := KPk z u ∧ KPS_k z u ∧ (u.1 2) = (z.1 2) ∧ (((x1 < 0 ∨ 4 ≤ x1 / (10 : Int32) ∨ ¬ (x1 - x1 / (10 : Int32) * (10 : Int32) < 8)) ∧ (u.1 6) = (z.1 6)) ∨ (¬ (x1 < 0 ∨ 4 ≤ x1 / (10 : Int32) ∨ ¬ (x1 - x1 / (10 : Int32) * (10 : Int32) < 8)) ∧ (u.1 6) = 0))
theorem kw_111 : Cond.methodLink RX2 3 objectInit ∈ zW := zwC (i := 37) zc_1 rfl rfl
theorem kw_112 : Cond.classLink RX2 36 "AlreadyJudged$Suit" ∈ zW := zwC (i := 38) zc_1 rfl rfl
theorem kw_114 : Cond.classLink RX2 42 "AlreadyJudged$Law" ∈ zW := zwC (i := 40) zc_1 rfl rfl
theorem kw_145 : Cond.fieldLink RX2 44 "AlreadyJudged$Court" "laws" "[LAlreadyJudged$Law;" ∈ zW := zwC (i := 71) zc_1 rfl rfl
theorem zh_cX2_init_0 : zck [42, 183, 0, 3, 42, 16, 40, 188, 10, 181, 0, 9, 42, 16, 40, 188, 10, 181, 0, 15, 42, 16] (zdu 0 cX2_init.data.toList) = true := by decide +kernel
theorem dX2_init_0 : decode cX2_init 0 = .ok (.aload_n 0, 1) := zo_42 zh_cX2_init_0 0 rfl
theorem dX2_init_1 : decode cX2_init 1 = .ok (.invokespecial 3, 3) := zo_183 zh_cX2_init_0 1 rfl
theorem dX2_init_4 : decode cX2_init 4 = .ok (.aload_n 0, 1) := zo_42 zh_cX2_init_0 4 rfl
theorem dX2_init_5 : decode cX2_init 5 = .ok (.bipush 40, 2) := zo_p16 zh_cX2_init_0 5 40 rfl rfl
theorem dX2_init_7 : decode cX2_init 7 = .ok (.newarray .int, 2) := zo_188_int zh_cX2_init_0 7 rfl
theorem dX2_init_9 : decode cX2_init 9 = .ok (.putfield 9, 3) := zo_181 zh_cX2_init_0 9 rfl
theorem dX2_init_12 : decode cX2_init 12 = .ok (.aload_n 0, 1) := zo_42 zh_cX2_init_0 12 rfl
theorem dX2_init_13 : decode cX2_init 13 = .ok (.bipush 40, 2) := zo_p16 zh_cX2_init_0 13 40 rfl rfl
theorem dX2_init_15 : decode cX2_init 15 = .ok (.newarray .int, 2) := zo_188_int zh_cX2_init_0 15 rfl
theorem dX2_init_17 : decode cX2_init 17 = .ok (.putfield 15, 3) := zo_181 zh_cX2_init_0 17 rfl
theorem zh_cX2_init_1 : zck [42, 16, 40, 188, 10, 181, 0, 18, 42, 16, 40, 188, 10, 181, 0, 21, 42, 16, 32, 188, 10, 181] (zdu 20 cX2_init.data.toList) = true := by decide +kernel
theorem dX2_init_20 : decode cX2_init 20 = .ok (.aload_n 0, 1) := zo_42 zh_cX2_init_1 0 rfl
theorem dX2_init_21 : decode cX2_init 21 = .ok (.bipush 40, 2) := zo_p16 zh_cX2_init_1 1 40 rfl rfl
theorem dX2_init_23 : decode cX2_init 23 = .ok (.newarray .int, 2) := zo_188_int zh_cX2_init_1 3 rfl
theorem dX2_init_25 : decode cX2_init 25 = .ok (.putfield 18, 3) := zo_181 zh_cX2_init_1 5 rfl
theorem dX2_init_28 : decode cX2_init 28 = .ok (.aload_n 0, 1) := zo_42 zh_cX2_init_1 8 rfl
theorem dX2_init_29 : decode cX2_init 29 = .ok (.bipush 40, 2) := zo_p16 zh_cX2_init_1 9 40 rfl rfl
theorem dX2_init_31 : decode cX2_init 31 = .ok (.newarray .int, 2) := zo_188_int zh_cX2_init_1 11 rfl
theorem dX2_init_33 : decode cX2_init 33 = .ok (.putfield 21, 3) := zo_181 zh_cX2_init_1 13 rfl
theorem dX2_init_36 : decode cX2_init 36 = .ok (.aload_n 0, 1) := zo_42 zh_cX2_init_1 16 rfl
theorem dX2_init_37 : decode cX2_init 37 = .ok (.bipush 32, 2) := zo_p16 zh_cX2_init_1 17 32 rfl rfl
theorem dX2_init_39 : decode cX2_init 39 = .ok (.newarray .int, 2) := zo_188_int zh_cX2_init_1 19 rfl
theorem zh_cX2_init_2 : zck [10, 181, 0, 24, 42, 16, 32, 188, 10, 181, 0, 27, 42, 16, 32, 188, 10, 181, 0, 30, 42, 16] (zdu 40 cX2_init.data.toList) = true := by decide +kernel
theorem dX2_init_41 : decode cX2_init 41 = .ok (.putfield 24, 3) := zo_181 zh_cX2_init_2 1 rfl
theorem dX2_init_44 : decode cX2_init 44 = .ok (.aload_n 0, 1) := zo_42 zh_cX2_init_2 4 rfl
theorem dX2_init_45 : decode cX2_init 45 = .ok (.bipush 32, 2) := zo_p16 zh_cX2_init_2 5 32 rfl rfl
theorem dX2_init_47 : decode cX2_init 47 = .ok (.newarray .int, 2) := zo_188_int zh_cX2_init_2 7 rfl
theorem dX2_init_49 : decode cX2_init 49 = .ok (.putfield 27, 3) := zo_181 zh_cX2_init_2 9 rfl
theorem dX2_init_52 : decode cX2_init 52 = .ok (.aload_n 0, 1) := zo_42 zh_cX2_init_2 12 rfl
theorem dX2_init_53 : decode cX2_init 53 = .ok (.bipush 32, 2) := zo_p16 zh_cX2_init_2 13 32 rfl rfl
theorem dX2_init_55 : decode cX2_init 55 = .ok (.newarray .int, 2) := zo_188_int zh_cX2_init_2 15 rfl
theorem dX2_init_57 : decode cX2_init 57 = .ok (.putfield 30, 3) := zo_181 zh_cX2_init_2 17 rfl
theorem zh_cX2_init_3 : zck [42, 16, 32, 188, 10, 181, 0, 33, 42, 16, 40, 189, 0, 36, 181, 0, 38, 42, 16, 32, 189, 0] (zdu 60 cX2_init.data.toList) = true := by decide +kernel
theorem dX2_init_60 : decode cX2_init 60 = .ok (.aload_n 0, 1) := zo_42 zh_cX2_init_3 0 rfl
theorem dX2_init_61 : decode cX2_init 61 = .ok (.bipush 32, 2) := zo_p16 zh_cX2_init_3 1 32 rfl rfl
theorem dX2_init_63 : decode cX2_init 63 = .ok (.newarray .int, 2) := zo_188_int zh_cX2_init_3 3 rfl
theorem dX2_init_65 : decode cX2_init 65 = .ok (.putfield 33, 3) := zo_181 zh_cX2_init_3 5 rfl
theorem dX2_init_68 : decode cX2_init 68 = .ok (.aload_n 0, 1) := zo_42 zh_cX2_init_3 8 rfl
theorem dX2_init_69 : decode cX2_init 69 = .ok (.bipush 40, 2) := zo_p16 zh_cX2_init_3 9 40 rfl rfl
theorem zo_189 {c : ByteArray} {s : Nat} {K : List Nat} (h : zck K (zdu s c.data.toList) = true) (k : Nat) {v : Nat} (hk : zt3 K k 189 v = true) : decode c (s + k) = .ok (.anewarray v, 3) := zde ((zbd (zu1 (zh3 h hk).1)).trans ((zbd (f := fun x => pure (Instr.anewarray x)) (zh3 h hk).2).trans rfl))
theorem dX2_init_71 : decode cX2_init 71 = .ok (.anewarray 36, 3) := zo_189 zh_cX2_init_3 11 rfl
theorem dX2_init_74 : decode cX2_init 74 = .ok (.putfield 38, 3) := zo_181 zh_cX2_init_3 14 rfl
theorem dX2_init_77 : decode cX2_init 77 = .ok (.aload_n 0, 1) := zo_42 zh_cX2_init_3 17 rfl
theorem dX2_init_78 : decode cX2_init 78 = .ok (.bipush 32, 2) := zo_p16 zh_cX2_init_3 18 32 rfl rfl
theorem zh_cX2_init_4 : zck [189, 0, 42, 181, 0, 44, 177] (zdu 80 cX2_init.data.toList) = true := by decide +kernel
theorem dX2_init_80 : decode cX2_init 80 = .ok (.anewarray 42, 3) := zo_189 zh_cX2_init_4 0 rfl
theorem dX2_init_83 : decode cX2_init 83 = .ok (.putfield 44, 3) := zo_181 zh_cX2_init_4 3 rfl
theorem dX2_init_86 : decode cX2_init 86 = .ok (.return_, 1) := zo_177 zh_cX2_init_4 6 rfl
abbrev z_X2_init : List Cond := .code yX2_init cX2_init 1 none :: zW
abbrev rm_X2_init : Room := { frames := 1, cells := 10, slots := 360, locals := 20 }
set_option maxHeartbeats 4000000 in
set_option maxRecDepth 100000 in
theorem ci_X2_init (l : Launch) (D : va_G) (cs : Nat → ClassId) (h0 : Nat)  (sz : Nat) : Met l yX2_init z_X2_init rm_X2_init (va_Pc [.ref h0] (zPreO D cs [(h0, .inr (2, [.null, .null, .null, .null, .null, .null, .null, .null, .null, .null, .int 0, .int 0, .int 0]))] sz)) (va_Qv (fun _ : Nat → Nat => True) (fun (u : Nat → Nat) (t : State) => va_P D classes [(h0, .inr (2, [.ref (u 0), .ref (u 1), .ref (u 2), .ref (u 3), .ref (u 4), .ref (u 5), .ref (u 6), .ref (u 7), .ref (u 8), .ref (u 9), .int 0, .int 0, .int 0])), ((u 0), .inl (cs 0, 40, .inl (fun _ => 0))), ((u 1), .inl (cs 0, 40, .inl (fun _ => 0))), ((u 2), .inl (cs 0, 40, .inl (fun _ => 0))), ((u 3), .inl (cs 0, 40, .inl (fun _ => 0))), ((u 4), .inl (cs 0, 32, .inl (fun _ => 0))), ((u 5), .inl (cs 0, 32, .inl (fun _ => 0))), ((u 6), .inl (cs 0, 32, .inl (fun _ => 0))), ((u 7), .inl (cs 0, 32, .inl (fun _ => 0))), ((u 8), .inl (cs 5, 40, .inr (.inr (.inr (.inr (fun _ => none)))))), ((u 9), .inl (cs 6, 32, .inr (.inr (.inr (.inr (fun _ => none))))))] t.heap ∧ va_D (va_A [(h0, .inr (2, [.null, .null, .null, .null, .null, .null, .null, .null, .null, .null, .int 0, .int 0, .int 0]))] sz) [(h0, .inr (2, [.ref (u 0), .ref (u 1), .ref (u 2), .ref (u 3), .ref (u 4), .ref (u 5), .ref (u 6), .ref (u 7), .ref (u 8), .ref (u 9), .int 0, .int 0, .int 0])), ((u 0), .inl (cs 0, 40, .inl (fun _ => 0))), ((u 1), .inl (cs 0, 40, .inl (fun _ => 0))), ((u 2), .inl (cs 0, 40, .inl (fun _ => 0))), ((u 3), .inl (cs 0, 40, .inl (fun _ => 0))), ((u 4), .inl (cs 0, 32, .inl (fun _ => 0))), ((u 5), .inl (cs 0, 32, .inl (fun _ => 0))), ((u 6), .inl (cs 0, 32, .inl (fun _ => 0))), ((u 7), .inl (cs 0, 32, .inl (fun _ => 0))), ((u 8), .inl (cs 5, 40, .inr (.inr (.inr (.inr (fun _ => none)))))), ((u 9), .inl (cs 6, 32, .inr (.inr (.inr (.inr (fun _ => none))))))]) (va_A [(h0, .inr (2, [.null, .null, .null, .null, .null, .null, .null, .null, .null, .null, .int 0, .int 0, .int 0]))] sz)) 10 360 (va_A [(h0, .inr (2, [.null, .null, .null, .null, .null, .null, .null, .null, .null, .null, .int 0, .int 0, .int 0]))] sz) := by
  refine Met.ofW (cc := cX2_init) (maxL := 1) (ret := none) (by decide) rfl ?_
  intro p e s m args below meth c s₁ B hml hv
  obtain ⟨rfl, ⟨hsz, hP, hK, hD0⟩, hO⟩ := hv
  subst hsz
  have hD := hD0.self (sz := s.heap.size)
  have hx := B.exec
  have hb := B.bytes
  have hr := B.returns
  have ht : ∀ w ∈ zW, w.before _ s = true := fun w hw => atoms_spec (ws := z_X2_init) B.pre w (List.mem_cons_of_mem _ hw)
  have hown : s.vm.findClass RX2 = some m.cls := findClass_of_methodNamed B.named
  have hlocks := B.notSynchronized
  have hin : meth.name = "<init>" := (name_of_methodNamed B.named B.method).1
  generalize hAe : va_A [(h0, .inr (2, [.null, .null, .null, .null, .null, .null, .null, .null, .null, .null, .int 0, .int 0, .int 0]))] s.heap.size = A at hD ⊢
  have hA : ∀ q : Nat, s.heap.size ≤ q → A q := fun q h => by rw [← hAe]; exact Or.inr h
  have hS : va_S A s.heap s.heap [] := va_S.rf
  have hl := lv_entry ([.ref h0]) (n := 1) (Nat.le_of_ble_eq_true rfl)
  rw [lg_entry_eq]
  generalize (lg_sl ([.ref h0]) ++ List.replicate (1 - (lg_sl ([.ref h0])).length) Slot.unset).toArray = ls at hl ⊢
  obtain ⟨H, hH⟩ : ∃ H, H = s.heap := ⟨_, rfl⟩
  have hS : va_S A s.heap H [] := by rw [hH]; exact va_S.rf
  rw [← hH]
  have hP : va_P D classes [(h0, .inr (2, [.null, .null, .null, .null, .null, .null, .null, .null, .null, .null, .int 0, .int 0, .int 0]))] H := by rw [hH]; exact hP
  clear hH
  refine lv_aload_n hx hb dX2_init_0 rfl (lv_at hl 0 rfl) ?_
  refine W.objInit hx hb hown (ht _ kw_111) (ht _ kw_104) (ht _ kw_105) rfl (by rw [hml]; exact hl.1) rfl dX2_init_1 (Nat.le_of_ble_eq_true rfl) (Nat.le_of_ble_eq_true rfl) ?_
  refine W.eq (g2 := F0 m 4 ls []) rfl ?_
  refine lv_aload_n hx hb dX2_init_4 rfl (lv_at hl 0 rfl) ?_
  refine lv_bipush (v := (40 : Int32)) hx hb dX2_init_5 (by decide) ?_
  refine zk_newa (atype := .int) (ty := .int) (a0 := (40, .inl (fun _ => 0))) (N' := 40) hx hb (ht _ kw_184) rfl hK 0 rfl (by intro C h; cases h) hP hD hS hA (fun _ => rfl) (by decide) (by decide) (Nat.le_of_ble_eq_true rfl) (Nat.le_of_ble_eq_true rfl) (Nat.le_of_ble_eq_true rfl) dX2_init_7 (fun q_0 H hP hD hS => ?_)
  refine va_putF (D := D) (ci := 2) (v := .ref q_0) (ty := .array .int) (C := RX2) (T := TX2) (N := 13) hx hb ht iX2 tyX2 tyX2_ok nmX2 hown hK hP hD hS 0 rfl rfl 0 (by decide) (ht _ kw_116) (fun _ h9 => h9) rfl hin rfl (by decide +kernel) rfl rfl (Nat.le_of_ble_eq_true rfl) dX2_init_9 (fun H locs hP hD hS => ?_)
  refine lv_aload_n hx hb dX2_init_12 rfl (lv_at hl 0 rfl) ?_
  refine lv_bipush (v := (40 : Int32)) hx hb dX2_init_13 (by decide) ?_
  refine zk_newa (atype := .int) (ty := .int) (a0 := (40, .inl (fun _ => 0))) (N' := 40) hx hb (ht _ kw_184) rfl hK 0 rfl (by intro C h; cases h) hP hD hS hA (fun _ => rfl) (by decide) (by decide) (Nat.le_of_ble_eq_true rfl) (Nat.le_of_ble_eq_true rfl) (Nat.le_of_ble_eq_true rfl) dX2_init_15 (fun q_1 H hP hD hS => ?_)
  refine va_putF (D := D) (ci := 2) (v := .ref q_1) (ty := .array .int) (C := RX2) (T := TX2) (N := 13) hx hb ht iX2 tyX2 tyX2_ok nmX2 hown hK hP hD hS 0 rfl rfl 1 (by decide) (ht _ kw_119) (fun _ h9 => h9) rfl hin rfl (by decide +kernel) rfl rfl (Nat.le_of_ble_eq_true rfl) dX2_init_17 (fun H locs hP hD hS => ?_)
  refine lv_aload_n hx hb dX2_init_20 rfl (lv_at hl 0 rfl) ?_
  refine lv_bipush (v := (40 : Int32)) hx hb dX2_init_21 (by decide) ?_
  refine zk_newa (atype := .int) (ty := .int) (a0 := (40, .inl (fun _ => 0))) (N' := 40) hx hb (ht _ kw_184) rfl hK 0 rfl (by intro C h; cases h) hP hD hS hA (fun _ => rfl) (by decide) (by decide) (Nat.le_of_ble_eq_true rfl) (Nat.le_of_ble_eq_true rfl) (Nat.le_of_ble_eq_true rfl) dX2_init_23 (fun q_2 H hP hD hS => ?_)
  refine va_putF (D := D) (ci := 2) (v := .ref q_2) (ty := .array .int) (C := RX2) (T := TX2) (N := 13) hx hb ht iX2 tyX2 tyX2_ok nmX2 hown hK hP hD hS 0 rfl rfl 2 (by decide) (ht _ kw_122) (fun _ h9 => h9) rfl hin rfl (by decide +kernel) rfl rfl (Nat.le_of_ble_eq_true rfl) dX2_init_25 (fun H locs hP hD hS => ?_)
  refine lv_aload_n hx hb dX2_init_28 rfl (lv_at hl 0 rfl) ?_
  refine lv_bipush (v := (40 : Int32)) hx hb dX2_init_29 (by decide) ?_
  refine zk_newa (atype := .int) (ty := .int) (a0 := (40, .inl (fun _ => 0))) (N' := 40) hx hb (ht _ kw_184) rfl hK 0 rfl (by intro C h; cases h) hP hD hS hA (fun _ => rfl) (by decide) (by decide) (Nat.le_of_ble_eq_true rfl) (Nat.le_of_ble_eq_true rfl) (Nat.le_of_ble_eq_true rfl) dX2_init_31 (fun q_3 H hP hD hS => ?_)
  refine va_putF (D := D) (ci := 2) (v := .ref q_3) (ty := .array .int) (C := RX2) (T := TX2) (N := 13) hx hb ht iX2 tyX2 tyX2_ok nmX2 hown hK hP hD hS 0 rfl rfl 3 (by decide) (ht _ kw_125) (fun _ h9 => h9) rfl hin rfl (by decide +kernel) rfl rfl (Nat.le_of_ble_eq_true rfl) dX2_init_33 (fun H locs hP hD hS => ?_)
  have hP : va_P D classes [(h0, .inr (2, [.ref q_0, .ref q_1, .ref q_2, .ref q_3, .null, .null, .null, .null, .null, .null, .int 0, .int 0, .int 0])), (q_0, .inl (cs 0, 40, .inl (fun _ => 0))), (q_1, .inl (cs 0, 40, .inl (fun _ => 0))), (q_2, .inl (cs 0, 40, .inl (fun _ => 0))), (q_3, .inl (cs 0, 40, .inl (fun _ => 0)))] H := hP
  have hD : va_D A [(h0, .inr (2, [.ref q_0, .ref q_1, .ref q_2, .ref q_3, .null, .null, .null, .null, .null, .null, .int 0, .int 0, .int 0])), (q_0, .inl (cs 0, 40, .inl (fun _ => 0))), (q_1, .inl (cs 0, 40, .inl (fun _ => 0))), (q_2, .inl (cs 0, 40, .inl (fun _ => 0))), (q_3, .inl (cs 0, 40, .inl (fun _ => 0)))] := hD
  refine lv_aload_n hx hb dX2_init_36 rfl (lv_at hl 0 rfl) ?_
  refine lv_bipush (v := (32 : Int32)) hx hb dX2_init_37 (by decide) ?_
  refine zk_newa (atype := .int) (ty := .int) (a0 := (32, .inl (fun _ => 0))) (N' := 32) hx hb (ht _ kw_184) rfl hK 0 rfl (by intro C h; cases h) hP hD hS hA (fun _ => rfl) (by decide) (by decide) (Nat.le_of_ble_eq_true rfl) (Nat.le_of_ble_eq_true rfl) (Nat.le_of_ble_eq_true rfl) dX2_init_39 (fun q_4 H hP hD hS => ?_)
  refine va_putF (D := D) (ci := 2) (v := .ref q_4) (ty := .array .int) (C := RX2) (T := TX2) (N := 13) hx hb ht iX2 tyX2 tyX2_ok nmX2 hown hK hP hD hS 0 rfl rfl 4 (by decide) (ht _ kw_129) (fun _ h9 => h9) rfl hin rfl (by decide +kernel) rfl rfl (Nat.le_of_ble_eq_true rfl) dX2_init_41 (fun H locs hP hD hS => ?_)
  refine lv_aload_n hx hb dX2_init_44 rfl (lv_at hl 0 rfl) ?_
  refine lv_bipush (v := (32 : Int32)) hx hb dX2_init_45 (by decide) ?_
  refine zk_newa (atype := .int) (ty := .int) (a0 := (32, .inl (fun _ => 0))) (N' := 32) hx hb (ht _ kw_184) rfl hK 0 rfl (by intro C h; cases h) hP hD hS hA (fun _ => rfl) (by decide) (by decide) (Nat.le_of_ble_eq_true rfl) (Nat.le_of_ble_eq_true rfl) (Nat.le_of_ble_eq_true rfl) dX2_init_47 (fun q_5 H hP hD hS => ?_)
  refine va_putF (D := D) (ci := 2) (v := .ref q_5) (ty := .array .int) (C := RX2) (T := TX2) (N := 13) hx hb ht iX2 tyX2 tyX2_ok nmX2 hown hK hP hD hS 0 rfl rfl 5 (by decide) (ht _ kw_133) (fun _ h9 => h9) rfl hin rfl (by decide +kernel) rfl rfl (Nat.le_of_ble_eq_true rfl) dX2_init_49 (fun H locs hP hD hS => ?_)
  refine lv_aload_n hx hb dX2_init_52 rfl (lv_at hl 0 rfl) ?_
  refine lv_bipush (v := (32 : Int32)) hx hb dX2_init_53 (by decide) ?_
  refine zk_newa (atype := .int) (ty := .int) (a0 := (32, .inl (fun _ => 0))) (N' := 32) hx hb (ht _ kw_184) rfl hK 0 rfl (by intro C h; cases h) hP hD hS hA (fun _ => rfl) (by decide) (by decide) (Nat.le_of_ble_eq_true rfl) (Nat.le_of_ble_eq_true rfl) (Nat.le_of_ble_eq_true rfl) dX2_init_55 (fun q_6 H hP hD hS => ?_)
  refine va_putF (D := D) (ci := 2) (v := .ref q_6) (ty := .array .int) (C := RX2) (T := TX2) (N := 13) hx hb ht iX2 tyX2 tyX2_ok nmX2 hown hK hP hD hS 0 rfl rfl 6 (by decide) (ht _ kw_137) (fun _ h9 => h9) rfl hin rfl (by decide +kernel) rfl rfl (Nat.le_of_ble_eq_true rfl) dX2_init_57 (fun H locs hP hD hS => ?_)
  refine lv_aload_n hx hb dX2_init_60 rfl (lv_at hl 0 rfl) ?_
  refine lv_bipush (v := (32 : Int32)) hx hb dX2_init_61 (by decide) ?_
  refine zk_newa (atype := .int) (ty := .int) (a0 := (32, .inl (fun _ => 0))) (N' := 32) hx hb (ht _ kw_184) rfl hK 0 rfl (by intro C h; cases h) hP hD hS hA (fun _ => rfl) (by decide) (by decide) (Nat.le_of_ble_eq_true rfl) (Nat.le_of_ble_eq_true rfl) (Nat.le_of_ble_eq_true rfl) dX2_init_63 (fun q_7 H hP hD hS => ?_)
  refine va_putF (D := D) (ci := 2) (v := .ref q_7) (ty := .array .int) (C := RX2) (T := TX2) (N := 13) hx hb ht iX2 tyX2 tyX2_ok nmX2 hown hK hP hD hS 0 rfl rfl 7 (by decide) (ht _ kw_140) (fun _ h9 => h9) rfl hin rfl (by decide +kernel) rfl rfl (Nat.le_of_ble_eq_true rfl) dX2_init_65 (fun H locs hP hD hS => ?_)
  have hP : va_P D classes [(h0, .inr (2, [.ref q_0, .ref q_1, .ref q_2, .ref q_3, .ref q_4, .ref q_5, .ref q_6, .ref q_7, .null, .null, .int 0, .int 0, .int 0])), (q_0, .inl (cs 0, 40, .inl (fun _ => 0))), (q_1, .inl (cs 0, 40, .inl (fun _ => 0))), (q_2, .inl (cs 0, 40, .inl (fun _ => 0))), (q_3, .inl (cs 0, 40, .inl (fun _ => 0))), (q_4, .inl (cs 0, 32, .inl (fun _ => 0))), (q_5, .inl (cs 0, 32, .inl (fun _ => 0))), (q_6, .inl (cs 0, 32, .inl (fun _ => 0))), (q_7, .inl (cs 0, 32, .inl (fun _ => 0)))] H := hP
  have hD : va_D A [(h0, .inr (2, [.ref q_0, .ref q_1, .ref q_2, .ref q_3, .ref q_4, .ref q_5, .ref q_6, .ref q_7, .null, .null, .int 0, .int 0, .int 0])), (q_0, .inl (cs 0, 40, .inl (fun _ => 0))), (q_1, .inl (cs 0, 40, .inl (fun _ => 0))), (q_2, .inl (cs 0, 40, .inl (fun _ => 0))), (q_3, .inl (cs 0, 40, .inl (fun _ => 0))), (q_4, .inl (cs 0, 32, .inl (fun _ => 0))), (q_5, .inl (cs 0, 32, .inl (fun _ => 0))), (q_6, .inl (cs 0, 32, .inl (fun _ => 0))), (q_7, .inl (cs 0, 32, .inl (fun _ => 0)))] := hD
  refine lv_aload_n hx hb dX2_init_68 rfl (lv_at hl 0 rfl) ?_
  refine lv_bipush (v := (40 : Int32)) hx hb dX2_init_69 (by decide) ?_
  refine zk_newq (C := "AlreadyJudged$Suit") (N' := 40) hx hb hown (ht _ kw_112) hO.1 hK 5 rfl hP hD hS hA (by decide) (by decide) (Nat.le_of_ble_eq_true rfl) (Nat.le_of_ble_eq_true rfl) (Nat.le_of_ble_eq_true rfl) dX2_init_71 (fun q_8 H hP hD hS => ?_)
  refine va_putF (D := D) (ci := 2) (v := .ref q_8) (ty := .array (.object "AlreadyJudged$Suit")) (C := RX2) (T := TX2) (N := 13) hx hb ht iX2 tyX2 tyX2_ok nmX2 hown hK hP hD hS 0 rfl rfl 8 (by decide) (ht _ kw_143) (fun _ h9 => h9) rfl hin rfl (by decide +kernel) rfl rfl (Nat.le_of_ble_eq_true rfl) dX2_init_74 (fun H locs hP hD hS => ?_)
  refine lv_aload_n hx hb dX2_init_77 rfl (lv_at hl 0 rfl) ?_
  refine lv_bipush (v := (32 : Int32)) hx hb dX2_init_78 (by decide) ?_
  refine zk_newq (C := "AlreadyJudged$Law") (N' := 32) hx hb hown (ht _ kw_114) hO.2.1 hK 6 rfl hP hD hS hA (by decide) (by decide) (Nat.le_of_ble_eq_true rfl) (Nat.le_of_ble_eq_true rfl) (Nat.le_of_ble_eq_true rfl) dX2_init_80 (fun q_9 H hP hD hS => ?_)
  refine va_putF (D := D) (ci := 2) (v := .ref q_9) (ty := .array (.object "AlreadyJudged$Law")) (C := RX2) (T := TX2) (N := 13) hx hb ht iX2 tyX2 tyX2_ok nmX2 hown hK hP hD hS 0 rfl rfl 9 (by decide) (ht _ kw_145) (fun _ h9 => h9) rfl hin rfl (by decide +kernel) rfl rfl (Nat.le_of_ble_eq_true rfl) dX2_init_83 (fun H locs hP hD hS => ?_)
  have hP : va_P D classes [(h0, .inr (2, [.ref q_0, .ref q_1, .ref q_2, .ref q_3, .ref q_4, .ref q_5, .ref q_6, .ref q_7, .ref q_8, .ref q_9, .int 0, .int 0, .int 0])), (q_0, .inl (cs 0, 40, .inl (fun _ => 0))), (q_1, .inl (cs 0, 40, .inl (fun _ => 0))), (q_2, .inl (cs 0, 40, .inl (fun _ => 0))), (q_3, .inl (cs 0, 40, .inl (fun _ => 0))), (q_4, .inl (cs 0, 32, .inl (fun _ => 0))), (q_5, .inl (cs 0, 32, .inl (fun _ => 0))), (q_6, .inl (cs 0, 32, .inl (fun _ => 0))), (q_7, .inl (cs 0, 32, .inl (fun _ => 0))), (q_8, .inl (cs 5, 40, .inr (.inr (.inr (.inr (fun _ => none)))))), (q_9, .inl (cs 6, 32, .inr (.inr (.inr (.inr (fun _ => none))))))] H := hP
  have hD : va_D A [(h0, .inr (2, [.ref q_0, .ref q_1, .ref q_2, .ref q_3, .ref q_4, .ref q_5, .ref q_6, .ref q_7, .ref q_8, .ref q_9, .int 0, .int 0, .int 0])), (q_0, .inl (cs 0, 40, .inl (fun _ => 0))), (q_1, .inl (cs 0, 40, .inl (fun _ => 0))), (q_2, .inl (cs 0, 40, .inl (fun _ => 0))), (q_3, .inl (cs 0, 40, .inl (fun _ => 0))), (q_4, .inl (cs 0, 32, .inl (fun _ => 0))), (q_5, .inl (cs 0, 32, .inl (fun _ => 0))), (q_6, .inl (cs 0, 32, .inl (fun _ => 0))), (q_7, .inl (cs 0, 32, .inl (fun _ => 0))), (q_8, .inl (cs 5, 40, .inr (.inr (.inr (.inr (fun _ => none)))))), (q_9, .inl (cs 6, 32, .inr (.inr (.inr (.inr (fun _ => none))))))] := hD
  refine W.widen (k := 10) (n := 360) (Nat.le_of_ble_eq_true rfl) (Nat.le_of_ble_eq_true rfl) ?_
  exact W.vret hx hb hr (fun t ht2 hW => ⟨⟨fun k => [q_0, q_1, q_2, q_3, q_4, q_5, q_6, q_7, q_8, q_9].getD k 0, rfl, trivial, by rw [ht2]; exact hP, hD⟩, hS.F ht2⟩) hS.2.2 dX2_init_86 hlocks
theorem kw_234 : Cond.methodLink RX9 3 objectInit ∈ zW := zwC (i := 160) zc_1 rfl rfl
theorem zh_cX9_init_0 : zck [42, 183, 0, 3, 42, 16, 120, 188, 10, 181, 0, 9, 177] (zdu 0 cX9_init.data.toList) = true := by decide +kernel
theorem dX9_init_0 : decode cX9_init 0 = .ok (.aload_n 0, 1) := zo_42 zh_cX9_init_0 0 rfl
theorem dX9_init_1 : decode cX9_init 1 = .ok (.invokespecial 3, 3) := zo_183 zh_cX9_init_0 1 rfl
theorem dX9_init_4 : decode cX9_init 4 = .ok (.aload_n 0, 1) := zo_42 zh_cX9_init_0 4 rfl
theorem dX9_init_5 : decode cX9_init 5 = .ok (.bipush 120, 2) := zo_p16 zh_cX9_init_0 5 120 rfl rfl
theorem dX9_init_7 : decode cX9_init 7 = .ok (.newarray .int, 2) := zo_188_int zh_cX9_init_0 7 rfl
theorem dX9_init_9 : decode cX9_init 9 = .ok (.putfield 9, 3) := zo_181 zh_cX9_init_0 9 rfl
theorem dX9_init_12 : decode cX9_init 12 = .ok (.return_, 1) := zo_177 zh_cX9_init_0 12 rfl
abbrev z_X9_init : List Cond := .code yX9_init cX9_init 1 none :: zW
abbrev rm_X9_init : Room := { frames := 1, cells := 1, slots := 120, locals := 20 }
set_option maxHeartbeats 4000000 in
set_option maxRecDepth 100000 in
theorem ci_X9_init (l : Launch) (D : va_G) (cs : Nat → ClassId) (h0 : Nat)  (sz : Nat) : Met l yX9_init z_X9_init rm_X9_init (va_Pc [.ref h0] (zPre D cs [(h0, .inr (9, [.null, .int 0]))] sz)) (va_Qv (fun _ : Nat → Nat => True) (fun (u : Nat → Nat) (t : State) => va_P D classes [(h0, .inr (9, [.ref (u 0), .int 0])), ((u 0), .inl (cs 0, 120, .inl (fun _ => 0)))] t.heap ∧ va_D (va_A [(h0, .inr (9, [.null, .int 0]))] sz) [(h0, .inr (9, [.ref (u 0), .int 0])), ((u 0), .inl (cs 0, 120, .inl (fun _ => 0)))]) (va_A [(h0, .inr (9, [.null, .int 0]))] sz)) 1 120 (va_A [(h0, .inr (9, [.null, .int 0]))] sz) := by
  refine Met.ofW (cc := cX9_init) (maxL := 1) (ret := none) (by decide) rfl ?_
  intro p e s m args below meth c s₁ B hml hv
  obtain ⟨rfl, hsz, hP, hK, hD0⟩ := hv
  subst hsz
  have hD := hD0.self (sz := s.heap.size)
  have hx := B.exec
  have hb := B.bytes
  have hr := B.returns
  have ht : ∀ w ∈ zW, w.before _ s = true := fun w hw => atoms_spec (ws := z_X9_init) B.pre w (List.mem_cons_of_mem _ hw)
  have hown : s.vm.findClass RX9 = some m.cls := findClass_of_methodNamed B.named
  have hlocks := B.notSynchronized
  have hin : meth.name = "<init>" := (name_of_methodNamed B.named B.method).1
  generalize hAe : va_A [(h0, .inr (9, [.null, .int 0]))] s.heap.size = A at hD ⊢
  have hA : ∀ q : Nat, s.heap.size ≤ q → A q := fun q h => by rw [← hAe]; exact Or.inr h
  have hS : va_S A s.heap s.heap [] := va_S.rf
  have hl := lv_entry ([.ref h0]) (n := 1) (Nat.le_of_ble_eq_true rfl)
  rw [lg_entry_eq]
  generalize (lg_sl ([.ref h0]) ++ List.replicate (1 - (lg_sl ([.ref h0])).length) Slot.unset).toArray = ls at hl ⊢
  obtain ⟨H, hH⟩ : ∃ H, H = s.heap := ⟨_, rfl⟩
  have hS : va_S A s.heap H [] := by rw [hH]; exact va_S.rf
  rw [← hH]
  have hP : va_P D classes [(h0, .inr (9, [.null, .int 0]))] H := by rw [hH]; exact hP
  clear hH
  refine lv_aload_n hx hb dX9_init_0 rfl (lv_at hl 0 rfl) ?_
  refine W.objInit hx hb hown (ht _ kw_234) (ht _ kw_104) (ht _ kw_105) rfl (by rw [hml]; exact hl.1) rfl dX9_init_1 (Nat.le_of_ble_eq_true rfl) (Nat.le_of_ble_eq_true rfl) ?_
  refine W.eq (g2 := F0 m 4 ls []) rfl ?_
  refine lv_aload_n hx hb dX9_init_4 rfl (lv_at hl 0 rfl) ?_
  refine lv_bipush (v := (120 : Int32)) hx hb dX9_init_5 (by decide) ?_
  refine zk_newa (atype := .int) (ty := .int) (a0 := (120, .inl (fun _ => 0))) (N' := 120) hx hb (ht _ kw_184) rfl hK 0 rfl (by intro C h; cases h) hP hD hS hA (fun _ => rfl) (by decide) (by decide) (Nat.le_of_ble_eq_true rfl) (Nat.le_of_ble_eq_true rfl) (Nat.le_of_ble_eq_true rfl) dX9_init_7 (fun q_0 H hP hD hS => ?_)
  refine va_putF (D := D) (ci := 9) (v := .ref q_0) (ty := .array .int) (C := RX9) (T := TX9) (N := 2) hx hb ht iX9 tyX9 tyX9_ok nmX9 hown hK hP hD hS 0 rfl rfl 0 (by decide) (ht _ kw_235) (fun _ h9 => h9) rfl hin rfl (by decide +kernel) rfl rfl (Nat.le_of_ble_eq_true rfl) dX9_init_9 (fun H locs hP hD hS => ?_)
  have hP : va_P D classes [(h0, .inr (9, [.ref q_0, .int 0])), (q_0, .inl (cs 0, 120, .inl (fun _ => 0)))] H := hP
  have hD : va_D A [(h0, .inr (9, [.ref q_0, .int 0])), (q_0, .inl (cs 0, 120, .inl (fun _ => 0)))] := hD
  refine W.widen (k := 1) (n := 120) (Nat.le_of_ble_eq_true rfl) (Nat.le_of_ble_eq_true rfl) ?_
  exact W.vret hx hb hr (fun t ht2 hW => ⟨⟨fun k => [q_0].getD k 0, rfl, trivial, by rw [ht2]; exact hP, hD⟩, hS.F ht2⟩) hS.2.2 dX9_init_12 hlocks
theorem kw_273 : Cond.methodLink RX5 3 objectInit ∈ zW := zwC (i := 199) zc_1 rfl rfl
theorem zh_cX5_init_0 : zck [42, 183, 0, 3, 42, 16, 121, 188, 10, 181, 0, 9, 42, 43, 181, 0, 15, 177] (zdu 0 cX5_init.data.toList) = true := by decide +kernel
theorem dX5_init_0 : decode cX5_init 0 = .ok (.aload_n 0, 1) := zo_42 zh_cX5_init_0 0 rfl
theorem dX5_init_1 : decode cX5_init 1 = .ok (.invokespecial 3, 3) := zo_183 zh_cX5_init_0 1 rfl
theorem dX5_init_4 : decode cX5_init 4 = .ok (.aload_n 0, 1) := zo_42 zh_cX5_init_0 4 rfl
theorem dX5_init_5 : decode cX5_init 5 = .ok (.bipush 121, 2) := zo_p16 zh_cX5_init_0 5 121 rfl rfl
theorem dX5_init_7 : decode cX5_init 7 = .ok (.newarray .int, 2) := zo_188_int zh_cX5_init_0 7 rfl
theorem dX5_init_9 : decode cX5_init 9 = .ok (.putfield 9, 3) := zo_181 zh_cX5_init_0 9 rfl
theorem dX5_init_12 : decode cX5_init 12 = .ok (.aload_n 0, 1) := zo_42 zh_cX5_init_0 12 rfl
theorem dX5_init_13 : decode cX5_init 13 = .ok (.aload_n 1, 1) := zo_43 zh_cX5_init_0 13 rfl
theorem dX5_init_14 : decode cX5_init 14 = .ok (.putfield 15, 3) := zo_181 zh_cX5_init_0 14 rfl
theorem dX5_init_17 : decode cX5_init 17 = .ok (.return_, 1) := zo_177 zh_cX5_init_0 17 rfl
abbrev z_X5_init : List Cond := .code yX5_init cX5_init 2 none :: zW
abbrev rm_X5_init : Room := { frames := 1, cells := 1, slots := 121, locals := 20 }
set_option maxHeartbeats 4000000 in
set_option maxRecDepth 100000 in
theorem ci_X5_init (l : Launch) (D : va_G) (cs : Nat → ClassId) (h0 : Nat) (p1 : Nat) (sz : Nat) : Met l yX5_init z_X5_init rm_X5_init (va_Pc [.ref h0, .ref p1] (zPre D cs [(h0, .inr (5, [.null, .null, .int 0, .int 0, .int 0]))] sz)) (va_Qv (fun _ : Nat → Nat => True) (fun (u : Nat → Nat) (t : State) => va_P D classes [(h0, .inr (5, [.ref p1, .ref (u 0), .int 0, .int 0, .int 0])), ((u 0), .inl (cs 0, 121, .inl (fun _ => 0)))] t.heap ∧ va_D (va_A [(h0, .inr (5, [.null, .null, .int 0, .int 0, .int 0]))] sz) [(h0, .inr (5, [.ref p1, .ref (u 0), .int 0, .int 0, .int 0])), ((u 0), .inl (cs 0, 121, .inl (fun _ => 0)))]) (va_A [(h0, .inr (5, [.null, .null, .int 0, .int 0, .int 0]))] sz)) 1 121 (va_A [(h0, .inr (5, [.null, .null, .int 0, .int 0, .int 0]))] sz) := by
  refine Met.ofW (cc := cX5_init) (maxL := 2) (ret := none) (by decide) rfl ?_
  intro p e s m args below meth c s₁ B hml hv
  obtain ⟨rfl, hsz, hP, hK, hD0⟩ := hv
  subst hsz
  have hD := hD0.self (sz := s.heap.size)
  have hx := B.exec
  have hb := B.bytes
  have hr := B.returns
  have ht : ∀ w ∈ zW, w.before _ s = true := fun w hw => atoms_spec (ws := z_X5_init) B.pre w (List.mem_cons_of_mem _ hw)
  have hown : s.vm.findClass RX5 = some m.cls := findClass_of_methodNamed B.named
  have hlocks := B.notSynchronized
  have hin : meth.name = "<init>" := (name_of_methodNamed B.named B.method).1
  generalize hAe : va_A [(h0, .inr (5, [.null, .null, .int 0, .int 0, .int 0]))] s.heap.size = A at hD ⊢
  have hA : ∀ q : Nat, s.heap.size ≤ q → A q := fun q h => by rw [← hAe]; exact Or.inr h
  have hS : va_S A s.heap s.heap [] := va_S.rf
  have hl := lv_entry ([.ref h0, .ref p1]) (n := 2) (Nat.le_of_ble_eq_true rfl)
  rw [lg_entry_eq]
  generalize (lg_sl ([.ref h0, .ref p1]) ++ List.replicate (2 - (lg_sl ([.ref h0, .ref p1])).length) Slot.unset).toArray = ls at hl ⊢
  obtain ⟨H, hH⟩ : ∃ H, H = s.heap := ⟨_, rfl⟩
  have hS : va_S A s.heap H [] := by rw [hH]; exact va_S.rf
  rw [← hH]
  have hP : va_P D classes [(h0, .inr (5, [.null, .null, .int 0, .int 0, .int 0]))] H := by rw [hH]; exact hP
  clear hH
  refine lv_aload_n hx hb dX5_init_0 rfl (lv_at hl 0 rfl) ?_
  refine W.objInit hx hb hown (ht _ kw_273) (ht _ kw_104) (ht _ kw_105) rfl (by rw [hml]; exact hl.1) rfl dX5_init_1 (Nat.le_of_ble_eq_true rfl) (Nat.le_of_ble_eq_true rfl) ?_
  refine W.eq (g2 := F0 m 4 ls []) rfl ?_
  refine lv_aload_n hx hb dX5_init_4 rfl (lv_at hl 0 rfl) ?_
  refine lv_bipush (v := (121 : Int32)) hx hb dX5_init_5 (by decide) ?_
  refine zk_newa (atype := .int) (ty := .int) (a0 := (121, .inl (fun _ => 0))) (N' := 121) hx hb (ht _ kw_184) rfl hK 0 rfl (by intro C h; cases h) hP hD hS hA (fun _ => rfl) (by decide) (by decide) (Nat.le_of_ble_eq_true rfl) (Nat.le_of_ble_eq_true rfl) (Nat.le_of_ble_eq_true rfl) dX5_init_7 (fun q_0 H hP hD hS => ?_)
  refine va_putF (D := D) (ci := 5) (v := .ref q_0) (ty := .array .int) (C := RX5) (T := TX5) (N := 5) hx hb ht iX5 tyX5 tyX5_ok nmX5 hown hK hP hD hS 0 rfl rfl 1 (by decide) (ht _ kw_275) (fun _ h9 => h9) rfl hin rfl (by decide +kernel) rfl rfl (Nat.le_of_ble_eq_true rfl) dX5_init_9 (fun H locs hP hD hS => ?_)
  refine lv_aload_n hx hb dX5_init_12 rfl (lv_at hl 0 rfl) ?_
  refine lv_aload_n hx hb dX5_init_13 rfl (lv_at hl 1 rfl) ?_
  refine va_putF (D := D) (ci := 5) (v := .ref p1) (ty := .object "AlreadyJudged$Tape") (C := RX5) (T := TX5) (N := 5) hx hb ht iX5 tyX5 tyX5_ok nmX5 hown hK hP hD hS 0 rfl rfl 0 (by decide) (ht _ kw_274) (fun _ h9 => h9) rfl hin rfl (by decide +kernel) rfl rfl (Nat.le_of_ble_eq_true rfl) dX5_init_14 (fun H locs hP hD hS => ?_)
  have hP : va_P D classes [(h0, .inr (5, [.ref p1, .ref q_0, .int 0, .int 0, .int 0])), (q_0, .inl (cs 0, 121, .inl (fun _ => 0)))] H := hP
  have hD : va_D A [(h0, .inr (5, [.ref p1, .ref q_0, .int 0, .int 0, .int 0])), (q_0, .inl (cs 0, 121, .inl (fun _ => 0)))] := hD
  refine W.widen (k := 1) (n := 121) (Nat.le_of_ble_eq_true rfl) (Nat.le_of_ble_eq_true rfl) ?_
  exact W.vret hx hb hr (fun t ht2 hW => ⟨⟨fun k => [q_0].getD k 0, rfl, trivial, by rw [ht2]; exact hP, hD⟩, hS.F ht2⟩) hS.2.2 dX5_init_17 hlocks
theorem kw_250 : Cond.methodLink RX8 3 objectInit ∈ zW := zwC (i := 176) zc_1 rfl rfl
theorem zh_cX8_init_0 : zck [42, 183, 0, 3, 42, 43, 181, 0, 9, 177] (zdu 0 cX8_init.data.toList) = true := by decide +kernel
theorem dX8_init_0 : decode cX8_init 0 = .ok (.aload_n 0, 1) := zo_42 zh_cX8_init_0 0 rfl
theorem dX8_init_1 : decode cX8_init 1 = .ok (.invokespecial 3, 3) := zo_183 zh_cX8_init_0 1 rfl
theorem dX8_init_4 : decode cX8_init 4 = .ok (.aload_n 0, 1) := zo_42 zh_cX8_init_0 4 rfl
theorem dX8_init_5 : decode cX8_init 5 = .ok (.aload_n 1, 1) := zo_43 zh_cX8_init_0 5 rfl
theorem dX8_init_6 : decode cX8_init 6 = .ok (.putfield 9, 3) := zo_181 zh_cX8_init_0 6 rfl
theorem dX8_init_9 : decode cX8_init 9 = .ok (.return_, 1) := zo_177 zh_cX8_init_0 9 rfl
abbrev z_X8_init : List Cond := .code yX8_init cX8_init 2 none :: zW
abbrev rm_X8_init : Room := { frames := 1, cells := 0, slots := 0, locals := 20 }
set_option maxHeartbeats 4000000 in
set_option maxRecDepth 100000 in
theorem ci_X8_init (l : Launch) (D : va_G) (cs : Nat → ClassId) (h0 : Nat) (p1 : Nat) (sz : Nat) : Met l yX8_init z_X8_init rm_X8_init (va_Pc [.ref h0, .ref p1] (zPre D cs [(h0, .inr (8, [.null, .null, .int 0, .int 0, .int 0]))] sz)) (va_Qv (fun _ : Nat → Nat => True) (fun (u : Nat → Nat) (t : State) => va_P D classes [(h0, .inr (8, [.ref p1, .null, .int 0, .int 0, .int 0]))] t.heap ∧ va_D (va_A [(h0, .inr (8, [.null, .null, .int 0, .int 0, .int 0]))] sz) [(h0, .inr (8, [.ref p1, .null, .int 0, .int 0, .int 0]))]) (va_A [(h0, .inr (8, [.null, .null, .int 0, .int 0, .int 0]))] sz)) 0 0 (va_A [(h0, .inr (8, [.null, .null, .int 0, .int 0, .int 0]))] sz) := by
  refine Met.ofW (cc := cX8_init) (maxL := 2) (ret := none) (by decide) rfl ?_
  intro p e s m args below meth c s₁ B hml hv
  obtain ⟨rfl, hsz, hP, hK, hD0⟩ := hv
  subst hsz
  have hD := hD0.self (sz := s.heap.size)
  have hx := B.exec
  have hb := B.bytes
  have hr := B.returns
  have ht : ∀ w ∈ zW, w.before _ s = true := fun w hw => atoms_spec (ws := z_X8_init) B.pre w (List.mem_cons_of_mem _ hw)
  have hown : s.vm.findClass RX8 = some m.cls := findClass_of_methodNamed B.named
  have hlocks := B.notSynchronized
  have hin : meth.name = "<init>" := (name_of_methodNamed B.named B.method).1
  generalize hAe : va_A [(h0, .inr (8, [.null, .null, .int 0, .int 0, .int 0]))] s.heap.size = A at hD ⊢
  have hA : ∀ q : Nat, s.heap.size ≤ q → A q := fun q h => by rw [← hAe]; exact Or.inr h
  have hS : va_S A s.heap s.heap [] := va_S.rf
  have hl := lv_entry ([.ref h0, .ref p1]) (n := 2) (Nat.le_of_ble_eq_true rfl)
  rw [lg_entry_eq]
  generalize (lg_sl ([.ref h0, .ref p1]) ++ List.replicate (2 - (lg_sl ([.ref h0, .ref p1])).length) Slot.unset).toArray = ls at hl ⊢
  obtain ⟨H, hH⟩ : ∃ H, H = s.heap := ⟨_, rfl⟩
  have hS : va_S A s.heap H [] := by rw [hH]; exact va_S.rf
  rw [← hH]
  have hP : va_P D classes [(h0, .inr (8, [.null, .null, .int 0, .int 0, .int 0]))] H := by rw [hH]; exact hP
  clear hH
  refine lv_aload_n hx hb dX8_init_0 rfl (lv_at hl 0 rfl) ?_
  refine W.objInit hx hb hown (ht _ kw_250) (ht _ kw_104) (ht _ kw_105) rfl (by rw [hml]; exact hl.1) rfl dX8_init_1 (Nat.le_of_ble_eq_true rfl) (Nat.le_of_ble_eq_true rfl) ?_
  refine W.eq (g2 := F0 m 4 ls []) rfl ?_
  refine lv_aload_n hx hb dX8_init_4 rfl (lv_at hl 0 rfl) ?_
  refine lv_aload_n hx hb dX8_init_5 rfl (lv_at hl 1 rfl) ?_
  refine va_putF (D := D) (ci := 8) (v := .ref p1) (ty := .object "AlreadyJudged$Tape") (C := RX8) (T := TX8) (N := 5) hx hb ht iX8 tyX8 tyX8_ok nmX8 hown hK hP hD hS 0 rfl rfl 0 (by decide) (ht _ kw_251) (fun _ h9 => h9) rfl hin rfl (by decide +kernel) rfl rfl (Nat.le_of_ble_eq_true rfl) dX8_init_6 (fun H locs hP hD hS => ?_)
  have hP : va_P D classes [(h0, .inr (8, [.ref p1, .null, .int 0, .int 0, .int 0]))] H := hP
  have hD : va_D A [(h0, .inr (8, [.ref p1, .null, .int 0, .int 0, .int 0]))] := hD
  refine W.widen (k := 0) (n := 0) (Nat.le_of_ble_eq_true rfl) (Nat.le_of_ble_eq_true rfl) ?_
  exact W.vret hx hb hr (fun t ht2 hW => ⟨⟨fun k => [].getD k 0, rfl, trivial, by rw [ht2]; exact hP, hD⟩, hS.F ht2⟩) hS.2.2 dX8_init_9 hlocks
theorem kw_302 : Cond.methodLink RX7 3 objectInit ∈ zW := zwC (i := 228) zc_1 rfl rfl
theorem zh_cX7_init_0 : zck [42, 183, 0, 3, 42, 2, 181, 0, 9, 42, 16, 32, 188, 10, 181, 0, 15, 177] (zdu 0 cX7_init.data.toList) = true := by decide +kernel
theorem dX7_init_0 : decode cX7_init 0 = .ok (.aload_n 0, 1) := zo_42 zh_cX7_init_0 0 rfl
theorem dX7_init_1 : decode cX7_init 1 = .ok (.invokespecial 3, 3) := zo_183 zh_cX7_init_0 1 rfl
theorem dX7_init_4 : decode cX7_init 4 = .ok (.aload_n 0, 1) := zo_42 zh_cX7_init_0 4 rfl
theorem dX7_init_5 : decode cX7_init 5 = .ok (.iconst (-1), 1) := zo_2 zh_cX7_init_0 5 rfl
theorem dX7_init_6 : decode cX7_init 6 = .ok (.putfield 9, 3) := zo_181 zh_cX7_init_0 6 rfl
theorem dX7_init_9 : decode cX7_init 9 = .ok (.aload_n 0, 1) := zo_42 zh_cX7_init_0 9 rfl
theorem dX7_init_10 : decode cX7_init 10 = .ok (.bipush 32, 2) := zo_p16 zh_cX7_init_0 10 32 rfl rfl
theorem dX7_init_12 : decode cX7_init 12 = .ok (.newarray .int, 2) := zo_188_int zh_cX7_init_0 12 rfl
theorem dX7_init_14 : decode cX7_init 14 = .ok (.putfield 15, 3) := zo_181 zh_cX7_init_0 14 rfl
theorem dX7_init_17 : decode cX7_init 17 = .ok (.return_, 1) := zo_177 zh_cX7_init_0 17 rfl
abbrev z_X7_init : List Cond := .code yX7_init cX7_init 1 none :: zW
abbrev rm_X7_init : Room := { frames := 1, cells := 1, slots := 32, locals := 20 }
set_option maxHeartbeats 4000000 in
set_option maxRecDepth 100000 in
theorem ci_X7_init (l : Launch) (D : va_G) (cs : Nat → ClassId) (h0 : Nat)  (sz : Nat) : Met l yX7_init z_X7_init rm_X7_init (va_Pc [.ref h0] (zPre D cs [(h0, .inr (7, [.int 0, .int 0, .int 0, .int 0, .int 0, .int 0, .int 0, .null, .int 0, .int 0, .int 0, .int 0, .int 0, .int 0, .int 0]))] sz)) (va_Qv (fun _ : Nat → Nat => True) (fun (u : Nat → Nat) (t : State) => va_P D classes [(h0, .inr (7, [.int 0, .int 0, .int 0, .int 0, .int 0, .int 0, .int (-1 : Int32), .ref (u 0), .int 0, .int 0, .int 0, .int 0, .int 0, .int 0, .int 0])), ((u 0), .inl (cs 0, 32, .inl (fun _ => 0)))] t.heap ∧ va_D (va_A [(h0, .inr (7, [.int 0, .int 0, .int 0, .int 0, .int 0, .int 0, .int 0, .null, .int 0, .int 0, .int 0, .int 0, .int 0, .int 0, .int 0]))] sz) [(h0, .inr (7, [.int 0, .int 0, .int 0, .int 0, .int 0, .int 0, .int (-1 : Int32), .ref (u 0), .int 0, .int 0, .int 0, .int 0, .int 0, .int 0, .int 0])), ((u 0), .inl (cs 0, 32, .inl (fun _ => 0)))]) (va_A [(h0, .inr (7, [.int 0, .int 0, .int 0, .int 0, .int 0, .int 0, .int 0, .null, .int 0, .int 0, .int 0, .int 0, .int 0, .int 0, .int 0]))] sz)) 1 32 (va_A [(h0, .inr (7, [.int 0, .int 0, .int 0, .int 0, .int 0, .int 0, .int 0, .null, .int 0, .int 0, .int 0, .int 0, .int 0, .int 0, .int 0]))] sz) := by
  refine Met.ofW (cc := cX7_init) (maxL := 1) (ret := none) (by decide) rfl ?_
  intro p e s m args below meth c s₁ B hml hv
  obtain ⟨rfl, hsz, hP, hK, hD0⟩ := hv
  subst hsz
  have hD := hD0.self (sz := s.heap.size)
  have hx := B.exec
  have hb := B.bytes
  have hr := B.returns
  have ht : ∀ w ∈ zW, w.before _ s = true := fun w hw => atoms_spec (ws := z_X7_init) B.pre w (List.mem_cons_of_mem _ hw)
  have hown : s.vm.findClass RX7 = some m.cls := findClass_of_methodNamed B.named
  have hlocks := B.notSynchronized
  have hin : meth.name = "<init>" := (name_of_methodNamed B.named B.method).1
  generalize hAe : va_A [(h0, .inr (7, [.int 0, .int 0, .int 0, .int 0, .int 0, .int 0, .int 0, .null, .int 0, .int 0, .int 0, .int 0, .int 0, .int 0, .int 0]))] s.heap.size = A at hD ⊢
  have hA : ∀ q : Nat, s.heap.size ≤ q → A q := fun q h => by rw [← hAe]; exact Or.inr h
  have hS : va_S A s.heap s.heap [] := va_S.rf
  have hl := lv_entry ([.ref h0]) (n := 1) (Nat.le_of_ble_eq_true rfl)
  rw [lg_entry_eq]
  generalize (lg_sl ([.ref h0]) ++ List.replicate (1 - (lg_sl ([.ref h0])).length) Slot.unset).toArray = ls at hl ⊢
  obtain ⟨H, hH⟩ : ∃ H, H = s.heap := ⟨_, rfl⟩
  have hS : va_S A s.heap H [] := by rw [hH]; exact va_S.rf
  rw [← hH]
  have hP : va_P D classes [(h0, .inr (7, [.int 0, .int 0, .int 0, .int 0, .int 0, .int 0, .int 0, .null, .int 0, .int 0, .int 0, .int 0, .int 0, .int 0, .int 0]))] H := by rw [hH]; exact hP
  clear hH
  refine lv_aload_n hx hb dX7_init_0 rfl (lv_at hl 0 rfl) ?_
  refine W.objInit hx hb hown (ht _ kw_302) (ht _ kw_104) (ht _ kw_105) rfl (by rw [hml]; exact hl.1) rfl dX7_init_1 (Nat.le_of_ble_eq_true rfl) (Nat.le_of_ble_eq_true rfl) ?_
  refine W.eq (g2 := F0 m 4 ls []) rfl ?_
  refine lv_aload_n hx hb dX7_init_4 rfl (lv_at hl 0 rfl) ?_
  refine lv_iconst (v := (-1 : Int32)) hx hb dX7_init_5 (by decide) ?_
  refine va_put (D := D) (ci := 7) (v := .int (-1 : Int32)) (ty := .int) (C := RX7) (T := TX7) (N := 15) hx hb ht iX7 tyX7 tyX7_ok nmX7 hown hK hP hD hS 0 rfl rfl 6 (by decide) (ht _ kw_330) (fun _ h9 => h9) rfl (by decide +kernel) rfl rfl (Nat.le_of_ble_eq_true rfl) dX7_init_6 (fun H locs hP hD hS => ?_)
  refine lv_aload_n hx hb dX7_init_9 rfl (lv_at hl 0 rfl) ?_
  refine lv_bipush (v := (32 : Int32)) hx hb dX7_init_10 (by decide) ?_
  refine zk_newa (atype := .int) (ty := .int) (a0 := (32, .inl (fun _ => 0))) (N' := 32) hx hb (ht _ kw_184) rfl hK 0 rfl (by intro C h; cases h) hP hD hS hA (fun _ => rfl) (by decide) (by decide) (Nat.le_of_ble_eq_true rfl) (Nat.le_of_ble_eq_true rfl) (Nat.le_of_ble_eq_true rfl) dX7_init_12 (fun q_0 H hP hD hS => ?_)
  refine va_putF (D := D) (ci := 7) (v := .ref q_0) (ty := .array .int) (C := RX7) (T := TX7) (N := 15) hx hb ht iX7 tyX7 tyX7_ok nmX7 hown hK hP hD hS 0 rfl rfl 7 (by decide) (ht _ kw_333) (fun _ h9 => h9) rfl hin rfl (by decide +kernel) rfl rfl (Nat.le_of_ble_eq_true rfl) dX7_init_14 (fun H locs hP hD hS => ?_)
  have hP : va_P D classes [(h0, .inr (7, [.int 0, .int 0, .int 0, .int 0, .int 0, .int 0, .int (-1 : Int32), .ref q_0, .int 0, .int 0, .int 0, .int 0, .int 0, .int 0, .int 0])), (q_0, .inl (cs 0, 32, .inl (fun _ => 0)))] H := hP
  have hD : va_D A [(h0, .inr (7, [.int 0, .int 0, .int 0, .int 0, .int 0, .int 0, .int (-1 : Int32), .ref q_0, .int 0, .int 0, .int 0, .int 0, .int 0, .int 0, .int 0])), (q_0, .inl (cs 0, 32, .inl (fun _ => 0)))] := hD
  refine W.widen (k := 1) (n := 32) (Nat.le_of_ble_eq_true rfl) (Nat.le_of_ble_eq_true rfl) ?_
  exact W.vret hx hb hr (fun t ht2 hW => ⟨⟨fun k => [q_0].getD k 0, rfl, trivial, by rw [ht2]; exact hP, hD⟩, hS.F ht2⟩) hS.2.2 dX7_init_17 hlocks
theorem kw_296 : Cond.methodLink RX10 3 objectInit ∈ zW := zwC (i := 222) zc_1 rfl rfl
theorem kw_297 : Cond.classLink RX10 27 RX7 ∈ zW := zwC (i := 223) zc_1 rfl rfl
theorem kw_298 : Cond.instantiable RX7 15 ∈ zW := zwC (i := 224) zc_1 rfl rfl
theorem kw_300 : Cond.instanceMethod yX7_init ∈ zW := zwC (i := 226) zc_1 rfl rfl
theorem kw_301 : Cond.code yX7_init cX7_init 1 none ∈ zW := zwC (i := 227) zc_1 rfl rfl
theorem zh_cX10_init_0 : zck [42, 183, 0, 3, 42, 8, 188, 10, 181, 0, 9, 42, 8, 188, 10, 181, 0, 15, 42, 8, 188, 10] (zdu 0 cX10_init.data.toList) = true := by decide +kernel
theorem dX10_init_0 : decode cX10_init 0 = .ok (.aload_n 0, 1) := zo_42 zh_cX10_init_0 0 rfl
theorem dX10_init_1 : decode cX10_init 1 = .ok (.invokespecial 3, 3) := zo_183 zh_cX10_init_0 1 rfl
theorem dX10_init_4 : decode cX10_init 4 = .ok (.aload_n 0, 1) := zo_42 zh_cX10_init_0 4 rfl
theorem dX10_init_5 : decode cX10_init 5 = .ok (.iconst 5, 1) := zo_8 zh_cX10_init_0 5 rfl
theorem dX10_init_6 : decode cX10_init 6 = .ok (.newarray .int, 2) := zo_188_int zh_cX10_init_0 6 rfl
theorem dX10_init_8 : decode cX10_init 8 = .ok (.putfield 9, 3) := zo_181 zh_cX10_init_0 8 rfl
theorem dX10_init_11 : decode cX10_init 11 = .ok (.aload_n 0, 1) := zo_42 zh_cX10_init_0 11 rfl
theorem dX10_init_12 : decode cX10_init 12 = .ok (.iconst 5, 1) := zo_8 zh_cX10_init_0 12 rfl
theorem dX10_init_13 : decode cX10_init 13 = .ok (.newarray .int, 2) := zo_188_int zh_cX10_init_0 13 rfl
theorem dX10_init_15 : decode cX10_init 15 = .ok (.putfield 15, 3) := zo_181 zh_cX10_init_0 15 rfl
theorem dX10_init_18 : decode cX10_init 18 = .ok (.aload_n 0, 1) := zo_42 zh_cX10_init_0 18 rfl
theorem dX10_init_19 : decode cX10_init 19 = .ok (.iconst 5, 1) := zo_8 zh_cX10_init_0 19 rfl
theorem zh_cX10_init_1 : zck [188, 10, 181, 0, 18, 42, 16, 125, 188, 10, 181, 0, 21, 42, 8, 188, 10, 181, 0, 24, 42, 187] (zdu 20 cX10_init.data.toList) = true := by decide +kernel
theorem dX10_init_20 : decode cX10_init 20 = .ok (.newarray .int, 2) := zo_188_int zh_cX10_init_1 0 rfl
theorem dX10_init_22 : decode cX10_init 22 = .ok (.putfield 18, 3) := zo_181 zh_cX10_init_1 2 rfl
theorem dX10_init_25 : decode cX10_init 25 = .ok (.aload_n 0, 1) := zo_42 zh_cX10_init_1 5 rfl
theorem dX10_init_26 : decode cX10_init 26 = .ok (.bipush 125, 2) := zo_p16 zh_cX10_init_1 6 125 rfl rfl
theorem dX10_init_28 : decode cX10_init 28 = .ok (.newarray .int, 2) := zo_188_int zh_cX10_init_1 8 rfl
theorem dX10_init_30 : decode cX10_init 30 = .ok (.putfield 21, 3) := zo_181 zh_cX10_init_1 10 rfl
theorem dX10_init_33 : decode cX10_init 33 = .ok (.aload_n 0, 1) := zo_42 zh_cX10_init_1 13 rfl
theorem dX10_init_34 : decode cX10_init 34 = .ok (.iconst 5, 1) := zo_8 zh_cX10_init_1 14 rfl
theorem dX10_init_35 : decode cX10_init 35 = .ok (.newarray .int, 2) := zo_188_int zh_cX10_init_1 15 rfl
theorem dX10_init_37 : decode cX10_init 37 = .ok (.putfield 24, 3) := zo_181 zh_cX10_init_1 17 rfl
theorem zh_cX10_init_2 : zck [42, 187, 0, 27, 89, 183, 0, 29, 181, 0, 30, 177] (zdu 40 cX10_init.data.toList) = true := by decide +kernel
theorem dX10_init_40 : decode cX10_init 40 = .ok (.aload_n 0, 1) := zo_42 zh_cX10_init_2 0 rfl
theorem zo_187 {c : ByteArray} {s : Nat} {K : List Nat} (h : zck K (zdu s c.data.toList) = true) (k : Nat) {v : Nat} (hk : zt3 K k 187 v = true) : decode c (s + k) = .ok (.new v, 3) := zde ((zbd (zu1 (zh3 h hk).1)).trans ((zbd (f := fun x => pure (Instr.new x)) (zh3 h hk).2).trans rfl))
theorem dX10_init_41 : decode cX10_init 41 = .ok (.new 27, 3) := zo_187 zh_cX10_init_2 1 rfl
theorem dX10_init_44 : decode cX10_init 44 = .ok (.dup, 1) := zo_89 zh_cX10_init_2 4 rfl
theorem dX10_init_45 : decode cX10_init 45 = .ok (.invokespecial 29, 3) := zo_183 zh_cX10_init_2 5 rfl
theorem dX10_init_48 : decode cX10_init 48 = .ok (.putfield 30, 3) := zo_181 zh_cX10_init_2 8 rfl
theorem dX10_init_51 : decode cX10_init 51 = .ok (.return_, 1) := zo_177 zh_cX10_init_2 11 rfl
abbrev z_X10_init : List Cond := .code yX10_init cX10_init 1 none :: zW
abbrev rm_X10_init : Room := { frames := 2, cells := 7, slots := 192, locals := 40 }
set_option maxHeartbeats 4000000 in
set_option maxRecDepth 100000 in
theorem ci_X10_init (l : Launch) (D : va_G) (cs : Nat → ClassId) (h0 : Nat)  (sz : Nat) : Met l yX10_init z_X10_init rm_X10_init (va_Pc [.ref h0] (zPreO D cs [(h0, .inr (10, [.null, .null, .int 0, .null, .null, .null, .null, .int 0, .int 0]))] sz)) (va_Qv (fun _ : Nat → Nat => True) (fun (u : Nat → Nat) (t : State) => va_P D classes [(h0, .inr (10, [.ref (u 0), .ref (u 1), .int 0, .ref (u 2), .ref (u 3), .ref (u 4), .ref (u 5), .int 0, .int 0])), ((u 0), .inl (cs 0, 5, .inl (fun _ => 0))), ((u 1), .inl (cs 0, 5, .inl (fun _ => 0))), ((u 2), .inl (cs 0, 5, .inl (fun _ => 0))), ((u 3), .inl (cs 0, 125, .inl (fun _ => 0))), ((u 4), .inl (cs 0, 5, .inl (fun _ => 0))), ((u 5), .inr (7, [.int 0, .int 0, .int 0, .int 0, .int 0, .int 0, .int (-1 : Int32), .ref (u 6), .int 0, .int 0, .int 0, .int 0, .int 0, .int 0, .int 0])), ((u 6), .inl (cs 0, 32, .inl (fun _ => 0)))] t.heap ∧ va_D (va_A [(h0, .inr (10, [.null, .null, .int 0, .null, .null, .null, .null, .int 0, .int 0]))] sz) [(h0, .inr (10, [.ref (u 0), .ref (u 1), .int 0, .ref (u 2), .ref (u 3), .ref (u 4), .ref (u 5), .int 0, .int 0])), ((u 0), .inl (cs 0, 5, .inl (fun _ => 0))), ((u 1), .inl (cs 0, 5, .inl (fun _ => 0))), ((u 2), .inl (cs 0, 5, .inl (fun _ => 0))), ((u 3), .inl (cs 0, 125, .inl (fun _ => 0))), ((u 4), .inl (cs 0, 5, .inl (fun _ => 0))), ((u 5), .inr (7, [.int 0, .int 0, .int 0, .int 0, .int 0, .int 0, .int (-1 : Int32), .ref (u 6), .int 0, .int 0, .int 0, .int 0, .int 0, .int 0, .int 0])), ((u 6), .inl (cs 0, 32, .inl (fun _ => 0)))]) (va_A [(h0, .inr (10, [.null, .null, .int 0, .null, .null, .null, .null, .int 0, .int 0]))] sz)) 7 192 (va_A [(h0, .inr (10, [.null, .null, .int 0, .null, .null, .null, .null, .int 0, .int 0]))] sz) := by
  refine Met.ofW (cc := cX10_init) (maxL := 1) (ret := none) (by decide) rfl ?_
  intro p e s m args below meth c s₁ B hml hv
  obtain ⟨rfl, ⟨hsz, hP, hK, hD0⟩, hO⟩ := hv
  subst hsz
  have hD := hD0.self (sz := s.heap.size)
  have hx := B.exec
  have hb := B.bytes
  have hr := B.returns
  have ht : ∀ w ∈ zW, w.before _ s = true := fun w hw => atoms_spec (ws := z_X10_init) B.pre w (List.mem_cons_of_mem _ hw)
  have hown : s.vm.findClass RX10 = some m.cls := findClass_of_methodNamed B.named
  have hlocks := B.notSynchronized
  have hin : meth.name = "<init>" := (name_of_methodNamed B.named B.method).1
  generalize hAe : va_A [(h0, .inr (10, [.null, .null, .int 0, .null, .null, .null, .null, .int 0, .int 0]))] s.heap.size = A at hD ⊢
  have hA : ∀ q : Nat, s.heap.size ≤ q → A q := fun q h => by rw [← hAe]; exact Or.inr h
  have hS : va_S A s.heap s.heap [] := va_S.rf
  have hl := lv_entry ([.ref h0]) (n := 1) (Nat.le_of_ble_eq_true rfl)
  rw [lg_entry_eq]
  generalize (lg_sl ([.ref h0]) ++ List.replicate (1 - (lg_sl ([.ref h0])).length) Slot.unset).toArray = ls at hl ⊢
  obtain ⟨H, hH⟩ : ∃ H, H = s.heap := ⟨_, rfl⟩
  have hS : va_S A s.heap H [] := by rw [hH]; exact va_S.rf
  rw [← hH]
  have hP : va_P D classes [(h0, .inr (10, [.null, .null, .int 0, .null, .null, .null, .null, .int 0, .int 0]))] H := by rw [hH]; exact hP
  clear hH
  refine lv_aload_n hx hb dX10_init_0 rfl (lv_at hl 0 rfl) ?_
  refine W.objInit hx hb hown (ht _ kw_296) (ht _ kw_104) (ht _ kw_105) rfl (by rw [hml]; exact hl.1) rfl dX10_init_1 (Nat.le_of_ble_eq_true rfl) (Nat.le_of_ble_eq_true rfl) ?_
  refine W.eq (g2 := F0 m 4 ls []) rfl ?_
  refine lv_aload_n hx hb dX10_init_4 rfl (lv_at hl 0 rfl) ?_
  refine lv_iconst (v := (5 : Int32)) hx hb dX10_init_5 (by decide) ?_
  refine zk_newa (atype := .int) (ty := .int) (a0 := (5, .inl (fun _ => 0))) (N' := 5) hx hb (ht _ kw_184) rfl hK 0 rfl (by intro C h; cases h) hP hD hS hA (fun _ => rfl) (by decide) (by decide) (Nat.le_of_ble_eq_true rfl) (Nat.le_of_ble_eq_true rfl) (Nat.le_of_ble_eq_true rfl) dX10_init_6 (fun q_0 H hP hD hS => ?_)
  refine va_putF (D := D) (ci := 10) (v := .ref q_0) (ty := .array .int) (C := RX10) (T := TX10) (N := 9) hx hb ht iX10 tyX10 tyX10_ok nmX10 hown hK hP hD hS 0 rfl rfl 0 (by decide) (ht _ kw_387) (fun _ h9 => h9) rfl hin rfl (by decide +kernel) rfl rfl (Nat.le_of_ble_eq_true rfl) dX10_init_8 (fun H locs hP hD hS => ?_)
  refine lv_aload_n hx hb dX10_init_11 rfl (lv_at hl 0 rfl) ?_
  refine lv_iconst (v := (5 : Int32)) hx hb dX10_init_12 (by decide) ?_
  refine zk_newa (atype := .int) (ty := .int) (a0 := (5, .inl (fun _ => 0))) (N' := 5) hx hb (ht _ kw_184) rfl hK 0 rfl (by intro C h; cases h) hP hD hS hA (fun _ => rfl) (by decide) (by decide) (Nat.le_of_ble_eq_true rfl) (Nat.le_of_ble_eq_true rfl) (Nat.le_of_ble_eq_true rfl) dX10_init_13 (fun q_1 H hP hD hS => ?_)
  refine va_putF (D := D) (ci := 10) (v := .ref q_1) (ty := .array .int) (C := RX10) (T := TX10) (N := 9) hx hb ht iX10 tyX10 tyX10_ok nmX10 hown hK hP hD hS 0 rfl rfl 1 (by decide) (ht _ kw_388) (fun _ h9 => h9) rfl hin rfl (by decide +kernel) rfl rfl (Nat.le_of_ble_eq_true rfl) dX10_init_15 (fun H locs hP hD hS => ?_)
  refine lv_aload_n hx hb dX10_init_18 rfl (lv_at hl 0 rfl) ?_
  refine lv_iconst (v := (5 : Int32)) hx hb dX10_init_19 (by decide) ?_
  refine zk_newa (atype := .int) (ty := .int) (a0 := (5, .inl (fun _ => 0))) (N' := 5) hx hb (ht _ kw_184) rfl hK 0 rfl (by intro C h; cases h) hP hD hS hA (fun _ => rfl) (by decide) (by decide) (Nat.le_of_ble_eq_true rfl) (Nat.le_of_ble_eq_true rfl) (Nat.le_of_ble_eq_true rfl) dX10_init_20 (fun q_2 H hP hD hS => ?_)
  refine va_putF (D := D) (ci := 10) (v := .ref q_2) (ty := .array .int) (C := RX10) (T := TX10) (N := 9) hx hb ht iX10 tyX10 tyX10_ok nmX10 hown hK hP hD hS 0 rfl rfl 3 (by decide) (ht _ kw_391) (fun _ h9 => h9) rfl hin rfl (by decide +kernel) rfl rfl (Nat.le_of_ble_eq_true rfl) dX10_init_22 (fun H locs hP hD hS => ?_)
  refine lv_aload_n hx hb dX10_init_25 rfl (lv_at hl 0 rfl) ?_
  refine lv_bipush (v := (125 : Int32)) hx hb dX10_init_26 (by decide) ?_
  refine zk_newa (atype := .int) (ty := .int) (a0 := (125, .inl (fun _ => 0))) (N' := 125) hx hb (ht _ kw_184) rfl hK 0 rfl (by intro C h; cases h) hP hD hS hA (fun _ => rfl) (by decide) (by decide) (Nat.le_of_ble_eq_true rfl) (Nat.le_of_ble_eq_true rfl) (Nat.le_of_ble_eq_true rfl) dX10_init_28 (fun q_3 H hP hD hS => ?_)
  refine va_putF (D := D) (ci := 10) (v := .ref q_3) (ty := .array .int) (C := RX10) (T := TX10) (N := 9) hx hb ht iX10 tyX10 tyX10_ok nmX10 hown hK hP hD hS 0 rfl rfl 4 (by decide) (ht _ kw_392) (fun _ h9 => h9) rfl hin rfl (by decide +kernel) rfl rfl (Nat.le_of_ble_eq_true rfl) dX10_init_30 (fun H locs hP hD hS => ?_)
  have hP : va_P D classes [(h0, .inr (10, [.ref q_0, .ref q_1, .int 0, .ref q_2, .ref q_3, .null, .null, .int 0, .int 0])), (q_0, .inl (cs 0, 5, .inl (fun _ => 0))), (q_1, .inl (cs 0, 5, .inl (fun _ => 0))), (q_2, .inl (cs 0, 5, .inl (fun _ => 0))), (q_3, .inl (cs 0, 125, .inl (fun _ => 0)))] H := hP
  have hD : va_D A [(h0, .inr (10, [.ref q_0, .ref q_1, .int 0, .ref q_2, .ref q_3, .null, .null, .int 0, .int 0])), (q_0, .inl (cs 0, 5, .inl (fun _ => 0))), (q_1, .inl (cs 0, 5, .inl (fun _ => 0))), (q_2, .inl (cs 0, 5, .inl (fun _ => 0))), (q_3, .inl (cs 0, 125, .inl (fun _ => 0)))] := hD
  refine lv_aload_n hx hb dX10_init_33 rfl (lv_at hl 0 rfl) ?_
  refine lv_iconst (v := (5 : Int32)) hx hb dX10_init_34 (by decide) ?_
  refine zk_newa (atype := .int) (ty := .int) (a0 := (5, .inl (fun _ => 0))) (N' := 5) hx hb (ht _ kw_184) rfl hK 0 rfl (by intro C h; cases h) hP hD hS hA (fun _ => rfl) (by decide) (by decide) (Nat.le_of_ble_eq_true rfl) (Nat.le_of_ble_eq_true rfl) (Nat.le_of_ble_eq_true rfl) dX10_init_35 (fun q_4 H hP hD hS => ?_)
  refine va_putF (D := D) (ci := 10) (v := .ref q_4) (ty := .array .int) (C := RX10) (T := TX10) (N := 9) hx hb ht iX10 tyX10 tyX10_ok nmX10 hown hK hP hD hS 0 rfl rfl 5 (by decide) (ht _ kw_393) (fun _ h9 => h9) rfl hin rfl (by decide +kernel) rfl rfl (Nat.le_of_ble_eq_true rfl) dX10_init_37 (fun H locs hP hD hS => ?_)
  refine lv_aload_n hx hb dX10_init_40 rfl (lv_at hl 0 rfl) ?_
  refine va_new (ci := 7) (fs := [.int 0, .int 0, .int 0, .int 0, .int 0, .int 0, .int 0, .null, .int 0, .int 0, .int 0, .int 0, .int 0, .int 0, .int 0]) (C := RX7) (T := TX7) (N := 15) hx hb ht iX7 tyX7 tyX7_ok hown (ht _ kw_297) (ht _ kw_298) (ht _ kw_82) hK hP hD hS hA rfl (zkDX7) (Nat.le_of_ble_eq_true rfl) (Nat.le_of_ble_eq_true rfl) dX10_init_41 (fun q_5 H hP hD hS => ?_)
  refine lv_dup hx hb dX10_init_44 rfl ?_
  have hP : va_P D classes [(h0, .inr (10, [.ref q_0, .ref q_1, .int 0, .ref q_2, .ref q_3, .ref q_4, .null, .int 0, .int 0])), (q_0, .inl (cs 0, 5, .inl (fun _ => 0))), (q_1, .inl (cs 0, 5, .inl (fun _ => 0))), (q_2, .inl (cs 0, 5, .inl (fun _ => 0))), (q_3, .inl (cs 0, 125, .inl (fun _ => 0))), (q_4, .inl (cs 0, 5, .inl (fun _ => 0))), (q_5, .inr (7, [.int 0, .int 0, .int 0, .int 0, .int 0, .int 0, .int 0, .null, .int 0, .int 0, .int 0, .int 0, .int 0, .int 0, .int 0]))] H := hP
  have hD : va_D A [(h0, .inr (10, [.ref q_0, .ref q_1, .int 0, .ref q_2, .ref q_3, .ref q_4, .null, .int 0, .int 0])), (q_0, .inl (cs 0, 5, .inl (fun _ => 0))), (q_1, .inl (cs 0, 5, .inl (fun _ => 0))), (q_2, .inl (cs 0, 5, .inl (fun _ => 0))), (q_3, .inl (cs 0, 125, .inl (fun _ => 0))), (q_4, .inl (cs 0, 5, .inl (fun _ => 0))), (q_5, .inr (7, [.int 0, .int 0, .int 0, .int 0, .int 0, .int 0, .int 0, .null, .int 0, .int 0, .int 0, .int 0, .int 0, .int 0, .int 0]))] := hD
  refine zk_jv (post := fun _ => True) (w1 := fun (u : Nat → Nat) => [(q_5, .inr (7, [.int 0, .int 0, .int 0, .int 0, .int 0, .int 0, .int (-1 : Int32), .ref (u 0), .int 0, .int 0, .int 0, .int 0, .int 0, .int 0, .int 0])), ((u 0), .inl (cs 0, 32, .inl (fun _ => 0)))]) (As := []) (rest := [.ref q_5, .ref h0]) (ci_X7_init l D cs q_5  H.size) ⟨hx, hb, hml, hown, ht⟩ (⟨va_cnB 0 ht (zGN kw_301) rfl rfl rfl (zOn (q := (RX10, 29, yX7_init)) hO 3 rfl) (ht _ kw_82) (by decide +kernel) ⟨Nat.le_of_ble_eq_true rfl, Nat.le_of_ble_eq_true rfl⟩, rfl, ht _ kw_300⟩) hP hD hS hK hA [6] [0, 1, 2, 3, 4, 5] rfl rfl rfl rfl (by decide) rfl hl.1 (Nat.le_of_ble_eq_true rfl) dX10_init_45 ⟨Nat.le_of_ble_eq_true rfl, Nat.le_of_ble_eq_true rfl⟩ (fun qq_45 H locs hq hP hD hS => ?_)
  have hP : va_P D classes [(h0, .inr (10, [.ref q_0, .ref q_1, .int 0, .ref q_2, .ref q_3, .ref q_4, .null, .int 0, .int 0])), (q_0, .inl (cs 0, 5, .inl (fun _ => 0))), (q_1, .inl (cs 0, 5, .inl (fun _ => 0))), (q_2, .inl (cs 0, 5, .inl (fun _ => 0))), (q_3, .inl (cs 0, 125, .inl (fun _ => 0))), (q_4, .inl (cs 0, 5, .inl (fun _ => 0))), (q_5, .inr (7, [.int 0, .int 0, .int 0, .int 0, .int 0, .int 0, .int (-1 : Int32), .ref (qq_45 0), .int 0, .int 0, .int 0, .int 0, .int 0, .int 0, .int 0])), ((qq_45 0), .inl (cs 0, 32, .inl (fun _ => 0)))] H := hP
  have hD : va_D A [(h0, .inr (10, [.ref q_0, .ref q_1, .int 0, .ref q_2, .ref q_3, .ref q_4, .null, .int 0, .int 0])), (q_0, .inl (cs 0, 5, .inl (fun _ => 0))), (q_1, .inl (cs 0, 5, .inl (fun _ => 0))), (q_2, .inl (cs 0, 5, .inl (fun _ => 0))), (q_3, .inl (cs 0, 125, .inl (fun _ => 0))), (q_4, .inl (cs 0, 5, .inl (fun _ => 0))), (q_5, .inr (7, [.int 0, .int 0, .int 0, .int 0, .int 0, .int 0, .int (-1 : Int32), .ref (qq_45 0), .int 0, .int 0, .int 0, .int 0, .int 0, .int 0, .int 0])), ((qq_45 0), .inl (cs 0, 32, .inl (fun _ => 0)))] := hD
  refine va_putF (D := D) (ci := 10) (v := .ref q_5) (ty := .object "AlreadyJudged$Suit") (C := RX10) (T := TX10) (N := 9) hx hb ht iX10 tyX10 tyX10_ok nmX10 hown hK hP hD hS 0 rfl rfl 6 (by decide) (ht _ kw_394) (fun _ h9 => h9) rfl hin rfl (by decide +kernel) rfl rfl (Nat.le_of_ble_eq_true rfl) dX10_init_48 (fun H locs hP hD hS => ?_)
  have hP : va_P D classes [(h0, .inr (10, [.ref q_0, .ref q_1, .int 0, .ref q_2, .ref q_3, .ref q_4, .ref q_5, .int 0, .int 0])), (q_0, .inl (cs 0, 5, .inl (fun _ => 0))), (q_1, .inl (cs 0, 5, .inl (fun _ => 0))), (q_2, .inl (cs 0, 5, .inl (fun _ => 0))), (q_3, .inl (cs 0, 125, .inl (fun _ => 0))), (q_4, .inl (cs 0, 5, .inl (fun _ => 0))), (q_5, .inr (7, [.int 0, .int 0, .int 0, .int 0, .int 0, .int 0, .int (-1 : Int32), .ref (qq_45 0), .int 0, .int 0, .int 0, .int 0, .int 0, .int 0, .int 0])), ((qq_45 0), .inl (cs 0, 32, .inl (fun _ => 0)))] H := hP
  have hD : va_D A [(h0, .inr (10, [.ref q_0, .ref q_1, .int 0, .ref q_2, .ref q_3, .ref q_4, .ref q_5, .int 0, .int 0])), (q_0, .inl (cs 0, 5, .inl (fun _ => 0))), (q_1, .inl (cs 0, 5, .inl (fun _ => 0))), (q_2, .inl (cs 0, 5, .inl (fun _ => 0))), (q_3, .inl (cs 0, 125, .inl (fun _ => 0))), (q_4, .inl (cs 0, 5, .inl (fun _ => 0))), (q_5, .inr (7, [.int 0, .int 0, .int 0, .int 0, .int 0, .int 0, .int (-1 : Int32), .ref (qq_45 0), .int 0, .int 0, .int 0, .int 0, .int 0, .int 0, .int 0])), ((qq_45 0), .inl (cs 0, 32, .inl (fun _ => 0)))] := hD
  refine W.widen (k := 7) (n := 192) (Nat.le_of_ble_eq_true rfl) (Nat.le_of_ble_eq_true rfl) ?_
  exact W.vret hx hb hr (fun t ht2 hW => ⟨⟨fun k => [q_0, q_1, q_2, q_3, q_4, q_5, (qq_45 0)].getD k 0, rfl, trivial, by rw [ht2]; exact hP, hD⟩, hS.F ht2⟩) hS.2.2 dX10_init_51 hlocks
theorem kw_423 : Cond.methodLink RX1 3 objectInit ∈ zW := zwC (i := 109) zc_2 rfl rfl
theorem zh_cX1_init_0 : zck [42, 183, 0, 3, 42, 16, 40, 188, 10, 181, 0, 9, 42, 16, 40, 188, 10, 181, 0, 15, 42, 16] (zdu 0 cX1_init.data.toList) = true := by decide +kernel
theorem dX1_init_0 : decode cX1_init 0 = .ok (.aload_n 0, 1) := zo_42 zh_cX1_init_0 0 rfl
theorem dX1_init_1 : decode cX1_init 1 = .ok (.invokespecial 3, 3) := zo_183 zh_cX1_init_0 1 rfl
theorem dX1_init_4 : decode cX1_init 4 = .ok (.aload_n 0, 1) := zo_42 zh_cX1_init_0 4 rfl
theorem dX1_init_5 : decode cX1_init 5 = .ok (.bipush 40, 2) := zo_p16 zh_cX1_init_0 5 40 rfl rfl
theorem dX1_init_7 : decode cX1_init 7 = .ok (.newarray .int, 2) := zo_188_int zh_cX1_init_0 7 rfl
theorem dX1_init_9 : decode cX1_init 9 = .ok (.putfield 9, 3) := zo_181 zh_cX1_init_0 9 rfl
theorem dX1_init_12 : decode cX1_init 12 = .ok (.aload_n 0, 1) := zo_42 zh_cX1_init_0 12 rfl
theorem dX1_init_13 : decode cX1_init 13 = .ok (.bipush 40, 2) := zo_p16 zh_cX1_init_0 13 40 rfl rfl
theorem dX1_init_15 : decode cX1_init 15 = .ok (.newarray .int, 2) := zo_188_int zh_cX1_init_0 15 rfl
theorem dX1_init_17 : decode cX1_init 17 = .ok (.putfield 15, 3) := zo_181 zh_cX1_init_0 17 rfl
theorem zh_cX1_init_1 : zck [42, 16, 40, 188, 10, 181, 0, 18, 42, 16, 40, 188, 10, 181, 0, 21, 42, 43, 181, 0, 24, 177] (zdu 20 cX1_init.data.toList) = true := by decide +kernel
theorem dX1_init_20 : decode cX1_init 20 = .ok (.aload_n 0, 1) := zo_42 zh_cX1_init_1 0 rfl
theorem dX1_init_21 : decode cX1_init 21 = .ok (.bipush 40, 2) := zo_p16 zh_cX1_init_1 1 40 rfl rfl
theorem dX1_init_23 : decode cX1_init 23 = .ok (.newarray .int, 2) := zo_188_int zh_cX1_init_1 3 rfl
theorem dX1_init_25 : decode cX1_init 25 = .ok (.putfield 18, 3) := zo_181 zh_cX1_init_1 5 rfl
theorem dX1_init_28 : decode cX1_init 28 = .ok (.aload_n 0, 1) := zo_42 zh_cX1_init_1 8 rfl
theorem dX1_init_29 : decode cX1_init 29 = .ok (.bipush 40, 2) := zo_p16 zh_cX1_init_1 9 40 rfl rfl
theorem dX1_init_31 : decode cX1_init 31 = .ok (.newarray .int, 2) := zo_188_int zh_cX1_init_1 11 rfl
theorem dX1_init_33 : decode cX1_init 33 = .ok (.putfield 21, 3) := zo_181 zh_cX1_init_1 13 rfl
theorem dX1_init_36 : decode cX1_init 36 = .ok (.aload_n 0, 1) := zo_42 zh_cX1_init_1 16 rfl
theorem dX1_init_37 : decode cX1_init 37 = .ok (.aload_n 1, 1) := zo_43 zh_cX1_init_1 17 rfl
theorem dX1_init_38 : decode cX1_init 38 = .ok (.putfield 24, 3) := zo_181 zh_cX1_init_1 18 rfl
theorem zh_cX1_init_2 : zck [24, 177] (zdu 40 cX1_init.data.toList) = true := by decide +kernel
theorem dX1_init_41 : decode cX1_init 41 = .ok (.return_, 1) := zo_177 zh_cX1_init_2 1 rfl
abbrev z_X1_init : List Cond := .code yX1_init cX1_init 2 none :: zW
abbrev rm_X1_init : Room := { frames := 1, cells := 4, slots := 160, locals := 20 }
set_option maxHeartbeats 4000000 in
set_option maxRecDepth 100000 in
theorem ci_X1_init (l : Launch) (D : va_G) (cs : Nat → ClassId) (h0 : Nat) (p1 : Nat) (sz : Nat) : Met l yX1_init z_X1_init rm_X1_init (va_Pc [.ref h0, .ref p1] (zPre D cs [(h0, .inr (1, [.null, .null, .null, .null, .null, .int 0, .int 0]))] sz)) (va_Qv (fun _ : Nat → Nat => True) (fun (u : Nat → Nat) (t : State) => va_P D classes [(h0, .inr (1, [.ref p1, .ref (u 0), .ref (u 1), .ref (u 2), .ref (u 3), .int 0, .int 0])), ((u 0), .inl (cs 0, 40, .inl (fun _ => 0))), ((u 1), .inl (cs 0, 40, .inl (fun _ => 0))), ((u 2), .inl (cs 0, 40, .inl (fun _ => 0))), ((u 3), .inl (cs 0, 40, .inl (fun _ => 0)))] t.heap ∧ va_D (va_A [(h0, .inr (1, [.null, .null, .null, .null, .null, .int 0, .int 0]))] sz) [(h0, .inr (1, [.ref p1, .ref (u 0), .ref (u 1), .ref (u 2), .ref (u 3), .int 0, .int 0])), ((u 0), .inl (cs 0, 40, .inl (fun _ => 0))), ((u 1), .inl (cs 0, 40, .inl (fun _ => 0))), ((u 2), .inl (cs 0, 40, .inl (fun _ => 0))), ((u 3), .inl (cs 0, 40, .inl (fun _ => 0)))]) (va_A [(h0, .inr (1, [.null, .null, .null, .null, .null, .int 0, .int 0]))] sz)) 4 160 (va_A [(h0, .inr (1, [.null, .null, .null, .null, .null, .int 0, .int 0]))] sz) := by
  refine Met.ofW (cc := cX1_init) (maxL := 2) (ret := none) (by decide) rfl ?_
  intro p e s m args below meth c s₁ B hml hv
  obtain ⟨rfl, hsz, hP, hK, hD0⟩ := hv
  subst hsz
  have hD := hD0.self (sz := s.heap.size)
  have hx := B.exec
  have hb := B.bytes
  have hr := B.returns
  have ht : ∀ w ∈ zW, w.before _ s = true := fun w hw => atoms_spec (ws := z_X1_init) B.pre w (List.mem_cons_of_mem _ hw)
  have hown : s.vm.findClass RX1 = some m.cls := findClass_of_methodNamed B.named
  have hlocks := B.notSynchronized
  have hin : meth.name = "<init>" := (name_of_methodNamed B.named B.method).1
  generalize hAe : va_A [(h0, .inr (1, [.null, .null, .null, .null, .null, .int 0, .int 0]))] s.heap.size = A at hD ⊢
  have hA : ∀ q : Nat, s.heap.size ≤ q → A q := fun q h => by rw [← hAe]; exact Or.inr h
  have hS : va_S A s.heap s.heap [] := va_S.rf
  have hl := lv_entry ([.ref h0, .ref p1]) (n := 2) (Nat.le_of_ble_eq_true rfl)
  rw [lg_entry_eq]
  generalize (lg_sl ([.ref h0, .ref p1]) ++ List.replicate (2 - (lg_sl ([.ref h0, .ref p1])).length) Slot.unset).toArray = ls at hl ⊢
  obtain ⟨H, hH⟩ : ∃ H, H = s.heap := ⟨_, rfl⟩
  have hS : va_S A s.heap H [] := by rw [hH]; exact va_S.rf
  rw [← hH]
  have hP : va_P D classes [(h0, .inr (1, [.null, .null, .null, .null, .null, .int 0, .int 0]))] H := by rw [hH]; exact hP
  clear hH
  refine lv_aload_n hx hb dX1_init_0 rfl (lv_at hl 0 rfl) ?_
  refine W.objInit hx hb hown (ht _ kw_423) (ht _ kw_104) (ht _ kw_105) rfl (by rw [hml]; exact hl.1) rfl dX1_init_1 (Nat.le_of_ble_eq_true rfl) (Nat.le_of_ble_eq_true rfl) ?_
  refine W.eq (g2 := F0 m 4 ls []) rfl ?_
  refine lv_aload_n hx hb dX1_init_4 rfl (lv_at hl 0 rfl) ?_
  refine lv_bipush (v := (40 : Int32)) hx hb dX1_init_5 (by decide) ?_
  refine zk_newa (atype := .int) (ty := .int) (a0 := (40, .inl (fun _ => 0))) (N' := 40) hx hb (ht _ kw_184) rfl hK 0 rfl (by intro C h; cases h) hP hD hS hA (fun _ => rfl) (by decide) (by decide) (Nat.le_of_ble_eq_true rfl) (Nat.le_of_ble_eq_true rfl) (Nat.le_of_ble_eq_true rfl) dX1_init_7 (fun q_0 H hP hD hS => ?_)
  refine va_putF (D := D) (ci := 1) (v := .ref q_0) (ty := .array .int) (C := RX1) (T := TX1) (N := 7) hx hb ht iX1 tyX1 tyX1_ok nmX1 hown hK hP hD hS 0 rfl rfl 1 (by decide) (ht _ kw_425) (fun _ h9 => h9) rfl hin rfl (by decide +kernel) rfl rfl (Nat.le_of_ble_eq_true rfl) dX1_init_9 (fun H locs hP hD hS => ?_)
  refine lv_aload_n hx hb dX1_init_12 rfl (lv_at hl 0 rfl) ?_
  refine lv_bipush (v := (40 : Int32)) hx hb dX1_init_13 (by decide) ?_
  refine zk_newa (atype := .int) (ty := .int) (a0 := (40, .inl (fun _ => 0))) (N' := 40) hx hb (ht _ kw_184) rfl hK 0 rfl (by intro C h; cases h) hP hD hS hA (fun _ => rfl) (by decide) (by decide) (Nat.le_of_ble_eq_true rfl) (Nat.le_of_ble_eq_true rfl) (Nat.le_of_ble_eq_true rfl) dX1_init_15 (fun q_1 H hP hD hS => ?_)
  refine va_putF (D := D) (ci := 1) (v := .ref q_1) (ty := .array .int) (C := RX1) (T := TX1) (N := 7) hx hb ht iX1 tyX1 tyX1_ok nmX1 hown hK hP hD hS 0 rfl rfl 2 (by decide) (ht _ kw_426) (fun _ h9 => h9) rfl hin rfl (by decide +kernel) rfl rfl (Nat.le_of_ble_eq_true rfl) dX1_init_17 (fun H locs hP hD hS => ?_)
  refine lv_aload_n hx hb dX1_init_20 rfl (lv_at hl 0 rfl) ?_
  refine lv_bipush (v := (40 : Int32)) hx hb dX1_init_21 (by decide) ?_
  refine zk_newa (atype := .int) (ty := .int) (a0 := (40, .inl (fun _ => 0))) (N' := 40) hx hb (ht _ kw_184) rfl hK 0 rfl (by intro C h; cases h) hP hD hS hA (fun _ => rfl) (by decide) (by decide) (Nat.le_of_ble_eq_true rfl) (Nat.le_of_ble_eq_true rfl) (Nat.le_of_ble_eq_true rfl) dX1_init_23 (fun q_2 H hP hD hS => ?_)
  refine va_putF (D := D) (ci := 1) (v := .ref q_2) (ty := .array .int) (C := RX1) (T := TX1) (N := 7) hx hb ht iX1 tyX1 tyX1_ok nmX1 hown hK hP hD hS 0 rfl rfl 3 (by decide) (ht _ kw_427) (fun _ h9 => h9) rfl hin rfl (by decide +kernel) rfl rfl (Nat.le_of_ble_eq_true rfl) dX1_init_25 (fun H locs hP hD hS => ?_)
  refine lv_aload_n hx hb dX1_init_28 rfl (lv_at hl 0 rfl) ?_
  refine lv_bipush (v := (40 : Int32)) hx hb dX1_init_29 (by decide) ?_
  refine zk_newa (atype := .int) (ty := .int) (a0 := (40, .inl (fun _ => 0))) (N' := 40) hx hb (ht _ kw_184) rfl hK 0 rfl (by intro C h; cases h) hP hD hS hA (fun _ => rfl) (by decide) (by decide) (Nat.le_of_ble_eq_true rfl) (Nat.le_of_ble_eq_true rfl) (Nat.le_of_ble_eq_true rfl) dX1_init_31 (fun q_3 H hP hD hS => ?_)
  refine va_putF (D := D) (ci := 1) (v := .ref q_3) (ty := .array .int) (C := RX1) (T := TX1) (N := 7) hx hb ht iX1 tyX1 tyX1_ok nmX1 hown hK hP hD hS 0 rfl rfl 4 (by decide) (ht _ kw_428) (fun _ h9 => h9) rfl hin rfl (by decide +kernel) rfl rfl (Nat.le_of_ble_eq_true rfl) dX1_init_33 (fun H locs hP hD hS => ?_)
  have hP : va_P D classes [(h0, .inr (1, [.null, .ref q_0, .ref q_1, .ref q_2, .ref q_3, .int 0, .int 0])), (q_0, .inl (cs 0, 40, .inl (fun _ => 0))), (q_1, .inl (cs 0, 40, .inl (fun _ => 0))), (q_2, .inl (cs 0, 40, .inl (fun _ => 0))), (q_3, .inl (cs 0, 40, .inl (fun _ => 0)))] H := hP
  have hD : va_D A [(h0, .inr (1, [.null, .ref q_0, .ref q_1, .ref q_2, .ref q_3, .int 0, .int 0])), (q_0, .inl (cs 0, 40, .inl (fun _ => 0))), (q_1, .inl (cs 0, 40, .inl (fun _ => 0))), (q_2, .inl (cs 0, 40, .inl (fun _ => 0))), (q_3, .inl (cs 0, 40, .inl (fun _ => 0)))] := hD
  refine lv_aload_n hx hb dX1_init_36 rfl (lv_at hl 0 rfl) ?_
  refine lv_aload_n hx hb dX1_init_37 rfl (lv_at hl 1 rfl) ?_
  refine va_putF (D := D) (ci := 1) (v := .ref p1) (ty := .object "AlreadyJudged$Court") (C := RX1) (T := TX1) (N := 7) hx hb ht iX1 tyX1 tyX1_ok nmX1 hown hK hP hD hS 0 rfl rfl 0 (by decide) (ht _ kw_424) (fun _ h9 => h9) rfl hin rfl (by decide +kernel) rfl rfl (Nat.le_of_ble_eq_true rfl) dX1_init_38 (fun H locs hP hD hS => ?_)
  have hP : va_P D classes [(h0, .inr (1, [.ref p1, .ref q_0, .ref q_1, .ref q_2, .ref q_3, .int 0, .int 0])), (q_0, .inl (cs 0, 40, .inl (fun _ => 0))), (q_1, .inl (cs 0, 40, .inl (fun _ => 0))), (q_2, .inl (cs 0, 40, .inl (fun _ => 0))), (q_3, .inl (cs 0, 40, .inl (fun _ => 0)))] H := hP
  have hD : va_D A [(h0, .inr (1, [.ref p1, .ref q_0, .ref q_1, .ref q_2, .ref q_3, .int 0, .int 0])), (q_0, .inl (cs 0, 40, .inl (fun _ => 0))), (q_1, .inl (cs 0, 40, .inl (fun _ => 0))), (q_2, .inl (cs 0, 40, .inl (fun _ => 0))), (q_3, .inl (cs 0, 40, .inl (fun _ => 0)))] := hD
  refine W.widen (k := 4) (n := 160) (Nat.le_of_ble_eq_true rfl) (Nat.le_of_ble_eq_true rfl) ?_
  exact W.vret hx hb hr (fun t ht2 hW => ⟨⟨fun k => [q_0, q_1, q_2, q_3].getD k 0, rfl, trivial, by rw [ht2]; exact hP, hD⟩, hS.F ht2⟩) hS.2.2 dX1_init_41 hlocks
theorem kw_452 : Cond.methodLink RX0 3 objectInit ∈ zW := zwC (i := 138) zc_2 rfl rfl
theorem zh_cX0_init_0 : zck [42, 183, 0, 3, 42, 16, 24, 188, 10, 181, 0, 9, 177] (zdu 0 cX0_init.data.toList) = true := by decide +kernel
theorem dX0_init_0 : decode cX0_init 0 = .ok (.aload_n 0, 1) := zo_42 zh_cX0_init_0 0 rfl
theorem dX0_init_1 : decode cX0_init 1 = .ok (.invokespecial 3, 3) := zo_183 zh_cX0_init_0 1 rfl
theorem dX0_init_4 : decode cX0_init 4 = .ok (.aload_n 0, 1) := zo_42 zh_cX0_init_0 4 rfl
theorem dX0_init_5 : decode cX0_init 5 = .ok (.bipush 24, 2) := zo_p16 zh_cX0_init_0 5 24 rfl rfl
theorem dX0_init_7 : decode cX0_init 7 = .ok (.newarray .int, 2) := zo_188_int zh_cX0_init_0 7 rfl
theorem dX0_init_9 : decode cX0_init 9 = .ok (.putfield 9, 3) := zo_181 zh_cX0_init_0 9 rfl
theorem dX0_init_12 : decode cX0_init 12 = .ok (.return_, 1) := zo_177 zh_cX0_init_0 12 rfl
abbrev z_X0_init : List Cond := .code yX0_init cX0_init 1 none :: zW
abbrev rm_X0_init : Room := { frames := 1, cells := 1, slots := 24, locals := 20 }
set_option maxHeartbeats 4000000 in
set_option maxRecDepth 100000 in
theorem ci_X0_init (l : Launch) (D : va_G) (cs : Nat → ClassId) (h0 : Nat)  (sz : Nat) : Met l yX0_init z_X0_init rm_X0_init (va_Pc [.ref h0] (zPre D cs [(h0, .inr (0, [.null, .int 0, .int 0, .int 0, .int 0]))] sz)) (va_Qv (fun _ : Nat → Nat => True) (fun (u : Nat → Nat) (t : State) => va_P D classes [(h0, .inr (0, [.ref (u 0), .int 0, .int 0, .int 0, .int 0])), ((u 0), .inl (cs 0, 24, .inl (fun _ => 0)))] t.heap ∧ va_D (va_A [(h0, .inr (0, [.null, .int 0, .int 0, .int 0, .int 0]))] sz) [(h0, .inr (0, [.ref (u 0), .int 0, .int 0, .int 0, .int 0])), ((u 0), .inl (cs 0, 24, .inl (fun _ => 0)))]) (va_A [(h0, .inr (0, [.null, .int 0, .int 0, .int 0, .int 0]))] sz)) 1 24 (va_A [(h0, .inr (0, [.null, .int 0, .int 0, .int 0, .int 0]))] sz) := by
  refine Met.ofW (cc := cX0_init) (maxL := 1) (ret := none) (by decide) rfl ?_
  intro p e s m args below meth c s₁ B hml hv
  obtain ⟨rfl, hsz, hP, hK, hD0⟩ := hv
  subst hsz
  have hD := hD0.self (sz := s.heap.size)
  have hx := B.exec
  have hb := B.bytes
  have hr := B.returns
  have ht : ∀ w ∈ zW, w.before _ s = true := fun w hw => atoms_spec (ws := z_X0_init) B.pre w (List.mem_cons_of_mem _ hw)
  have hown : s.vm.findClass RX0 = some m.cls := findClass_of_methodNamed B.named
  have hlocks := B.notSynchronized
  have hin : meth.name = "<init>" := (name_of_methodNamed B.named B.method).1
  generalize hAe : va_A [(h0, .inr (0, [.null, .int 0, .int 0, .int 0, .int 0]))] s.heap.size = A at hD ⊢
  have hA : ∀ q : Nat, s.heap.size ≤ q → A q := fun q h => by rw [← hAe]; exact Or.inr h
  have hS : va_S A s.heap s.heap [] := va_S.rf
  have hl := lv_entry ([.ref h0]) (n := 1) (Nat.le_of_ble_eq_true rfl)
  rw [lg_entry_eq]
  generalize (lg_sl ([.ref h0]) ++ List.replicate (1 - (lg_sl ([.ref h0])).length) Slot.unset).toArray = ls at hl ⊢
  obtain ⟨H, hH⟩ : ∃ H, H = s.heap := ⟨_, rfl⟩
  have hS : va_S A s.heap H [] := by rw [hH]; exact va_S.rf
  rw [← hH]
  have hP : va_P D classes [(h0, .inr (0, [.null, .int 0, .int 0, .int 0, .int 0]))] H := by rw [hH]; exact hP
  clear hH
  refine lv_aload_n hx hb dX0_init_0 rfl (lv_at hl 0 rfl) ?_
  refine W.objInit hx hb hown (ht _ kw_452) (ht _ kw_104) (ht _ kw_105) rfl (by rw [hml]; exact hl.1) rfl dX0_init_1 (Nat.le_of_ble_eq_true rfl) (Nat.le_of_ble_eq_true rfl) ?_
  refine W.eq (g2 := F0 m 4 ls []) rfl ?_
  refine lv_aload_n hx hb dX0_init_4 rfl (lv_at hl 0 rfl) ?_
  refine lv_bipush (v := (24 : Int32)) hx hb dX0_init_5 (by decide) ?_
  refine zk_newa (atype := .int) (ty := .int) (a0 := (24, .inl (fun _ => 0))) (N' := 24) hx hb (ht _ kw_184) rfl hK 0 rfl (by intro C h; cases h) hP hD hS hA (fun _ => rfl) (by decide) (by decide) (Nat.le_of_ble_eq_true rfl) (Nat.le_of_ble_eq_true rfl) (Nat.le_of_ble_eq_true rfl) dX0_init_7 (fun q_0 H hP hD hS => ?_)
  refine va_putF (D := D) (ci := 0) (v := .ref q_0) (ty := .array .int) (C := RX0) (T := TX0) (N := 5) hx hb ht iX0 tyX0 tyX0_ok nmX0 hown hK hP hD hS 0 rfl rfl 0 (by decide) (ht _ kw_453) (fun _ h9 => h9) rfl hin rfl (by decide +kernel) rfl rfl (Nat.le_of_ble_eq_true rfl) dX0_init_9 (fun H locs hP hD hS => ?_)
  have hP : va_P D classes [(h0, .inr (0, [.ref q_0, .int 0, .int 0, .int 0, .int 0])), (q_0, .inl (cs 0, 24, .inl (fun _ => 0)))] H := hP
  have hD : va_D A [(h0, .inr (0, [.ref q_0, .int 0, .int 0, .int 0, .int 0])), (q_0, .inl (cs 0, 24, .inl (fun _ => 0)))] := hD
  refine W.widen (k := 1) (n := 24) (Nat.le_of_ble_eq_true rfl) (Nat.le_of_ble_eq_true rfl) ?_
  exact W.vret hx hb hr (fun t ht2 hW => ⟨⟨fun k => [q_0].getD k 0, rfl, trivial, by rw [ht2]; exact hP, hD⟩, hS.F ht2⟩) hS.2.2 dX0_init_12 hlocks
theorem kw_679 : Cond.methodLink RX6 3 objectInit ∈ zW := zwC (i := 125) zc_3 rfl rfl
theorem zh_cX6_init_0 : zck [42, 183, 0, 3, 42, 2, 181, 0, 11, 42, 16, 60, 188, 11, 181, 0, 15, 177] (zdu 0 cX6_init.data.toList) = true := by decide +kernel
theorem dX6_init_0 : decode cX6_init 0 = .ok (.aload_n 0, 1) := zo_42 zh_cX6_init_0 0 rfl
theorem dX6_init_1 : decode cX6_init 1 = .ok (.invokespecial 3, 3) := zo_183 zh_cX6_init_0 1 rfl
theorem dX6_init_4 : decode cX6_init 4 = .ok (.aload_n 0, 1) := zo_42 zh_cX6_init_0 4 rfl
theorem dX6_init_5 : decode cX6_init 5 = .ok (.iconst (-1), 1) := zo_2 zh_cX6_init_0 5 rfl
theorem dX6_init_6 : decode cX6_init 6 = .ok (.putfield 11, 3) := zo_181 zh_cX6_init_0 6 rfl
theorem dX6_init_9 : decode cX6_init 9 = .ok (.aload_n 0, 1) := zo_42 zh_cX6_init_0 9 rfl
theorem dX6_init_10 : decode cX6_init 10 = .ok (.bipush 60, 2) := zo_p16 zh_cX6_init_0 10 60 rfl rfl
theorem dX6_init_12 : decode cX6_init 12 = .ok (.newarray .long, 2) := zo_188_long zh_cX6_init_0 12 rfl
theorem dX6_init_14 : decode cX6_init 14 = .ok (.putfield 15, 3) := zo_181 zh_cX6_init_0 14 rfl
theorem dX6_init_17 : decode cX6_init 17 = .ok (.return_, 1) := zo_177 zh_cX6_init_0 17 rfl
abbrev z_X6_init : List Cond := .code yX6_init cX6_init 1 none :: zW
abbrev rm_X6_init : Room := { frames := 1, cells := 1, slots := 60, locals := 20 }
set_option maxHeartbeats 4000000 in
set_option maxRecDepth 100000 in
theorem ci_X6_init (l : Launch) (D : va_G) (cs : Nat → ClassId) (h0 : Nat)  (sz : Nat) : Met l yX6_init z_X6_init rm_X6_init (va_Pc [.ref h0] (zPre D cs [(h0, .inr (6, [.int 0, .int 0, .int 0, .null]))] sz)) (va_Qv (fun _ : Nat → Nat => True) (fun (u : Nat → Nat) (t : State) => va_P D classes [(h0, .inr (6, [.int (-1 : Int32), .int 0, .int 0, .ref (u 0)])), ((u 0), .inl (cs 1, 60, .inr (.inl (fun _ => 0))))] t.heap ∧ va_D (va_A [(h0, .inr (6, [.int 0, .int 0, .int 0, .null]))] sz) [(h0, .inr (6, [.int (-1 : Int32), .int 0, .int 0, .ref (u 0)])), ((u 0), .inl (cs 1, 60, .inr (.inl (fun _ => 0))))]) (va_A [(h0, .inr (6, [.int 0, .int 0, .int 0, .null]))] sz)) 1 60 (va_A [(h0, .inr (6, [.int 0, .int 0, .int 0, .null]))] sz) := by
  refine Met.ofW (cc := cX6_init) (maxL := 1) (ret := none) (by decide) rfl ?_
  intro p e s m args below meth c s₁ B hml hv
  obtain ⟨rfl, hsz, hP, hK, hD0⟩ := hv
  subst hsz
  have hD := hD0.self (sz := s.heap.size)
  have hx := B.exec
  have hb := B.bytes
  have hr := B.returns
  have ht : ∀ w ∈ zW, w.before _ s = true := fun w hw => atoms_spec (ws := z_X6_init) B.pre w (List.mem_cons_of_mem _ hw)
  have hown : s.vm.findClass RX6 = some m.cls := findClass_of_methodNamed B.named
  have hlocks := B.notSynchronized
  have hin : meth.name = "<init>" := (name_of_methodNamed B.named B.method).1
  generalize hAe : va_A [(h0, .inr (6, [.int 0, .int 0, .int 0, .null]))] s.heap.size = A at hD ⊢
  have hA : ∀ q : Nat, s.heap.size ≤ q → A q := fun q h => by rw [← hAe]; exact Or.inr h
  have hS : va_S A s.heap s.heap [] := va_S.rf
  have hl := lv_entry ([.ref h0]) (n := 1) (Nat.le_of_ble_eq_true rfl)
  rw [lg_entry_eq]
  generalize (lg_sl ([.ref h0]) ++ List.replicate (1 - (lg_sl ([.ref h0])).length) Slot.unset).toArray = ls at hl ⊢
  obtain ⟨H, hH⟩ : ∃ H, H = s.heap := ⟨_, rfl⟩
  have hS : va_S A s.heap H [] := by rw [hH]; exact va_S.rf
  rw [← hH]
  have hP : va_P D classes [(h0, .inr (6, [.int 0, .int 0, .int 0, .null]))] H := by rw [hH]; exact hP
  clear hH
  refine lv_aload_n hx hb dX6_init_0 rfl (lv_at hl 0 rfl) ?_
  refine W.objInit hx hb hown (ht _ kw_679) (ht _ kw_104) (ht _ kw_105) rfl (by rw [hml]; exact hl.1) rfl dX6_init_1 (Nat.le_of_ble_eq_true rfl) (Nat.le_of_ble_eq_true rfl) ?_
  refine W.eq (g2 := F0 m 4 ls []) rfl ?_
  refine lv_aload_n hx hb dX6_init_4 rfl (lv_at hl 0 rfl) ?_
  refine lv_iconst (v := (-1 : Int32)) hx hb dX6_init_5 (by decide) ?_
  refine va_put (D := D) (ci := 6) (v := .int (-1 : Int32)) (ty := .int) (C := RX6) (T := TX6) (N := 4) hx hb ht iX6 tyX6 tyX6_ok nmX6 hown hK hP hD hS 0 rfl rfl 0 (by decide) (ht _ kw_680) (fun _ h9 => h9) rfl (by decide +kernel) rfl rfl (Nat.le_of_ble_eq_true rfl) dX6_init_6 (fun H locs hP hD hS => ?_)
  refine lv_aload_n hx hb dX6_init_9 rfl (lv_at hl 0 rfl) ?_
  refine lv_bipush (v := (60 : Int32)) hx hb dX6_init_10 (by decide) ?_
  refine zk_newa (atype := .long) (ty := .long) (a0 := (60, .inr (.inl (fun _ => 0)))) (N' := 60) hx hb (ht _ kw_228) rfl hK 1 rfl (by intro C h; cases h) hP hD hS hA (fun _ => rfl) (by decide) (by decide) (Nat.le_of_ble_eq_true rfl) (Nat.le_of_ble_eq_true rfl) (Nat.le_of_ble_eq_true rfl) dX6_init_12 (fun q_0 H hP hD hS => ?_)
  refine va_putF (D := D) (ci := 6) (v := .ref q_0) (ty := .array .long) (C := RX6) (T := TX6) (N := 4) hx hb ht iX6 tyX6 tyX6_ok nmX6 hown hK hP hD hS 0 rfl rfl 3 (by decide) (ht _ kw_685) (fun _ h9 => h9) rfl hin rfl (by decide +kernel) rfl rfl (Nat.le_of_ble_eq_true rfl) dX6_init_14 (fun H locs hP hD hS => ?_)
  have hP : va_P D classes [(h0, .inr (6, [.int (-1 : Int32), .int 0, .int 0, .ref q_0])), (q_0, .inl (cs 1, 60, .inr (.inl (fun _ => 0))))] H := hP
  have hD : va_D A [(h0, .inr (6, [.int (-1 : Int32), .int 0, .int 0, .ref q_0])), (q_0, .inl (cs 1, 60, .inr (.inl (fun _ => 0))))] := hD
  refine W.widen (k := 1) (n := 60) (Nat.le_of_ble_eq_true rfl) (Nat.le_of_ble_eq_true rfl) ?_
  exact W.vret hx hb hr (fun t ht2 hW => ⟨⟨fun k => [q_0].getD k 0, rfl, trivial, by rw [ht2]; exact hP, hD⟩, hS.F ht2⟩) hS.2.2 dX6_init_17 hlocks
theorem kw_190 : Cond.methodLink RX3 3 objectInit ∈ zW := zwC (i := 116) zc_1 rfl rfl
theorem zh_cX3_init_0 : zck [42, 183, 0, 3, 42, 16, 11, 188, 10, 181, 0, 9, 42, 16, 36, 188, 10, 181, 0, 17, 42, 16] (zdu 0 cX3_init.data.toList) = true := by decide +kernel
theorem dX3_init_0 : decode cX3_init 0 = .ok (.aload_n 0, 1) := zo_42 zh_cX3_init_0 0 rfl
theorem dX3_init_1 : decode cX3_init 1 = .ok (.invokespecial 3, 3) := zo_183 zh_cX3_init_0 1 rfl
theorem dX3_init_4 : decode cX3_init 4 = .ok (.aload_n 0, 1) := zo_42 zh_cX3_init_0 4 rfl
theorem dX3_init_5 : decode cX3_init 5 = .ok (.bipush 11, 2) := zo_p16 zh_cX3_init_0 5 11 rfl rfl
theorem dX3_init_7 : decode cX3_init 7 = .ok (.newarray .int, 2) := zo_188_int zh_cX3_init_0 7 rfl
theorem dX3_init_9 : decode cX3_init 9 = .ok (.putfield 9, 3) := zo_181 zh_cX3_init_0 9 rfl
theorem dX3_init_12 : decode cX3_init 12 = .ok (.aload_n 0, 1) := zo_42 zh_cX3_init_0 12 rfl
theorem dX3_init_13 : decode cX3_init 13 = .ok (.bipush 36, 2) := zo_p16 zh_cX3_init_0 13 36 rfl rfl
theorem dX3_init_15 : decode cX3_init 15 = .ok (.newarray .int, 2) := zo_188_int zh_cX3_init_0 15 rfl
theorem dX3_init_17 : decode cX3_init 17 = .ok (.putfield 17, 3) := zo_181 zh_cX3_init_0 17 rfl
theorem zh_cX3_init_1 : zck [42, 16, 7, 188, 11, 181, 0, 20, 42, 16, 7, 188, 11, 181, 0, 24, 42, 16, 20, 188, 10, 181] (zdu 20 cX3_init.data.toList) = true := by decide +kernel
theorem dX3_init_20 : decode cX3_init 20 = .ok (.aload_n 0, 1) := zo_42 zh_cX3_init_1 0 rfl
theorem dX3_init_21 : decode cX3_init 21 = .ok (.bipush 7, 2) := zo_p16 zh_cX3_init_1 1 7 rfl rfl
theorem dX3_init_23 : decode cX3_init 23 = .ok (.newarray .long, 2) := zo_188_long zh_cX3_init_1 3 rfl
theorem dX3_init_25 : decode cX3_init 25 = .ok (.putfield 20, 3) := zo_181 zh_cX3_init_1 5 rfl
theorem dX3_init_28 : decode cX3_init 28 = .ok (.aload_n 0, 1) := zo_42 zh_cX3_init_1 8 rfl
theorem dX3_init_29 : decode cX3_init 29 = .ok (.bipush 7, 2) := zo_p16 zh_cX3_init_1 9 7 rfl rfl
theorem dX3_init_31 : decode cX3_init 31 = .ok (.newarray .long, 2) := zo_188_long zh_cX3_init_1 11 rfl
theorem dX3_init_33 : decode cX3_init 33 = .ok (.putfield 24, 3) := zo_181 zh_cX3_init_1 13 rfl
theorem dX3_init_36 : decode cX3_init 36 = .ok (.aload_n 0, 1) := zo_42 zh_cX3_init_1 16 rfl
theorem dX3_init_37 : decode cX3_init 37 = .ok (.bipush 20, 2) := zo_p16 zh_cX3_init_1 17 20 rfl rfl
theorem dX3_init_39 : decode cX3_init 39 = .ok (.newarray .int, 2) := zo_188_int zh_cX3_init_1 19 rfl
theorem zh_cX3_init_2 : zck [10, 181, 0, 27, 42, 16, 20, 188, 10, 181, 0, 30, 42, 16, 20, 188, 10, 181, 0, 33, 42, 43] (zdu 40 cX3_init.data.toList) = true := by decide +kernel
theorem dX3_init_41 : decode cX3_init 41 = .ok (.putfield 27, 3) := zo_181 zh_cX3_init_2 1 rfl
theorem dX3_init_44 : decode cX3_init 44 = .ok (.aload_n 0, 1) := zo_42 zh_cX3_init_2 4 rfl
theorem dX3_init_45 : decode cX3_init 45 = .ok (.bipush 20, 2) := zo_p16 zh_cX3_init_2 5 20 rfl rfl
theorem dX3_init_47 : decode cX3_init 47 = .ok (.newarray .int, 2) := zo_188_int zh_cX3_init_2 7 rfl
theorem dX3_init_49 : decode cX3_init 49 = .ok (.putfield 30, 3) := zo_181 zh_cX3_init_2 9 rfl
theorem dX3_init_52 : decode cX3_init 52 = .ok (.aload_n 0, 1) := zo_42 zh_cX3_init_2 12 rfl
theorem dX3_init_53 : decode cX3_init 53 = .ok (.bipush 20, 2) := zo_p16 zh_cX3_init_2 13 20 rfl rfl
theorem dX3_init_55 : decode cX3_init 55 = .ok (.newarray .int, 2) := zo_188_int zh_cX3_init_2 15 rfl
theorem dX3_init_57 : decode cX3_init 57 = .ok (.putfield 33, 3) := zo_181 zh_cX3_init_2 17 rfl
theorem zh_cX3_init_3 : zck [42, 43, 181, 0, 36, 177] (zdu 60 cX3_init.data.toList) = true := by decide +kernel
theorem dX3_init_60 : decode cX3_init 60 = .ok (.aload_n 0, 1) := zo_42 zh_cX3_init_3 0 rfl
theorem dX3_init_61 : decode cX3_init 61 = .ok (.aload_n 1, 1) := zo_43 zh_cX3_init_3 1 rfl
theorem dX3_init_62 : decode cX3_init 62 = .ok (.putfield 36, 3) := zo_181 zh_cX3_init_3 2 rfl
theorem dX3_init_65 : decode cX3_init 65 = .ok (.return_, 1) := zo_177 zh_cX3_init_3 5 rfl
abbrev z_X3_init : List Cond := .code yX3_init cX3_init 2 none :: zW
abbrev rm_X3_init : Room := { frames := 1, cells := 7, slots := 121, locals := 20 }
set_option maxHeartbeats 4000000 in
set_option maxRecDepth 100000 in
theorem ci_X3_init (l : Launch) (D : va_G) (cs : Nat → ClassId) (h0 : Nat) (p1 : Nat) (sz : Nat) : Met l yX3_init z_X3_init rm_X3_init (va_Pc [.ref h0, .ref p1] (zPre D cs [(h0, .inr (3, [.null, .null, .null, .null, .null, .null, .null, .null, .int 0, .int 0, .int 0]))] sz)) (va_Qv (fun _ : Nat → Nat => True) (fun (u : Nat → Nat) (t : State) => va_P D classes [(h0, .inr (3, [.ref p1, .ref (u 0), .ref (u 1), .ref (u 2), .ref (u 3), .ref (u 4), .ref (u 5), .ref (u 6), .int 0, .int 0, .int 0])), ((u 0), .inl (cs 0, 11, .inl (fun _ => 0))), ((u 1), .inl (cs 0, 36, .inl (fun _ => 0))), ((u 2), .inl (cs 1, 7, .inr (.inl (fun _ => 0)))), ((u 3), .inl (cs 1, 7, .inr (.inl (fun _ => 0)))), ((u 4), .inl (cs 0, 20, .inl (fun _ => 0))), ((u 5), .inl (cs 0, 20, .inl (fun _ => 0))), ((u 6), .inl (cs 0, 20, .inl (fun _ => 0)))] t.heap ∧ va_D (va_A [(h0, .inr (3, [.null, .null, .null, .null, .null, .null, .null, .null, .int 0, .int 0, .int 0]))] sz) [(h0, .inr (3, [.ref p1, .ref (u 0), .ref (u 1), .ref (u 2), .ref (u 3), .ref (u 4), .ref (u 5), .ref (u 6), .int 0, .int 0, .int 0])), ((u 0), .inl (cs 0, 11, .inl (fun _ => 0))), ((u 1), .inl (cs 0, 36, .inl (fun _ => 0))), ((u 2), .inl (cs 1, 7, .inr (.inl (fun _ => 0)))), ((u 3), .inl (cs 1, 7, .inr (.inl (fun _ => 0)))), ((u 4), .inl (cs 0, 20, .inl (fun _ => 0))), ((u 5), .inl (cs 0, 20, .inl (fun _ => 0))), ((u 6), .inl (cs 0, 20, .inl (fun _ => 0)))]) (va_A [(h0, .inr (3, [.null, .null, .null, .null, .null, .null, .null, .null, .int 0, .int 0, .int 0]))] sz)) 7 121 (va_A [(h0, .inr (3, [.null, .null, .null, .null, .null, .null, .null, .null, .int 0, .int 0, .int 0]))] sz) := by
  refine Met.ofW (cc := cX3_init) (maxL := 2) (ret := none) (by decide) rfl ?_
  intro p e s m args below meth c s₁ B hml hv
  obtain ⟨rfl, hsz, hP, hK, hD0⟩ := hv
  subst hsz
  have hD := hD0.self (sz := s.heap.size)
  have hx := B.exec
  have hb := B.bytes
  have hr := B.returns
  have ht : ∀ w ∈ zW, w.before _ s = true := fun w hw => atoms_spec (ws := z_X3_init) B.pre w (List.mem_cons_of_mem _ hw)
  have hown : s.vm.findClass RX3 = some m.cls := findClass_of_methodNamed B.named
  have hlocks := B.notSynchronized
  have hin : meth.name = "<init>" := (name_of_methodNamed B.named B.method).1
  generalize hAe : va_A [(h0, .inr (3, [.null, .null, .null, .null, .null, .null, .null, .null, .int 0, .int 0, .int 0]))] s.heap.size = A at hD ⊢
  have hA : ∀ q : Nat, s.heap.size ≤ q → A q := fun q h => by rw [← hAe]; exact Or.inr h
  have hS : va_S A s.heap s.heap [] := va_S.rf
  have hl := lv_entry ([.ref h0, .ref p1]) (n := 2) (Nat.le_of_ble_eq_true rfl)
  rw [lg_entry_eq]
  generalize (lg_sl ([.ref h0, .ref p1]) ++ List.replicate (2 - (lg_sl ([.ref h0, .ref p1])).length) Slot.unset).toArray = ls at hl ⊢
  obtain ⟨H, hH⟩ : ∃ H, H = s.heap := ⟨_, rfl⟩
  have hS : va_S A s.heap H [] := by rw [hH]; exact va_S.rf
  rw [← hH]
  have hP : va_P D classes [(h0, .inr (3, [.null, .null, .null, .null, .null, .null, .null, .null, .int 0, .int 0, .int 0]))] H := by rw [hH]; exact hP
  clear hH
  refine lv_aload_n hx hb dX3_init_0 rfl (lv_at hl 0 rfl) ?_
  refine W.objInit hx hb hown (ht _ kw_190) (ht _ kw_104) (ht _ kw_105) rfl (by rw [hml]; exact hl.1) rfl dX3_init_1 (Nat.le_of_ble_eq_true rfl) (Nat.le_of_ble_eq_true rfl) ?_
  refine W.eq (g2 := F0 m 4 ls []) rfl ?_
  refine lv_aload_n hx hb dX3_init_4 rfl (lv_at hl 0 rfl) ?_
  refine lv_bipush (v := (11 : Int32)) hx hb dX3_init_5 (by decide) ?_
  refine zk_newa (atype := .int) (ty := .int) (a0 := (11, .inl (fun _ => 0))) (N' := 11) hx hb (ht _ kw_184) rfl hK 0 rfl (by intro C h; cases h) hP hD hS hA (fun _ => rfl) (by decide) (by decide) (Nat.le_of_ble_eq_true rfl) (Nat.le_of_ble_eq_true rfl) (Nat.le_of_ble_eq_true rfl) dX3_init_7 (fun q_0 H hP hD hS => ?_)
  refine va_putF (D := D) (ci := 3) (v := .ref q_0) (ty := .array .int) (C := RX3) (T := TX3) (N := 11) hx hb ht iX3 tyX3 tyX3_ok nmX3 hown hK hP hD hS 0 rfl rfl 1 (by decide) (ht _ kw_193) (fun _ h9 => h9) rfl hin rfl (by decide +kernel) rfl rfl (Nat.le_of_ble_eq_true rfl) dX3_init_9 (fun H locs hP hD hS => ?_)
  refine lv_aload_n hx hb dX3_init_12 rfl (lv_at hl 0 rfl) ?_
  refine lv_bipush (v := (36 : Int32)) hx hb dX3_init_13 (by decide) ?_
  refine zk_newa (atype := .int) (ty := .int) (a0 := (36, .inl (fun _ => 0))) (N' := 36) hx hb (ht _ kw_184) rfl hK 0 rfl (by intro C h; cases h) hP hD hS hA (fun _ => rfl) (by decide) (by decide) (Nat.le_of_ble_eq_true rfl) (Nat.le_of_ble_eq_true rfl) (Nat.le_of_ble_eq_true rfl) dX3_init_15 (fun q_1 H hP hD hS => ?_)
  refine va_putF (D := D) (ci := 3) (v := .ref q_1) (ty := .array .int) (C := RX3) (T := TX3) (N := 11) hx hb ht iX3 tyX3 tyX3_ok nmX3 hown hK hP hD hS 0 rfl rfl 2 (by decide) (ht _ kw_194) (fun _ h9 => h9) rfl hin rfl (by decide +kernel) rfl rfl (Nat.le_of_ble_eq_true rfl) dX3_init_17 (fun H locs hP hD hS => ?_)
  refine lv_aload_n hx hb dX3_init_20 rfl (lv_at hl 0 rfl) ?_
  refine lv_bipush (v := (7 : Int32)) hx hb dX3_init_21 (by decide) ?_
  refine zk_newa (atype := .long) (ty := .long) (a0 := (7, .inr (.inl (fun _ => 0)))) (N' := 7) hx hb (ht _ kw_228) rfl hK 1 rfl (by intro C h; cases h) hP hD hS hA (fun _ => rfl) (by decide) (by decide) (Nat.le_of_ble_eq_true rfl) (Nat.le_of_ble_eq_true rfl) (Nat.le_of_ble_eq_true rfl) dX3_init_23 (fun q_2 H hP hD hS => ?_)
  refine va_putF (D := D) (ci := 3) (v := .ref q_2) (ty := .array .long) (C := RX3) (T := TX3) (N := 11) hx hb ht iX3 tyX3 tyX3_ok nmX3 hown hK hP hD hS 0 rfl rfl 3 (by decide) (ht _ kw_195) (fun _ h9 => h9) rfl hin rfl (by decide +kernel) rfl rfl (Nat.le_of_ble_eq_true rfl) dX3_init_25 (fun H locs hP hD hS => ?_)
  refine lv_aload_n hx hb dX3_init_28 rfl (lv_at hl 0 rfl) ?_
  refine lv_bipush (v := (7 : Int32)) hx hb dX3_init_29 (by decide) ?_
  refine zk_newa (atype := .long) (ty := .long) (a0 := (7, .inr (.inl (fun _ => 0)))) (N' := 7) hx hb (ht _ kw_228) rfl hK 1 rfl (by intro C h; cases h) hP hD hS hA (fun _ => rfl) (by decide) (by decide) (Nat.le_of_ble_eq_true rfl) (Nat.le_of_ble_eq_true rfl) (Nat.le_of_ble_eq_true rfl) dX3_init_31 (fun q_3 H hP hD hS => ?_)
  refine va_putF (D := D) (ci := 3) (v := .ref q_3) (ty := .array .long) (C := RX3) (T := TX3) (N := 11) hx hb ht iX3 tyX3 tyX3_ok nmX3 hown hK hP hD hS 0 rfl rfl 4 (by decide) (ht _ kw_196) (fun _ h9 => h9) rfl hin rfl (by decide +kernel) rfl rfl (Nat.le_of_ble_eq_true rfl) dX3_init_33 (fun H locs hP hD hS => ?_)
  have hP : va_P D classes [(h0, .inr (3, [.null, .ref q_0, .ref q_1, .ref q_2, .ref q_3, .null, .null, .null, .int 0, .int 0, .int 0])), (q_0, .inl (cs 0, 11, .inl (fun _ => 0))), (q_1, .inl (cs 0, 36, .inl (fun _ => 0))), (q_2, .inl (cs 1, 7, .inr (.inl (fun _ => 0)))), (q_3, .inl (cs 1, 7, .inr (.inl (fun _ => 0))))] H := hP
  have hD : va_D A [(h0, .inr (3, [.null, .ref q_0, .ref q_1, .ref q_2, .ref q_3, .null, .null, .null, .int 0, .int 0, .int 0])), (q_0, .inl (cs 0, 11, .inl (fun _ => 0))), (q_1, .inl (cs 0, 36, .inl (fun _ => 0))), (q_2, .inl (cs 1, 7, .inr (.inl (fun _ => 0)))), (q_3, .inl (cs 1, 7, .inr (.inl (fun _ => 0))))] := hD
  refine lv_aload_n hx hb dX3_init_36 rfl (lv_at hl 0 rfl) ?_
  refine lv_bipush (v := (20 : Int32)) hx hb dX3_init_37 (by decide) ?_
  refine zk_newa (atype := .int) (ty := .int) (a0 := (20, .inl (fun _ => 0))) (N' := 20) hx hb (ht _ kw_184) rfl hK 0 rfl (by intro C h; cases h) hP hD hS hA (fun _ => rfl) (by decide) (by decide) (Nat.le_of_ble_eq_true rfl) (Nat.le_of_ble_eq_true rfl) (Nat.le_of_ble_eq_true rfl) dX3_init_39 (fun q_4 H hP hD hS => ?_)
  refine va_putF (D := D) (ci := 3) (v := .ref q_4) (ty := .array .int) (C := RX3) (T := TX3) (N := 11) hx hb ht iX3 tyX3 tyX3_ok nmX3 hown hK hP hD hS 0 rfl rfl 5 (by decide) (ht _ kw_197) (fun _ h9 => h9) rfl hin rfl (by decide +kernel) rfl rfl (Nat.le_of_ble_eq_true rfl) dX3_init_41 (fun H locs hP hD hS => ?_)
  refine lv_aload_n hx hb dX3_init_44 rfl (lv_at hl 0 rfl) ?_
  refine lv_bipush (v := (20 : Int32)) hx hb dX3_init_45 (by decide) ?_
  refine zk_newa (atype := .int) (ty := .int) (a0 := (20, .inl (fun _ => 0))) (N' := 20) hx hb (ht _ kw_184) rfl hK 0 rfl (by intro C h; cases h) hP hD hS hA (fun _ => rfl) (by decide) (by decide) (Nat.le_of_ble_eq_true rfl) (Nat.le_of_ble_eq_true rfl) (Nat.le_of_ble_eq_true rfl) dX3_init_47 (fun q_5 H hP hD hS => ?_)
  refine va_putF (D := D) (ci := 3) (v := .ref q_5) (ty := .array .int) (C := RX3) (T := TX3) (N := 11) hx hb ht iX3 tyX3 tyX3_ok nmX3 hown hK hP hD hS 0 rfl rfl 6 (by decide) (ht _ kw_199) (fun _ h9 => h9) rfl hin rfl (by decide +kernel) rfl rfl (Nat.le_of_ble_eq_true rfl) dX3_init_49 (fun H locs hP hD hS => ?_)
  refine lv_aload_n hx hb dX3_init_52 rfl (lv_at hl 0 rfl) ?_
  refine lv_bipush (v := (20 : Int32)) hx hb dX3_init_53 (by decide) ?_
  refine zk_newa (atype := .int) (ty := .int) (a0 := (20, .inl (fun _ => 0))) (N' := 20) hx hb (ht _ kw_184) rfl hK 0 rfl (by intro C h; cases h) hP hD hS hA (fun _ => rfl) (by decide) (by decide) (Nat.le_of_ble_eq_true rfl) (Nat.le_of_ble_eq_true rfl) (Nat.le_of_ble_eq_true rfl) dX3_init_55 (fun q_6 H hP hD hS => ?_)
  refine va_putF (D := D) (ci := 3) (v := .ref q_6) (ty := .array .int) (C := RX3) (T := TX3) (N := 11) hx hb ht iX3 tyX3 tyX3_ok nmX3 hown hK hP hD hS 0 rfl rfl 7 (by decide) (ht _ kw_200) (fun _ h9 => h9) rfl hin rfl (by decide +kernel) rfl rfl (Nat.le_of_ble_eq_true rfl) dX3_init_57 (fun H locs hP hD hS => ?_)
  refine lv_aload_n hx hb dX3_init_60 rfl (lv_at hl 0 rfl) ?_
  refine lv_aload_n hx hb dX3_init_61 rfl (lv_at hl 1 rfl) ?_
  refine va_putF (D := D) (ci := 3) (v := .ref p1) (ty := .object "AlreadyJudged$Court") (C := RX3) (T := TX3) (N := 11) hx hb ht iX3 tyX3 tyX3_ok nmX3 hown hK hP hD hS 0 rfl rfl 0 (by decide) (ht _ kw_191) (fun _ h9 => h9) rfl hin rfl (by decide +kernel) rfl rfl (Nat.le_of_ble_eq_true rfl) dX3_init_62 (fun H locs hP hD hS => ?_)
  have hP : va_P D classes [(h0, .inr (3, [.ref p1, .ref q_0, .ref q_1, .ref q_2, .ref q_3, .ref q_4, .ref q_5, .ref q_6, .int 0, .int 0, .int 0])), (q_0, .inl (cs 0, 11, .inl (fun _ => 0))), (q_1, .inl (cs 0, 36, .inl (fun _ => 0))), (q_2, .inl (cs 1, 7, .inr (.inl (fun _ => 0)))), (q_3, .inl (cs 1, 7, .inr (.inl (fun _ => 0)))), (q_4, .inl (cs 0, 20, .inl (fun _ => 0))), (q_5, .inl (cs 0, 20, .inl (fun _ => 0))), (q_6, .inl (cs 0, 20, .inl (fun _ => 0)))] H := hP
  have hD : va_D A [(h0, .inr (3, [.ref p1, .ref q_0, .ref q_1, .ref q_2, .ref q_3, .ref q_4, .ref q_5, .ref q_6, .int 0, .int 0, .int 0])), (q_0, .inl (cs 0, 11, .inl (fun _ => 0))), (q_1, .inl (cs 0, 36, .inl (fun _ => 0))), (q_2, .inl (cs 1, 7, .inr (.inl (fun _ => 0)))), (q_3, .inl (cs 1, 7, .inr (.inl (fun _ => 0)))), (q_4, .inl (cs 0, 20, .inl (fun _ => 0))), (q_5, .inl (cs 0, 20, .inl (fun _ => 0))), (q_6, .inl (cs 0, 20, .inl (fun _ => 0)))] := hD
  refine W.widen (k := 7) (n := 121) (Nat.le_of_ble_eq_true rfl) (Nat.le_of_ble_eq_true rfl) ?_
  exact W.vret hx hb hr (fun t ht2 hW => ⟨⟨fun k => [q_0, q_1, q_2, q_3, q_4, q_5, q_6].getD k 0, rfl, trivial, by rw [ht2]; exact hP, hD⟩, hS.F ht2⟩) hS.2.2 dX3_init_65 hlocks
theorem kw_669 : Cond.methodLink RX4 1 objectInit ∈ zW := zwC (i := 115) zc_3 rfl rfl
theorem zh_cX4_init_0 : zck [42, 183, 0, 1, 42, 43, 181, 0, 7, 177] (zdu 0 cX4_init.data.toList) = true := by decide +kernel
theorem dX4_init_0 : decode cX4_init 0 = .ok (.aload_n 0, 1) := zo_42 zh_cX4_init_0 0 rfl
theorem dX4_init_1 : decode cX4_init 1 = .ok (.invokespecial 1, 3) := zo_183 zh_cX4_init_0 1 rfl
theorem dX4_init_4 : decode cX4_init 4 = .ok (.aload_n 0, 1) := zo_42 zh_cX4_init_0 4 rfl
theorem dX4_init_5 : decode cX4_init 5 = .ok (.aload_n 1, 1) := zo_43 zh_cX4_init_0 5 rfl
theorem dX4_init_6 : decode cX4_init 6 = .ok (.putfield 7, 3) := zo_181 zh_cX4_init_0 6 rfl
theorem dX4_init_9 : decode cX4_init 9 = .ok (.return_, 1) := zo_177 zh_cX4_init_0 9 rfl
abbrev z_X4_init : List Cond := .code yX4_init cX4_init 2 none :: zW
abbrev rm_X4_init : Room := { frames := 1, cells := 0, slots := 0, locals := 20 }
set_option maxHeartbeats 4000000 in
set_option maxRecDepth 100000 in
theorem ci_X4_init (l : Launch) (D : va_G) (cs : Nat → ClassId) (h0 : Nat) (p1 : Nat) (sz : Nat) : Met l yX4_init z_X4_init rm_X4_init (va_Pc [.ref h0, .ref p1] (zPre D cs [(h0, .inr (4, [.null]))] sz)) (va_Qv (fun _ : Nat → Nat => True) (fun (u : Nat → Nat) (t : State) => va_P D classes [(h0, .inr (4, [.ref p1]))] t.heap ∧ va_D (va_A [(h0, .inr (4, [.null]))] sz) [(h0, .inr (4, [.ref p1]))]) (va_A [(h0, .inr (4, [.null]))] sz)) 0 0 (va_A [(h0, .inr (4, [.null]))] sz) := by
  refine Met.ofW (cc := cX4_init) (maxL := 2) (ret := none) (by decide) rfl ?_
  intro p e s m args below meth c s₁ B hml hv
  obtain ⟨rfl, hsz, hP, hK, hD0⟩ := hv
  subst hsz
  have hD := hD0.self (sz := s.heap.size)
  have hx := B.exec
  have hb := B.bytes
  have hr := B.returns
  have ht : ∀ w ∈ zW, w.before _ s = true := fun w hw => atoms_spec (ws := z_X4_init) B.pre w (List.mem_cons_of_mem _ hw)
  have hown : s.vm.findClass RX4 = some m.cls := findClass_of_methodNamed B.named
  have hlocks := B.notSynchronized
  have hin : meth.name = "<init>" := (name_of_methodNamed B.named B.method).1
  generalize hAe : va_A [(h0, .inr (4, [.null]))] s.heap.size = A at hD ⊢
  have hA : ∀ q : Nat, s.heap.size ≤ q → A q := fun q h => by rw [← hAe]; exact Or.inr h
  have hS : va_S A s.heap s.heap [] := va_S.rf
  have hl := lv_entry ([.ref h0, .ref p1]) (n := 2) (Nat.le_of_ble_eq_true rfl)
  rw [lg_entry_eq]
  generalize (lg_sl ([.ref h0, .ref p1]) ++ List.replicate (2 - (lg_sl ([.ref h0, .ref p1])).length) Slot.unset).toArray = ls at hl ⊢
  obtain ⟨H, hH⟩ : ∃ H, H = s.heap := ⟨_, rfl⟩
  have hS : va_S A s.heap H [] := by rw [hH]; exact va_S.rf
  rw [← hH]
  have hP : va_P D classes [(h0, .inr (4, [.null]))] H := by rw [hH]; exact hP
  clear hH
  refine lv_aload_n hx hb dX4_init_0 rfl (lv_at hl 0 rfl) ?_
  refine W.objInit hx hb hown (ht _ kw_669) (ht _ kw_104) (ht _ kw_105) rfl (by rw [hml]; exact hl.1) rfl dX4_init_1 (Nat.le_of_ble_eq_true rfl) (Nat.le_of_ble_eq_true rfl) ?_
  refine W.eq (g2 := F0 m 4 ls []) rfl ?_
  refine lv_aload_n hx hb dX4_init_4 rfl (lv_at hl 0 rfl) ?_
  refine lv_aload_n hx hb dX4_init_5 rfl (lv_at hl 1 rfl) ?_
  refine va_putF (D := D) (ci := 4) (v := .ref p1) (ty := .array .int) (C := RX4) (T := TX4) (N := 1) hx hb ht iX4 tyX4 tyX4_ok nmX4 hown hK hP hD hS 0 rfl rfl 0 (by decide) (ht _ kw_670) (fun _ h9 => h9) rfl hin rfl (by decide +kernel) rfl rfl (Nat.le_of_ble_eq_true rfl) dX4_init_6 (fun H locs hP hD hS => ?_)
  have hP : va_P D classes [(h0, .inr (4, [.ref p1]))] H := hP
  have hD : va_D A [(h0, .inr (4, [.ref p1]))] := hD
  refine W.widen (k := 0) (n := 0) (Nat.le_of_ble_eq_true rfl) (Nat.le_of_ble_eq_true rfl) ?_
  exact W.vret hx hb hr (fun t ht2 hW => ⟨⟨fun k => [].getD k 0, rfl, trivial, by rw [ht2]; exact hP, hD⟩, hS.F ht2⟩) hS.2.2 dX4_init_9 hlocks
theorem kw_239 : Cond.fieldLink RX5 36 "AlreadyJudged$Tape" "size" "I" ∈ zW := zwC (i := 165) zc_1 rfl rfl
theorem kw_541 : Cond.methodLink RX5 29 yX5_readLine ∈ zW := zwC (i := 227) zc_2 rfl rfl
theorem kw_542 : Cond.instanceMethod yX5_readLine ∈ zW := zwC (i := 228) zc_2 rfl rfl
theorem kw_543 : Cond.selects RX5 yX5_readLine yX5_readLine ∈ zW := zwC (i := 229) zc_2 rfl rfl
theorem kw_544 : Cond.code yX5_readLine cX5_readLine 2 none ∈ zW := zwC (i := 230) zc_2 rfl rfl
theorem kw_650 : Cond.classLink RX5 42 RX4 ∈ zW := zwC (i := 96) zc_3 rfl rfl
theorem kw_651 : Cond.instantiable RX4 1 ∈ zW := zwC (i := 97) zc_3 rfl rfl
theorem kw_652 : Cond.methodLink RX5 44 yJ7_copyOf_59c91 ∈ zW := zwC (i := 98) zc_3 rfl rfl
theorem kw_653 : Cond.static yJ7_copyOf_59c91 ∈ zW := zwC (i := 99) zc_3 rfl rfl
theorem kw_654 : Cond.code yJ7_copyOf_59c91 cJ7_copyOf_59c91 3 (some (.array .int)) ∈ zW := zwC (i := 100) zc_3 rfl rfl
theorem kw_655 : Cond.methodLink RJ7 316 yClI ∈ zW := zwC (i := 101) zc_3 rfl rfl
theorem kw_656 : Cond.sameMethod "[I" "java/lang/Object" "clone" "()Ljava/lang/Object;" ∈ zW := zwC (i := 102) zc_3 rfl rfl
theorem kw_657 : Cond.native yClO ∈ zW := zwC (i := 103) zc_3 rfl rfl
theorem kw_658 : Cond.instanceMethod yClO ∈ zW := zwC (i := 104) zc_3 rfl rfl
theorem kw_659 : Cond.selects "[I" yClI yClO ∈ zW := zwC (i := 105) zc_3 rfl rfl
theorem kw_661 : Cond.classLink RJ7 317 "[I" ∈ zW := zwC (i := 107) zc_3 rfl rfl
theorem kw_662 : Cond.methodLink RJ7 304 Lib.Math.min.name ∈ zW := zwC (i := 108) zc_3 rfl rfl
theorem kw_663 : Cond.methodLink RJ7 150 arraycopyName ∈ zW := zwC (i := 109) zc_3 rfl rfl
theorem kw_666 : Cond.methodLink RX5 50 yX4_init ∈ zW := zwC (i := 112) zc_3 rfl rfl
theorem kw_667 : Cond.instanceMethod yX4_init ∈ zW := zwC (i := 113) zc_3 rfl rfl
theorem kw_668 : Cond.code yX4_init cX4_init 2 none ∈ zW := zwC (i := 114) zc_3 rfl rfl
theorem zh_cX5_read_0 : zck [42, 3, 181, 0, 19, 42, 3, 181, 0, 23, 42, 2, 181, 0, 26, 42, 182, 0, 29, 3, 60, 27] (zdu 0 cX5_read.data.toList) = true := by decide +kernel
theorem dX5_read_0 : decode cX5_read 0 = .ok (.aload_n 0, 1) := zo_42 zh_cX5_read_0 0 rfl
theorem dX5_read_1 : decode cX5_read 1 = .ok (.iconst 0, 1) := zo_3 zh_cX5_read_0 1 rfl
theorem dX5_read_2 : decode cX5_read 2 = .ok (.putfield 19, 3) := zo_181 zh_cX5_read_0 2 rfl
theorem dX5_read_5 : decode cX5_read 5 = .ok (.aload_n 0, 1) := zo_42 zh_cX5_read_0 5 rfl
theorem dX5_read_6 : decode cX5_read 6 = .ok (.iconst 0, 1) := zo_3 zh_cX5_read_0 6 rfl
theorem dX5_read_7 : decode cX5_read 7 = .ok (.putfield 23, 3) := zo_181 zh_cX5_read_0 7 rfl
theorem dX5_read_10 : decode cX5_read 10 = .ok (.aload_n 0, 1) := zo_42 zh_cX5_read_0 10 rfl
theorem dX5_read_11 : decode cX5_read 11 = .ok (.iconst (-1), 1) := zo_2 zh_cX5_read_0 11 rfl
theorem dX5_read_12 : decode cX5_read 12 = .ok (.putfield 26, 3) := zo_181 zh_cX5_read_0 12 rfl
theorem dX5_read_15 : decode cX5_read 15 = .ok (.aload_n 0, 1) := zo_42 zh_cX5_read_0 15 rfl
theorem dX5_read_16 : decode cX5_read 16 = .ok (.invokevirtual 29, 3) := zo_182 zh_cX5_read_0 16 rfl
theorem dX5_read_19 : decode cX5_read 19 = .ok (.iconst 0, 1) := zo_3 zh_cX5_read_0 19 rfl
theorem zh_cX5_read_1 : zck [60, 27, 16, 120, 162, 0, 22, 42, 16, 59, 182, 0, 32, 153, 0, 13, 42, 182, 0, 29, 132, 1] (zdu 20 cX5_read.data.toList) = true := by decide +kernel
theorem dX5_read_20 : decode cX5_read 20 = .ok (.istore_n 1, 1) := zo_60 zh_cX5_read_1 0 rfl
theorem dX5_read_21 : decode cX5_read 21 = .ok (.iload_n 1, 1) := zo_27 zh_cX5_read_1 1 rfl
theorem dX5_read_22 : decode cX5_read 22 = .ok (.bipush 120, 2) := zo_p16 zh_cX5_read_1 2 120 rfl rfl
theorem dX5_read_24 : decode cX5_read 24 = .ok (.if_icmp .ge 22, 3) := zo_p162 zh_cX5_read_1 4 22 rfl rfl
theorem dX5_read_27 : decode cX5_read 27 = .ok (.aload_n 0, 1) := zo_42 zh_cX5_read_1 7 rfl
theorem dX5_read_28 : decode cX5_read 28 = .ok (.bipush 59, 2) := zo_p16 zh_cX5_read_1 8 59 rfl rfl
theorem dX5_read_30 : decode cX5_read 30 = .ok (.invokevirtual 32, 3) := zo_182 zh_cX5_read_1 10 rfl
theorem dX5_read_33 : decode cX5_read 33 = .ok (.ifCond .eq 13, 3) := zo_p153 zh_cX5_read_1 13 13 rfl rfl
theorem dX5_read_36 : decode cX5_read 36 = .ok (.aload_n 0, 1) := zo_42 zh_cX5_read_1 16 rfl
theorem dX5_read_37 : decode cX5_read 37 = .ok (.invokevirtual 29, 3) := zo_182 zh_cX5_read_1 17 rfl
theorem zh_cX5_read_2 : zck [132, 1, 1, 167, 255, 234, 42, 180, 0, 19, 42, 180, 0, 15, 180, 0, 36, 162, 0, 7, 42, 182] (zdu 40 cX5_read.data.toList) = true := by decide +kernel
theorem dX5_read_40 : decode cX5_read 40 = .ok (.iinc 1 1, 3) := zo_p132 zh_cX5_read_2 0 1 rfl rfl
theorem dX5_read_43 : decode cX5_read 43 = .ok (.goto (-22), 3) := zo_n167 zh_cX5_read_2 3 21 rfl rfl
theorem dX5_read_46 : decode cX5_read 46 = .ok (.aload_n 0, 1) := zo_42 zh_cX5_read_2 6 rfl
theorem dX5_read_47 : decode cX5_read 47 = .ok (.getfield 19, 3) := zo_180 zh_cX5_read_2 7 rfl
theorem dX5_read_50 : decode cX5_read 50 = .ok (.aload_n 0, 1) := zo_42 zh_cX5_read_2 10 rfl
theorem dX5_read_51 : decode cX5_read 51 = .ok (.getfield 15, 3) := zo_180 zh_cX5_read_2 11 rfl
theorem dX5_read_54 : decode cX5_read 54 = .ok (.getfield 36, 3) := zo_180 zh_cX5_read_2 14 rfl
theorem dX5_read_57 : decode cX5_read 57 = .ok (.if_icmp .ge 7, 3) := zo_p162 zh_cX5_read_2 17 7 rfl rfl
theorem zh_cX5_read_3 : zck [42, 182, 0, 39, 42, 180, 0, 26, 156, 0, 24, 187, 0, 42, 89, 42, 180, 0, 9, 42, 180, 0] (zdu 60 cX5_read.data.toList) = true := by decide +kernel
theorem dX5_read_60 : decode cX5_read 60 = .ok (.aload_n 0, 1) := zo_42 zh_cX5_read_3 0 rfl
theorem dX5_read_61 : decode cX5_read 61 = .ok (.invokevirtual 39, 3) := zo_182 zh_cX5_read_3 1 rfl
theorem dX5_read_64 : decode cX5_read 64 = .ok (.aload_n 0, 1) := zo_42 zh_cX5_read_3 4 rfl
theorem dX5_read_65 : decode cX5_read 65 = .ok (.getfield 26, 3) := zo_180 zh_cX5_read_3 5 rfl
theorem dX5_read_68 : decode cX5_read 68 = .ok (.ifCond .ge 24, 3) := zo_p156 zh_cX5_read_3 8 24 rfl rfl
theorem dX5_read_71 : decode cX5_read 71 = .ok (.new 42, 3) := zo_187 zh_cX5_read_3 11 rfl
theorem dX5_read_74 : decode cX5_read 74 = .ok (.dup, 1) := zo_89 zh_cX5_read_3 14 rfl
theorem dX5_read_75 : decode cX5_read 75 = .ok (.aload_n 0, 1) := zo_42 zh_cX5_read_3 15 rfl
theorem dX5_read_76 : decode cX5_read 76 = .ok (.getfield 9, 3) := zo_180 zh_cX5_read_3 16 rfl
theorem dX5_read_79 : decode cX5_read 79 = .ok (.aload_n 0, 1) := zo_42 zh_cX5_read_3 19 rfl
theorem zh_cX5_read_4 : zck [180, 0, 23, 184, 0, 44, 183, 0, 50, 167, 0, 4, 1, 176] (zdu 80 cX5_read.data.toList) = true := by decide +kernel
theorem dX5_read_80 : decode cX5_read 80 = .ok (.getfield 23, 3) := zo_180 zh_cX5_read_4 0 rfl
theorem dX5_read_83 : decode cX5_read 83 = .ok (.invokestatic 44, 3) := zo_184 zh_cX5_read_4 3 rfl
theorem dX5_read_86 : decode cX5_read 86 = .ok (.invokespecial 50, 3) := zo_183 zh_cX5_read_4 6 rfl
theorem dX5_read_89 : decode cX5_read 89 = .ok (.goto 4, 3) := zo_p167 zh_cX5_read_4 9 4 rfl rfl
theorem dX5_read_92 : decode cX5_read 92 = .ok (.aconst_null, 1) := zo_1 zh_cX5_read_4 12 rfl
theorem dX5_read_93 : decode cX5_read 93 = .ok (.areturn, 1) := zo_176 zh_cX5_read_4 13 rfl
theorem zh_cJ7_copyOf_59c91_0 : zck [27, 42, 190, 160, 0, 11, 42, 182, 1, 60, 192, 1, 61, 176, 27, 188, 10, 77, 42, 3, 44, 3] (zdu 0 cJ7_copyOf_59c91.data.toList) = true := by decide +kernel
theorem dJ7_copyOf_59c91_0 : decode cJ7_copyOf_59c91 0 = .ok (.iload_n 1, 1) := zo_27 zh_cJ7_copyOf_59c91_0 0 rfl
theorem dJ7_copyOf_59c91_1 : decode cJ7_copyOf_59c91 1 = .ok (.aload_n 0, 1) := zo_42 zh_cJ7_copyOf_59c91_0 1 rfl
theorem dJ7_copyOf_59c91_2 : decode cJ7_copyOf_59c91 2 = .ok (.arraylength, 1) := zo_190 zh_cJ7_copyOf_59c91_0 2 rfl
theorem dJ7_copyOf_59c91_3 : decode cJ7_copyOf_59c91 3 = .ok (.if_icmp .ne 11, 3) := zo_p160 zh_cJ7_copyOf_59c91_0 3 11 rfl rfl
theorem dJ7_copyOf_59c91_6 : decode cJ7_copyOf_59c91 6 = .ok (.aload_n 0, 1) := zo_42 zh_cJ7_copyOf_59c91_0 6 rfl
theorem dJ7_copyOf_59c91_7 : decode cJ7_copyOf_59c91 7 = .ok (.invokevirtual 316, 3) := zo_182 zh_cJ7_copyOf_59c91_0 7 rfl
theorem zo_192 {c : ByteArray} {s : Nat} {K : List Nat} (h : zck K (zdu s c.data.toList) = true) (k : Nat) {v : Nat} (hk : zt3 K k 192 v = true) : decode c (s + k) = .ok (.checkcast v, 3) := zde ((zbd (zu1 (zh3 h hk).1)).trans ((zbd (f := fun x => pure (Instr.checkcast x)) (zh3 h hk).2).trans rfl))
theorem dJ7_copyOf_59c91_10 : decode cJ7_copyOf_59c91 10 = .ok (.checkcast 317, 3) := zo_192 zh_cJ7_copyOf_59c91_0 10 rfl
theorem dJ7_copyOf_59c91_13 : decode cJ7_copyOf_59c91 13 = .ok (.areturn, 1) := zo_176 zh_cJ7_copyOf_59c91_0 13 rfl
theorem dJ7_copyOf_59c91_14 : decode cJ7_copyOf_59c91 14 = .ok (.iload_n 1, 1) := zo_27 zh_cJ7_copyOf_59c91_0 14 rfl
theorem dJ7_copyOf_59c91_15 : decode cJ7_copyOf_59c91 15 = .ok (.newarray .int, 2) := zo_188_int zh_cJ7_copyOf_59c91_0 15 rfl
theorem dJ7_copyOf_59c91_17 : decode cJ7_copyOf_59c91 17 = .ok (.astore_n 2, 1) := zo_77 zh_cJ7_copyOf_59c91_0 17 rfl
theorem dJ7_copyOf_59c91_18 : decode cJ7_copyOf_59c91 18 = .ok (.aload_n 0, 1) := zo_42 zh_cJ7_copyOf_59c91_0 18 rfl
theorem dJ7_copyOf_59c91_19 : decode cJ7_copyOf_59c91 19 = .ok (.iconst 0, 1) := zo_3 zh_cJ7_copyOf_59c91_0 19 rfl
theorem zh_cJ7_copyOf_59c91_1 : zck [44, 3, 42, 190, 27, 184, 1, 48, 184, 0, 150, 44, 176] (zdu 20 cJ7_copyOf_59c91.data.toList) = true := by decide +kernel
theorem dJ7_copyOf_59c91_20 : decode cJ7_copyOf_59c91 20 = .ok (.aload_n 2, 1) := zo_44 zh_cJ7_copyOf_59c91_1 0 rfl
theorem dJ7_copyOf_59c91_21 : decode cJ7_copyOf_59c91 21 = .ok (.iconst 0, 1) := zo_3 zh_cJ7_copyOf_59c91_1 1 rfl
theorem dJ7_copyOf_59c91_22 : decode cJ7_copyOf_59c91 22 = .ok (.aload_n 0, 1) := zo_42 zh_cJ7_copyOf_59c91_1 2 rfl
theorem dJ7_copyOf_59c91_23 : decode cJ7_copyOf_59c91 23 = .ok (.arraylength, 1) := zo_190 zh_cJ7_copyOf_59c91_1 3 rfl
theorem dJ7_copyOf_59c91_24 : decode cJ7_copyOf_59c91 24 = .ok (.iload_n 1, 1) := zo_27 zh_cJ7_copyOf_59c91_1 4 rfl
theorem dJ7_copyOf_59c91_25 : decode cJ7_copyOf_59c91 25 = .ok (.invokestatic 304, 3) := zo_184 zh_cJ7_copyOf_59c91_1 5 rfl
theorem dJ7_copyOf_59c91_28 : decode cJ7_copyOf_59c91 28 = .ok (.invokestatic 150, 3) := zo_184 zh_cJ7_copyOf_59c91_1 8 rfl
theorem dJ7_copyOf_59c91_31 : decode cJ7_copyOf_59c91 31 = .ok (.aload_n 2, 1) := zo_44 zh_cJ7_copyOf_59c91_1 11 rfl
theorem dJ7_copyOf_59c91_32 : decode cJ7_copyOf_59c91 32 = .ok (.areturn, 1) := zo_176 zh_cJ7_copyOf_59c91_1 12 rfl
abbrev z_X5_read : List Cond := .code yX5_read cX5_read 2 (some (.object "AlreadyJudged$Law")) :: zW
abbrev wl_X5_read (ad : Nat → Nat) (cs : Nat → ClassId)  (tape_size : Int32) (tape_bytes : Nat → Int32) (lr_size : Int32) (lr_at : Int32) (lr_fault : Int32) (lr_code : Nat → Int32) : va_W := [((ad 23), .inr (9, [.ref (ad 24), .int tape_size])), ((ad 24), .inl (cs 0, 120, .inl tape_bytes)), ((ad 26), .inr (5, [.ref (ad 23), .ref (ad 27), .int lr_size, .int lr_at, .int lr_fault])), ((ad 27), .inl (cs 0, 121, .inl lr_code))]
def Q_X5_read (D : va_G) (cs : Nat → ClassId) (ad : Nat → Nat) (tape_size : Int32) (tape_bytes : Nat → Int32) (A : Nat → Prop) (R : Bool × Int32 × Int32 × Int32 × (Nat → Int32)) : Array Value → State → Outcome → State → Prop :=
  va_Qq (fun (r : Option Nat) (z : (Int32 × Int32 × Int32 × (Nat → Int32)) × Nat × Nat) => r = (if R.1 = true then some z.2.1 else none) ∧ z.1 = R.2) (fun (z : (Int32 × Int32 × Int32 × (Nat → Int32)) × Nat × Nat) (t : State) => va_P D classes ((wl_X5_read ad cs tape_size tape_bytes z.1.1 z.1.2.1 z.1.2.2.1 z.1.2.2.2) ++ (if R.1 = true then [(z.2.1, .inr (4, [.ref z.2.2])), (z.2.2, .inl (cs 0, z.1.1.toNatClampNeg, .inl (va_cpy z.1.2.2.2 (fun _ => 0) 0 0 z.1.1.toNatClampNeg)))] else [])) t.heap ∧ va_D A ((wl_X5_read ad cs tape_size tape_bytes z.1.1 z.1.2.1 z.1.2.2.1 z.1.2.2.2) ++ (if R.1 = true then [(z.2.1, .inr (4, [.ref z.2.2])), (z.2.2, .inl (cs 0, z.1.1.toNatClampNeg, .inl (va_cpy z.1.2.2.2 (fun _ => 0) 0 0 z.1.1.toNatClampNeg)))] else []))) A
abbrev rm_X5_read : Room := { frames := 302, cells := 2, slots := 122, locals := 6825 }
theorem g_X5_29 : GoodIn zW (wsV RX5 29 RX5 yX5_readLine z_X5_readLine) := zGV kw_541 kw_542 kw_543 kw_80 kw_544
theorem hd_X5_readLine : yX5_readLine.cls ≠ "java/lang/invoke/MethodHandle" ∧ yX5_readLine.cls ≠ "java/lang/invoke/VarHandle" ∧ (parseMethodDescriptor yX5_readLine.desc).map (fun d => d.parameters.length) = some 0 := by decide +kernel

theorem zz_cl {x : Int32} {n : Nat} (g : ¬ (x < 0 ∨ n ≤ x.toNatClampNeg)) (y : Int32) (hy : y.toInt = n) : x < y := by
  have h1 : ¬ n ≤ x.toNatClampNeg := fun z => g (Or.inr z)
  have h2 : x.toNatClampNeg = x.toInt.toNat := rfl
  rw [Int32.lt_iff_toInt_lt]
  omega
abbrev z_J7_copyOf_59c91 : List Cond := .code yJ7_copyOf_59c91 cJ7_copyOf_59c91 3 (some (.array .int)) :: zW
abbrev rm_J7_copyOf_59c91 : Room := { frames := 1, cells := 1, slots := 121, locals := 2000 }
set_option maxHeartbeats 4000000 in
set_option maxRecDepth 100000 in
theorem c_copyOfA (l : Launch) (D : va_G) (cs : Nat → ClassId) (h0 : Nat) (sz : Nat) (f : Nat → Int32) (x1 : Int32) (g : ¬ (x1 < 0 ∨ 121 ≤ x1.toNatClampNeg)) : Met l yJ7_copyOf_59c91 z_J7_copyOf_59c91 rm_J7_copyOf_59c91 (va_Pc [.ref h0, .int x1] (zPre D cs [(h0, .inl (cs 0, 121, .inl f))] sz)) (va_Qr (fun (_ : Unit) => True) (fun (_ : Unit) (a : Nat) (t : State) => va_P D classes [(h0, .inl (cs 0, 121, .inl f)), (a, .inl (cs 0, x1.toNatClampNeg, .inl (va_cpy f (fun _ => 0) 0 0 x1.toNatClampNeg)))] t.heap ∧ va_D (va_A [(h0, .inl (cs 0, 121, .inl f))] sz) [(h0, .inl (cs 0, 121, .inl f)), (a, .inl (cs 0, x1.toNatClampNeg, .inl (va_cpy f (fun _ => 0) 0 0 x1.toNatClampNeg)))]) (va_A [(h0, .inl (cs 0, 121, .inl f))] sz)) 1 121 (va_A [(h0, .inl (cs 0, 121, .inl f))] sz) := by
  have hlt : x1 < 121 := zz_cl g 121 (by decide)
  have hn0 : ¬ x1 < 0 := fun z => g (Or.inl z)
  have hn1 : ¬ 121 ≤ x1.toNatClampNeg := fun z => g (Or.inr z)
  refine Met.ofW (cc := cJ7_copyOf_59c91) (maxL := 3) (ret := (some (.array .int))) (by decide) rfl ?_
  intro p e s m args below meth c s₁ B hml hv
  obtain ⟨rfl, hsz, hP, hK, hD0⟩ := hv
  subst hsz
  have hD := hD0.self (sz := s.heap.size)
  have hx := B.exec
  have hb := B.bytes
  have hr := B.returns
  have ht : ∀ w ∈ zW, w.before _ s = true := fun w hw => atoms_spec (ws := z_J7_copyOf_59c91) B.pre w (List.mem_cons_of_mem _ hw)
  have hown : s.vm.findClass RJ7 = some m.cls := findClass_of_methodNamed B.named
  have hlocks := B.notSynchronized
  generalize hAe : va_A [(h0, .inl (cs 0, 121, .inl f))] s.heap.size = A at hD ⊢
  have hA : ∀ q : Nat, s.heap.size ≤ q → A q := fun q h => by rw [← hAe]; exact Or.inr h
  have hS : va_S A s.heap s.heap [] := va_S.rf
  have hl := lv_entry ([.ref h0, .int x1]) (n := 3) (Nat.le_of_ble_eq_true rfl)
  rw [lg_entry_eq]
  generalize (lg_sl ([.ref h0, .int x1]) ++ List.replicate (3 - (lg_sl ([.ref h0, .int x1])).length) Slot.unset).toArray = ls at hl ⊢
  refine lv_iload_n hx hb dJ7_copyOf_59c91_0 rfl (lv_at hl 1 rfl) ?_
  refine lv_aload_n hx hb dJ7_copyOf_59c91_1 rfl (lv_at hl 0 rfl) ?_
  refine va_alen (v := (121 : Int32)) hx hb hK hP 0 0 rfl rfl rfl dJ7_copyOf_59c91_2 ?_
  refine lv_icmp_ne (tgt := 14) hx hb dJ7_copyOf_59c91_3 (by decide) (fun c_1 => ?_) (fun c_1 => absurd hlt (by rw [c_1]; decide))
  refine lv_iload_n hx hb dJ7_copyOf_59c91_14 rfl (lv_at hl 1 rfl) ?_
  refine zk_newa (atype := .int) (ty := .int) (a0 := (x1.toNatClampNeg, .inl (fun _ => 0))) (N' := x1.toNatClampNeg) hx hb (ht _ kw_184) rfl hK 0 rfl (by intro C h; cases h) hP hD hS hA (fun _ => rfl) hn0 rfl (by show x1.toNatClampNeg * 4 ≤ 536870912; omega) (by show 0 + 1 ≤ 1; omega) (by show 0 + x1.toNatClampNeg ≤ 121; omega) dJ7_copyOf_59c91_15 (fun q H hP hD hS => ?_)
  refine W.widen (k := 1) (n := 121) (by omega) (by omega) ?_
  refine lv_astore_n (lv' := [(2, .ref q), (0, .ref h0), (1, .int x1)]) hx hb dJ7_copyOf_59c91_17 rfl hl (by decide) rfl (fun ls hl => ?_)
  refine lv_aload_n hx hb dJ7_copyOf_59c91_18 rfl (lv_at hl 1 rfl) ?_
  refine lv_iconst (v := (0 : Int32)) hx hb dJ7_copyOf_59c91_19 (by decide) ?_
  refine lv_aload_n hx hb dJ7_copyOf_59c91_20 rfl (lv_at hl 0 rfl) ?_
  refine lv_iconst (v := (0 : Int32)) hx hb dJ7_copyOf_59c91_21 (by decide) ?_
  refine lv_aload_n hx hb dJ7_copyOf_59c91_22 rfl (lv_at hl 1 rfl) ?_
  refine va_alen (v := (121 : Int32)) hx hb hK hP 0 0 rfl rfl rfl dJ7_copyOf_59c91_23 ?_
  refine lv_iload_n hx hb dJ7_copyOf_59c91_24 rfl (lv_at hl 2 rfl) ?_
  refine va_mmin hx hb (by rw [hml]; exact hl.1.symm) hown (ht _ kw_662) (ht _ kw_606) (ht _ kw_89) (ht _ kw_607) (Nat.le_of_ble_eq_true rfl) (Nat.le_of_ble_eq_true rfl) (Nat.le_of_ble_eq_true rfl) (Nat.le_of_ble_eq_true rfl) dJ7_copyOf_59c91_25 ?_
  refine W.eq (g2 := F0 m 28 ls [.int x1, .int 0, .ref q, .int 0, .ref h0]) (by rw [if_pos hlt]) ?_
  refine va_copyi hx hb (by rw [hml]; exact hl.1.symm) hown (ht _ kw_663) (ht _ kw_665) (ht _ kw_664) (ht _ kw_93) hK hP hD hS 0 1 0 0 rfl rfl rfl rfl rfl (by decide) (by decide) hn0 (by show 0 + x1.toNatClampNeg ≤ 121; omega) (by show 0 + x1.toNatClampNeg ≤ x1.toNatClampNeg; omega) (fun i hi => rfl) (Nat.le_of_ble_eq_true rfl) (Nat.le_of_ble_eq_true rfl) dJ7_copyOf_59c91_28 (fun H locs hP hD hS => ?_)
  have hP : va_P D classes [(h0, .inl (cs 0, 121, .inl f)), (q, .inl (cs 0, x1.toNatClampNeg, .inl (va_cpy f (fun _ => 0) 0 0 x1.toNatClampNeg)))] H := hP
  have hD : va_D A [(h0, .inl (cs 0, 121, .inl f)), (q, .inl (cs 0, x1.toNatClampNeg, .inl (va_cpy f (fun _ => 0) 0 0 x1.toNatClampNeg)))] := hD
  refine lv_aload_n hx hb dJ7_copyOf_59c91_31 rfl (lv_at hl 0 rfl) ?_
  exact W.aret (v := .ref q) hx hb hr (Or.inr ⟨_, rfl⟩) (Or.inr ⟨_, rfl⟩) (fun t ht2 hW => ⟨⟨(), q, rfl, trivial, by rw [ht2]; exact hP, hD⟩, hS.F ht2⟩) hS.2.2 dJ7_copyOf_59c91_32 hlocks
theorem arr_eq {cA : ClassId} {n : Nat} {f g : Nat → Int32} (h : ∀ j, j < n → f j = g j) : vp_cell cA (n, .inl f) = vp_cell cA (n, .inl g) := by
  rw [vp_cell_i, vp_cell_i]
  unfold arrV
  congr 1
  congr 1
  funext j
  exact congrArg Value.int (h j.val j.isLt)
theorem zD_same {A : Nat → Prop} {w w2 : va_W} (h : va_D A w) (hs : ∀ (k : Nat) (p : Nat × va_E), w2[k]? = some p → ∃ p0, w[k]? = some p0 ∧ p0.1 = p.1) : va_D A w2 := by
  refine ⟨fun i j p q hi hj e => ?_, fun k q hk => ?_⟩
  · obtain ⟨p0, a1, b1⟩ := hs i p hi
    obtain ⟨q0, a2, b2⟩ := hs j q hj
    exact h.1 i j p0 q0 a1 a2 (by rw [b1, b2]; exact e)
  · obtain ⟨q0, a1, b1⟩ := hs k q hk
    rw [← b1]
    exact h.2 k q0 a1
set_option maxHeartbeats 4000000 in
set_option maxRecDepth 100000 in
theorem c_copyOfB (l : Launch) (D : va_G) (cs : Nat → ClassId) (k : (Nat → Nat) × (Nat → Nat)) (h0 : Nat) (sz : Nat) (f : Nat → Int32) : Met l yJ7_copyOf_59c91 z_J7_copyOf_59c91 rm_J7_copyOf_59c91 (va_Pc [.ref h0, .int (121 : Int32)] (zPreE k D cs [(h0, .inl (cs 0, 121, .inl f))] sz)) (va_Qr (fun (_ : Unit) => True) (fun (_ : Unit) (a : Nat) (t : State) => va_P D classes [(h0, .inl (cs 0, 121, .inl f)), (a, .inl (cs 0, (121 : Int32).toNatClampNeg, .inl (va_cpy f (fun _ => 0) 0 0 (121 : Int32).toNatClampNeg)))] t.heap ∧ va_D (va_A [(h0, .inl (cs 0, 121, .inl f))] sz) [(h0, .inl (cs 0, 121, .inl f)), (a, .inl (cs 0, (121 : Int32).toNatClampNeg, .inl (va_cpy f (fun _ => 0) 0 0 (121 : Int32).toNatClampNeg)))]) (va_A [(h0, .inl (cs 0, 121, .inl f))] sz)) 1 121 (va_A [(h0, .inl (cs 0, 121, .inl f))] sz) := by
  refine Met.ofW (cc := cJ7_copyOf_59c91) (maxL := 3) (ret := (some (.array .int))) (by decide) rfl ?_
  intro p e s m args below meth c s₁ B hml hv
  obtain ⟨rfl, ⟨⟨hsz, hP, hK, hD0⟩, hO⟩, hE⟩ := hv
  subst hsz
  have hD := hD0.self (sz := s.heap.size)
  have hx := B.exec
  have hb := B.bytes
  have hr := B.returns
  have ht : ∀ w ∈ zW, w.before _ s = true := fun w hw => atoms_spec (ws := z_J7_copyOf_59c91) B.pre w (List.mem_cons_of_mem _ hw)
  have hown : s.vm.findClass RJ7 = some m.cls := findClass_of_methodNamed B.named
  have hlocks := B.notSynchronized
  generalize hAe : va_A [(h0, .inl (cs 0, 121, .inl f))] s.heap.size = A at hD ⊢
  have hA : ∀ q : Nat, s.heap.size ≤ q → A q := fun q h => by rw [← hAe]; exact Or.inr h
  have hS : va_S A s.heap s.heap [] := va_S.rf
  have hnm : s.vm.findClass "[I" = some (cs 0) := by
    have h := (hK.2 0 (cs 0, .int) rfl).2
    have h1 : s.vm.findClass ("[" ++ FieldType.toString .int) = some (cs 0) := h
    have e1 : ("[" ++ FieldType.toString .int) = "[I" := by decide
    rw [e1] at h1
    exact h1
  have hl := lv_entry ([.ref h0, .int (121 : Int32)]) (n := 3) (Nat.le_of_ble_eq_true rfl)
  rw [lg_entry_eq]
  generalize (lg_sl ([.ref h0, .int (121 : Int32)]) ++ List.replicate (3 - (lg_sl ([.ref h0, .int (121 : Int32)])).length) Slot.unset).toArray = ls at hl ⊢
  refine lv_iload_n hx hb dJ7_copyOf_59c91_0 rfl (lv_at hl 1 rfl) ?_
  refine lv_aload_n hx hb dJ7_copyOf_59c91_1 rfl (lv_at hl 0 rfl) ?_
  refine va_alen (v := (121 : Int32)) hx hb hK hP 0 0 rfl rfl rfl dJ7_copyOf_59c91_2 ?_
  refine lv_icmp_ne (tgt := 14) hx hb dJ7_copyOf_59c91_3 (by decide) (fun c_1 => absurd rfl c_1) (fun c_1 => ?_)
  refine lv_aload_n hx hb dJ7_copyOf_59c91_6 rfl (lv_at hl 0 rfl) ?_
  refine va_clone (ad := "[I") (ty := .int) hx hb (by rw [hml]; exact hl.1.symm) hown (ht _ kw_655) (ht _ kw_656) (ht _ kw_657) (ht _ kw_658) (ht _ kw_659) hE.2.2.2.2 hK hP hD hS hA 0 0 rfl rfl hnm (fun i v hv => va_fit (F := fun j => .int (f j)) (fun _ _ => rfl) i v hv) (Nat.le_of_ble_eq_true rfl) (Nat.le_of_ble_eq_true rfl) (Nat.le_of_ble_eq_true rfl) (Nat.le_of_ble_eq_true rfl) dJ7_copyOf_59c91_7 (fun q H hK2 hP hD hS => ?_)
  refine va_castA hx hb hown (ht _ kw_661) hP 1 rfl hnm dJ7_copyOf_59c91_10 ?_
  refine W.widen (k := 1) (n := 121) (Nat.le_of_ble_eq_true rfl) (Nat.le_of_ble_eq_true rfl) ?_
  have e121 : (121 : Int32).toNatClampNeg = 121 := by decide
  have hP2 : va_P D classes [(h0, .inl (cs 0, 121, .inl f)), (q, .inl (cs 0, (121 : Int32).toNatClampNeg, .inl (va_cpy f (fun _ => 0) 0 0 (121 : Int32).toNatClampNeg)))] H := by
    rw [e121]
    intro i y hy
    match i, hy with
    | 0, hy => exact hP 0 y hy
    | 1, hy =>
      cases hy
      have h2 : H[q]? = some (vp_cell (cs 0) (121, .inl f)) := hP 1 _ rfl
      show H[q]? = some (vp_cell (cs 0) (121, .inl (va_cpy f (fun _ => 0) 0 0 121)))
      rw [h2]
      exact congrArg some (arr_eq (fun j hj => by unfold va_cpy; rw [if_pos ⟨Nat.zero_le _, by omega⟩, Nat.sub_zero, Nat.zero_add]))
    | n + 2, hy => cases hy
  have hD2 : va_D A [(h0, .inl (cs 0, 121, .inl f)), (q, .inl (cs 0, (121 : Int32).toNatClampNeg, .inl (va_cpy f (fun _ => 0) 0 0 (121 : Int32).toNatClampNeg)))] := by
    refine zD_same hD (fun i y hy => ?_)
    match i, hy with
    | 0, hy => exact ⟨y, hy, rfl⟩
    | 1, hy => cases hy; exact ⟨_, rfl, rfl⟩
    | n + 2, hy => cases hy
  exact W.aret (v := .ref q) hx hb hr (Or.inr ⟨_, rfl⟩) (Or.inr ⟨_, rfl⟩) (fun t ht2 hW => ⟨⟨(), q, rfl, trivial, by rw [ht2]; exact hP2, hD2⟩, hS.F ht2⟩) hS.2.2 dJ7_copyOf_59c91_13 hlocks
theorem c_copyOf (l : Launch) (D : va_G) (cs : Nat → ClassId) (k : (Nat → Nat) × (Nat → Nat)) (h0 : Nat) (sz : Nat) (f : Nat → Int32) (x1 : Int32) (g : ¬ (x1 < 0 ∨ 122 ≤ x1.toNatClampNeg)) : Met l yJ7_copyOf_59c91 z_J7_copyOf_59c91 rm_J7_copyOf_59c91 (va_Pc [.ref h0, .int x1] (zPreE k D cs [(h0, .inl (cs 0, 121, .inl f))] sz)) (va_Qr (fun (_ : Unit) => True) (fun (_ : Unit) (a : Nat) (t : State) => va_P D classes [(h0, .inl (cs 0, 121, .inl f)), (a, .inl (cs 0, x1.toNatClampNeg, .inl (va_cpy f (fun _ => 0) 0 0 x1.toNatClampNeg)))] t.heap ∧ va_D (va_A [(h0, .inl (cs 0, 121, .inl f))] sz) [(h0, .inl (cs 0, 121, .inl f)), (a, .inl (cs 0, x1.toNatClampNeg, .inl (va_cpy f (fun _ => 0) 0 0 x1.toNatClampNeg)))]) (va_A [(h0, .inl (cs 0, 121, .inl f))] sz)) 1 121 (va_A [(h0, .inl (cs 0, 121, .inl f))] sz) := by
  by_cases hq : x1 = 121
  · subst hq
    exact c_copyOfB l D cs k h0 sz f
  · refine zMetE (c_copyOfA l D cs h0 sz f x1 (fun z => ?_))
    rcases z with z | z
    · exact g (Or.inl z)
    · have e121 : (121 : Int32).toInt = 121 := by decide
      have h1 : x1.toNatClampNeg = x1.toInt.toNat := rfl
      have h2 : x1.toInt ≠ 121 := fun z2 => hq (Int32.toInt_inj.mp (z2.trans e121.symm))
      exact g (Or.inr (by omega))
theorem g_X5_copyOf : GoodIn zW (va_wsS RX5 44 yJ7_copyOf_59c91 z_J7_copyOf_59c91) := zGS kw_652 kw_653 kw_92 kw_654
set_option maxHeartbeats 4000000 in
set_option maxRecDepth 100000 in
theorem zz_law71 {p : Program} {l : Launch} {e : Env} {s : State} {m : MethodId} {args : Array Value} {below : List Frame} {meth : Method} {c : Code} {A : Nat → Prop} {D : va_G} {cs : Nat → ClassId} {ad : Nat → Nat} {tape_size : Int32} {tape_bytes : Nat → Int32} (C0 : zC p s m args meth c cX5_read 2 (some (.object "AlreadyJudged$Law")) RX5 zW) (hK : va_K D classes (zT cs) s) {k : (Nat → Nat) × (Nat → Nat)} (hO : zO s) (hE : zE k A s) (hA : ∀ q : Nat, s.heap.size ≤ q → A q) (lr_size : Int32) (lr_at : Int32) (lr_fault : Int32) (lr_code : Nat → Int32) (g : ¬ (lr_size < 0 ∨ 122 ≤ lr_size.toNatClampNeg)) (H : Heap) (locs : List Loc) (ls : Array Slot) (hP : va_P D classes (wl_X5_read ad cs tape_size tape_bytes lr_size lr_at lr_fault lr_code) H) (hD : va_D A (wl_X5_read ad cs tape_size tape_bytes lr_size lr_at lr_fault lr_code)) (hS : va_S A s.heap H locs) (hl : lv_has ls 2 [(0, .ref (ad 26))]) : W p l e rm_X5_read s m args below meth c H locs 0 0 (MQ below (Q_X5_read D cs ad tape_size tape_bytes A (true, lr_size, lr_at, lr_fault, lr_code)) args s 2 122 A) (F0 m 71 ls []) := by
  obtain ⟨hx, hb, hr, hml, hown, ht, hlocks⟩ := id C0
  refine va_new (ci := 4) (fs := [.null]) (C := RX4) (T := TX4) (N := 1) hx hb ht iX4 tyX4 tyX4_ok hown (ht _ kw_650) (ht _ kw_651) (ht _ kw_91) hK hP hD hS hA rfl (zkDX4) (Nat.le_of_ble_eq_true rfl) (Nat.le_of_ble_eq_true rfl) dX5_read_71 (fun qL H hP hD hS => ?_)
  have hP : va_P D classes ((wl_X5_read ad cs tape_size tape_bytes lr_size lr_at lr_fault lr_code) ++ ([(qL, .inr (4, [.null]))] : va_W)) H := hP
  have hD : va_D A ((wl_X5_read ad cs tape_size tape_bytes lr_size lr_at lr_fault lr_code) ++ ([(qL, .inr (4, [.null]))] : va_W)) := hD
  refine lv_dup hx hb dX5_read_74 rfl ?_
  refine lv_aload_n hx hb dX5_read_75 rfl (lv_at hl 0 rfl) ?_
  refine va_get (D := D) (ci := 5) (v := .ref (ad 27)) (C := RX5) (T := TX5) (N := 5) hx hb ht iX5 hown hK hP 2 rfl rfl 1 (by decide) (ht _ kw_275) (fun _ h9 => h9) rfl dX5_read_76 ?_
  refine lv_aload_n hx hb dX5_read_79 rfl (lv_at hl 0 rfl) ?_
  refine va_get (D := D) (ci := 5) (v := .int lr_size) (C := RX5) (T := TX5) (N := 5) hx hb ht iX5 hown hK hP 2 rfl rfl 2 (by decide) (ht _ kw_276) (fun _ h9 => h9) rfl dX5_read_80 ?_
  have hPc : va_P D classes [(ad 27, .inl (cs 0, 121, .inl lr_code))] H := hP.sub [3] rfl
  have hDc : va_D A [(ad 27, .inl (cs 0, 121, .inl lr_code))] := hD.sub [3] rfl rfl
  have hFc := va_free (wc := [(ad 27, .inl (cs 0, 121, .inl lr_code))]) hD hS hA [3] rfl
  refine va_callr (va_runS (As := [.ref (ad 27), .int lr_size]) (rest := [.ref qL, .ref qL]) ⟨hx, hb, hml, hown, ht⟩ (c_copyOf l D cs k (ad 27) H.size lr_code lr_size g) (va_cwS 2 ht g_X5_copyOf rfl rfl rfl (by decide +kernel) ⟨Nat.le_of_ble_eq_true rfl, Nat.le_of_ble_eq_true rfl⟩) ⟨zPreE_blind, fun U hU hW => ⟨rfl, ⟨⟨by rw [hU], by rw [hU]; exact hPc, va_K.moved hW.alike hK, hDc.weaken (fun _ _ _ _ => trivial)⟩, zO.warm hW hO⟩, hE.go hW hU hS hFc⟩⟩ rfl rfl hl.1 rfl (lv_room (Nat.le_of_ble_eq_true rfl)) dX5_read_83 ⟨Nat.le_of_ble_eq_true rfl, Nat.le_of_ble_eq_true rfl⟩) hS (fun q _ h => hFc q h) hFc (fun u qC t H1 locs1 ht2 hvm hw hB hz1 hk1 hS => ?_)
  have hB : va_P D classes [(ad 27, .inl (cs 0, 121, .inl lr_code)), (qC, .inl (cs 0, lr_size.toNatClampNeg, .inl (va_cpy lr_code (fun _ => 0) 0 0 lr_size.toNatClampNeg)))] t.heap ∧ va_D (va_A [(ad 27, .inl (cs 0, 121, .inl lr_code))] H.size) [(ad 27, .inl (cs 0, 121, .inl lr_code)), (qC, .inl (cs 0, lr_size.toNatClampNeg, .inl (va_cpy lr_code (fun _ => 0) 0 0 lr_size.toNatClampNeg)))] := hB
  rw [ht2] at hB
  obtain ⟨hP, hD⟩ := va_join (wr := [((ad 23), .inr (9, [.ref (ad 24), .int tape_size])), ((ad 24), .inl (cs 0, 120, .inl tape_bytes)), ((ad 26), .inr (5, [.ref (ad 23), .ref (ad 27), .int lr_size, .int lr_at, .int lr_fault])), (qL, .inr (4, [.null]))]) hP hD [3] [0, 1, 2, 4] rfl rfl (by decide) (by decide) hk1 hFc hB.1 hB.2
  have hP : va_P D classes ((wl_X5_read ad cs tape_size tape_bytes lr_size lr_at lr_fault lr_code) ++ ([(qL, .inr (4, [.null])), (qC, .inl (cs 0, lr_size.toNatClampNeg, .inl (va_cpy lr_code (fun _ => 0) 0 0 lr_size.toNatClampNeg)))] : va_W)) H1 := hP.sub [0, 1, 2, 4, 3, 5] rfl
  have hD : va_D A ((wl_X5_read ad cs tape_size tape_bytes lr_size lr_at lr_fault lr_code) ++ ([(qL, .inr (4, [.null])), (qC, .inl (cs 0, lr_size.toNatClampNeg, .inl (va_cpy lr_code (fun _ => 0) 0 0 lr_size.toNatClampNeg)))] : va_W)) := hD.sub [0, 1, 2, 4, 3, 5] rfl rfl
  refine zk_iv (post := fun _ => True) (w1 := fun (_ : Nat → Nat) => [(qL, .inr (4, [.ref qC]))]) (As := [.ref qC]) (rest := [.ref qL]) (ci_X4_init l D cs qL qC H1.size) ⟨hx, hb, hml, hown, ht⟩ (cwI 1 ht (zGN kw_668) rfl rfl rfl (ht _ kw_91) (ht _ kw_666) (ht _ kw_667) rfl (by decide +kernel) ⟨Nat.le_of_ble_eq_true rfl, Nat.le_of_ble_eq_true rfl⟩) hP hD hS hK hA [4] [0, 1, 2, 3, 5] rfl rfl rfl rfl (by decide) rfl hl.1 (Nat.le_of_ble_eq_true rfl) dX5_read_86 ⟨Nat.le_of_ble_eq_true rfl, Nat.le_of_ble_eq_true rfl⟩ (fun u H locs hq hP hD hS => ?_)
  have hP : va_P D classes ((wl_X5_read ad cs tape_size tape_bytes lr_size lr_at lr_fault lr_code) ++ ([(qL, .inr (4, [.ref qC])), (qC, .inl (cs 0, lr_size.toNatClampNeg, .inl (va_cpy lr_code (fun _ => 0) 0 0 lr_size.toNatClampNeg)))] : va_W)) H := hP.sub [0, 1, 2, 3, 5, 4] rfl
  have hD : va_D A ((wl_X5_read ad cs tape_size tape_bytes lr_size lr_at lr_fault lr_code) ++ ([(qL, .inr (4, [.ref qC])), (qC, .inl (cs 0, lr_size.toNatClampNeg, .inl (va_cpy lr_code (fun _ => 0) 0 0 lr_size.toNatClampNeg)))] : va_W)) := hD.sub [0, 1, 2, 3, 5, 4] rfl rfl
  refine lv_goto (tgt := 93) hx hb dX5_read_89 (by decide) ?_
  refine W.widen (k := 2) (n := 122) (Nat.le_of_ble_eq_true rfl) (Nat.le_of_ble_eq_true rfl) ?_
  exact W.aret (v := va_rf (some qL)) hx hb hr (Or.inl ⟨_, rfl⟩) (Or.inr ⟨_, rfl⟩) (fun t ht2 hW => ⟨⟨some qL, ((lr_size, lr_at, lr_fault, lr_code), qL, qC), rfl, ⟨rfl, rfl⟩, by rw [ht2]; exact hP, hD⟩, hS.F ht2⟩) hS.2.2 dX5_read_93 hlocks

def B_X5_read_64   (g21 : Int32 → Int32 → Int32 → Int32 → (Nat → Int32) → (Option (Bool × Int32 × Int32 × Int32 × (Nat → Int32)))) (tape_size : Int32) (tape_bytes : Nat → Int32) (lr_size : Int32) (lr_at : Int32) (lr_fault : Int32) (lr_code : Nat → Int32) : Option (Bool × Int32 × Int32 × Int32 × (Nat → Int32)) :=
  (if 0 ≤ lr_fault then (some (false, lr_size, lr_at, lr_fault, lr_code)) else (if (lr_size < 0 ∨ 122 ≤ lr_size.toNatClampNeg) then none else (some (true, lr_size, lr_at, lr_fault, lr_code))))
def B_X5_read_46   (g21 : Int32 → Int32 → Int32 → Int32 → (Nat → Int32) → (Option (Bool × Int32 × Int32 × Int32 × (Nat → Int32)))) (tape_size : Int32) (tape_bytes : Nat → Int32) (lr_size : Int32) (lr_at : Int32) (lr_fault : Int32) (lr_code : Nat → Int32) : Option (Bool × Int32 × Int32 × Int32 × (Nat → Int32)) :=
  (if tape_size ≤ lr_at then (B_X5_read_64 g21 tape_size tape_bytes lr_size lr_at lr_fault lr_code) else (zk_b1 (f_X5_fail lr_size lr_at lr_fault) (fun u_18 => (B_X5_read_64 g21 tape_size tape_bytes lr_size lr_at u_18 lr_code))))
def B_X5_read_21   (g21 : Int32 → Int32 → Int32 → Int32 → (Nat → Int32) → (Option (Bool × Int32 × Int32 × Int32 × (Nat → Int32)))) (tape_size : Int32) (tape_bytes : Nat → Int32) (x1 : Int32) (lr_size : Int32) (lr_at : Int32) (lr_fault : Int32) (lr_code : Nat → Int32) : Option (Bool × Int32 × Int32 × Int32 × (Nat → Int32)) :=
  (if (120 : Int32) ≤ x1 then (B_X5_read_46 g21 tape_size tape_bytes lr_size lr_at lr_fault lr_code) else (zk_b2 (f_X5_accept (59 : Int32) tape_size tape_bytes lr_size lr_at lr_fault) (fun r_7 u_8 => (if r_7 = 0 then (B_X5_read_46 g21 tape_size tape_bytes lr_size u_8 lr_fault lr_code) else (zk_b4 (f_X5_readLine tape_size tape_bytes lr_size u_8 lr_fault lr_code) (fun u_11 u_12 u_13 u_14 => (zk_let (x1 + (1 : Int32)) (fun v_16 => (g21 v_16 u_11 u_12 u_13 u_14)))))))))
def B_X5_read_0   (g21 : Int32 → Int32 → Int32 → Int32 → (Nat → Int32) → (Option (Bool × Int32 × Int32 × Int32 × (Nat → Int32)))) (tape_size : Int32) (tape_bytes : Nat → Int32) (lr_size : Int32) (lr_at : Int32) (lr_fault : Int32) (lr_code : Nat → Int32) : Option (Bool × Int32 × Int32 × Int32 × (Nat → Int32)) :=
  (zk_b4 (f_X5_readLine tape_size tape_bytes (0 : Int32) (0 : Int32) (-1 : Int32) lr_code) (fun u_1 u_2 u_3 u_4 => (g21 (0 : Int32) u_1 u_2 u_3 u_4)))
def G_X5_read   (tape_size : Int32) (tape_bytes : Nat → Int32) (n : Nat) : (Int32 → Int32 → Int32 → Int32 → (Nat → Int32) → (Option (Bool × Int32 × Int32 × Int32 × (Nat → Int32)))) :=
  Nat.rec (motive := fun _ => (Int32 → Int32 → Int32 → Int32 → (Nat → Int32) → (Option (Bool × Int32 × Int32 × Int32 × (Nat → Int32))))) ((fun _ _ _ _ _ => none)) (fun _ ih => (B_X5_read_21   ih tape_size tape_bytes)) n
def f_X5_read   (n : Nat)  (tape_size : Int32) (tape_bytes : Nat → Int32) (lr_size : Int32) (lr_at : Int32) (lr_fault : Int32) (lr_code : Nat → Int32) : Option (Bool × Int32 × Int32 × Int32 × (Nat → Int32)) := B_X5_read_0   ((G_X5_read   tape_size tape_bytes n)) tape_size tape_bytes  lr_size lr_at lr_fault lr_code
set_option maxHeartbeats 4000000 in
set_option maxRecDepth 100000 in
theorem L_X5_read_64 {p : Program} {l : Launch} {e : Env} {s : State} {m : MethodId} {args : Array Value} {below : List Frame} {meth : Method} {c : Code} {A : Nat → Prop} {D : va_G} {cs : Nat → ClassId} {ad : Nat → Nat} {tape_size : Int32} {tape_bytes : Nat → Int32} {R : Bool × Int32 × Int32 × Int32 × (Nat → Int32)} {g21 : Int32 → Int32 → Int32 → Int32 → (Nat → Int32) → (Option (Bool × Int32 × Int32 × Int32 × (Nat → Int32)))} (C0 : zC p s m args meth c cX5_read 2 (some (.object "AlreadyJudged$Law")) RX5 zW) (hK : va_K D classes (zT cs) s) {k : (Nat → Nat) × (Nat → Nat)} (hO : zO s) (hE : zE k A s) (hA : ∀ q : Nat, s.heap.size ≤ q → A q) (ih21 : ∀ (x1 : Int32) (lr_size : Int32) (lr_at : Int32) (lr_fault : Int32) (lr_code : Nat → Int32) (h : g21 x1 lr_size lr_at lr_fault lr_code = some R) (H : Heap) (locs : List Loc) (ls : Array Slot) (hP : va_P D classes (wl_X5_read ad cs tape_size tape_bytes lr_size lr_at lr_fault lr_code) H) (hD : va_D A (wl_X5_read ad cs tape_size tape_bytes lr_size lr_at lr_fault lr_code)) (hS : va_S A s.heap H locs) (hl : lv_has ls 2 [(0, .ref (ad 26)), (1, .int x1)]), W p l e rm_X5_read s m args below meth c H locs 0 0 (MQ below (Q_X5_read D cs ad tape_size tape_bytes A R) args s 2 122 A) (F0 m 21 ls [])) (lr_size : Int32) (lr_at : Int32) (lr_fault : Int32) (lr_code : Nat → Int32) (h : B_X5_read_64 g21 tape_size tape_bytes lr_size lr_at lr_fault lr_code = some R) (H : Heap) (locs : List Loc) (ls : Array Slot) (hP : va_P D classes (wl_X5_read ad cs tape_size tape_bytes lr_size lr_at lr_fault lr_code) H) (hD : va_D A (wl_X5_read ad cs tape_size tape_bytes lr_size lr_at lr_fault lr_code)) (hS : va_S A s.heap H locs) (hl : lv_has ls 2 [(0, .ref (ad 26))]) : W p l e rm_X5_read s m args below meth c H locs 0 0 (MQ below (Q_X5_read D cs ad tape_size tape_bytes A R) args s 2 122 A) (F0 m 64 ls []) := by
  obtain ⟨hx, hb, hr, hml, hown, ht, hlocks⟩ := id C0
  refine lv_aload_n hx hb dX5_read_64 rfl (lv_at hl 0 rfl) ?_
  refine va_get (D := D) (ci := 5) (v := .int lr_fault) (C := RX5) (T := TX5) (N := 5) hx hb ht iX5 hown hK hP 2 rfl rfl 4 (by decide) (ht _ kw_278) (fun _ h9 => h9) rfl dX5_read_65 ?_
  refine lv_if_ge (tgt := 92) hx hb dX5_read_68 (by decide) (fun c_20 => ?_) (fun c_20 => ?_)
  · have h := zk_t c_20 h
    refine lv_null hx hb dX5_read_92 ?_
    have hR := Option.some.inj h
    subst hR
    refine W.widen (k := 2) (n := 122) (Nat.zero_le _) (Nat.zero_le _) ?_
    exact W.aret (v := va_rf none) hx hb hr (Or.inl ⟨_, rfl⟩) (Or.inl rfl) (fun t ht2 hW => ⟨⟨none, ((lr_size, lr_at, lr_fault, lr_code), 0, 0), rfl, ⟨rfl, rfl⟩, by rw [ht2]; exact hP, hD⟩, hS.F ht2⟩) hS.2.2 dX5_read_93 hlocks
  · have h := zk_f c_20 h
    obtain ⟨g_21, h⟩ := zk_gd h
    have hR := Option.some.inj h
    subst hR
    exact zz_law71 C0 hK hO hE hA lr_size lr_at lr_fault lr_code g_21 H locs ls hP hD hS (lv_sub hl [0] rfl)
set_option maxHeartbeats 4000000 in
set_option maxRecDepth 100000 in
theorem L_X5_read_46 {p : Program} {l : Launch} {e : Env} {s : State} {m : MethodId} {args : Array Value} {below : List Frame} {meth : Method} {c : Code} {A : Nat → Prop} {D : va_G} {cs : Nat → ClassId} {ad : Nat → Nat} {tape_size : Int32} {tape_bytes : Nat → Int32} {R : Bool × Int32 × Int32 × Int32 × (Nat → Int32)} {g21 : Int32 → Int32 → Int32 → Int32 → (Nat → Int32) → (Option (Bool × Int32 × Int32 × Int32 × (Nat → Int32)))} (C0 : zC p s m args meth c cX5_read 2 (some (.object "AlreadyJudged$Law")) RX5 zW) (hK : va_K D classes (zT cs) s) {k : (Nat → Nat) × (Nat → Nat)} (hO : zO s) (hE : zE k A s) (hA : ∀ q : Nat, s.heap.size ≤ q → A q) (ih21 : ∀ (x1 : Int32) (lr_size : Int32) (lr_at : Int32) (lr_fault : Int32) (lr_code : Nat → Int32) (h : g21 x1 lr_size lr_at lr_fault lr_code = some R) (H : Heap) (locs : List Loc) (ls : Array Slot) (hP : va_P D classes (wl_X5_read ad cs tape_size tape_bytes lr_size lr_at lr_fault lr_code) H) (hD : va_D A (wl_X5_read ad cs tape_size tape_bytes lr_size lr_at lr_fault lr_code)) (hS : va_S A s.heap H locs) (hl : lv_has ls 2 [(0, .ref (ad 26)), (1, .int x1)]), W p l e rm_X5_read s m args below meth c H locs 0 0 (MQ below (Q_X5_read D cs ad tape_size tape_bytes A R) args s 2 122 A) (F0 m 21 ls [])) (lr_size : Int32) (lr_at : Int32) (lr_fault : Int32) (lr_code : Nat → Int32) (h : B_X5_read_46 g21 tape_size tape_bytes lr_size lr_at lr_fault lr_code = some R) (H : Heap) (locs : List Loc) (ls : Array Slot) (hP : va_P D classes (wl_X5_read ad cs tape_size tape_bytes lr_size lr_at lr_fault lr_code) H) (hD : va_D A (wl_X5_read ad cs tape_size tape_bytes lr_size lr_at lr_fault lr_code)) (hS : va_S A s.heap H locs) (hl : lv_has ls 2 [(0, .ref (ad 26))]) : W p l e rm_X5_read s m args below meth c H locs 0 0 (MQ below (Q_X5_read D cs ad tape_size tape_bytes A R) args s 2 122 A) (F0 m 46 ls []) := by
  obtain ⟨hx, hb, hr, hml, hown, ht, hlocks⟩ := id C0
  refine lv_aload_n hx hb dX5_read_46 rfl (lv_at hl 0 rfl) ?_
  refine va_get (D := D) (ci := 5) (v := .int lr_at) (C := RX5) (T := TX5) (N := 5) hx hb ht iX5 hown hK hP 2 rfl rfl 3 (by decide) (ht _ kw_277) (fun _ h9 => h9) rfl dX5_read_47 ?_
  refine lv_aload_n hx hb dX5_read_50 rfl (lv_at hl 0 rfl) ?_
  refine va_get (D := D) (ci := 5) (v := .ref (ad 23)) (C := RX5) (T := TX5) (N := 5) hx hb ht iX5 hown hK hP 2 rfl rfl 0 (by decide) (ht _ kw_274) (fun _ h9 => h9) rfl dX5_read_51 ?_
  refine va_get (D := D) (ci := 9) (v := .int tape_size) (C := RX9) (T := TX9) (N := 2) hx hb ht iX9 hown hK hP 0 rfl rfl 1 (by decide) (ht _ kw_239) (fun _ h9 => h9) rfl dX5_read_54 ?_
  refine lv_icmp_ge (tgt := 64) hx hb dX5_read_57 (by decide) (fun c_17 => ?_) (fun c_17 => ?_)
  · have h := zk_t c_17 h
    exact L_X5_read_64 C0 hK hO hE hA  ih21 lr_size lr_at lr_fault lr_code h H locs ls hP hD hS (lv_sub hl [0] rfl)
  · have h := zk_f c_17 h
    refine lv_aload_n hx hb dX5_read_60 rfl (lv_at hl 0 rfl) ?_
    obtain ⟨u_18, hc_19, h⟩ := zk_o1 h
    refine zz_vv (post := (fun u => u = u_18)) (w1 := fun u => (wl_X5_fail ad cs lr_size lr_at u)) (As := []) (rest := []) (c_X5_fail l D cs ad  H.size lr_size lr_at lr_fault u_18 hc_19) ⟨hx, hb, hml, hown, ht⟩ (cwV 0 ht g_X5_39 rfl rfl rfl ⟨rfl, hd_X5_fail⟩ ⟨Nat.le_of_ble_eq_true rfl, Nat.le_of_ble_eq_true rfl⟩) (va_recv hK hP (ci := 5) (q0 := 2) rfl rfl) hP hD hS hK hA [2] rfl rfl [(ad 26)] rfl (fun _ => rfl) rfl hl.1 (Nat.le_of_ble_eq_true rfl) dX5_read_61 ⟨Nat.le_of_ble_eq_true rfl, Nat.le_of_ble_eq_true rfl⟩ (fun u H locs hq hP hS => ?_)
    cases hq
    have hP : va_P D classes (wl_X5_read ad cs tape_size tape_bytes lr_size lr_at u_18 lr_code) H := hP
    have hD : va_D A (wl_X5_read ad cs tape_size tape_bytes lr_size lr_at u_18 lr_code) := zDk hD [(ad 23), (ad 24), (ad 26), (ad 27)] rfl rfl
    exact L_X5_read_64 C0 hK hO hE hA  ih21 lr_size lr_at u_18 lr_code h H locs ls hP hD hS (lv_sub hl [0] rfl)
set_option maxHeartbeats 4000000 in
set_option maxRecDepth 100000 in
theorem L_X5_read_21 {p : Program} {l : Launch} {e : Env} {s : State} {m : MethodId} {args : Array Value} {below : List Frame} {meth : Method} {c : Code} {A : Nat → Prop} {D : va_G} {cs : Nat → ClassId} {ad : Nat → Nat} {tape_size : Int32} {tape_bytes : Nat → Int32} {R : Bool × Int32 × Int32 × Int32 × (Nat → Int32)} {g21 : Int32 → Int32 → Int32 → Int32 → (Nat → Int32) → (Option (Bool × Int32 × Int32 × Int32 × (Nat → Int32)))} (C0 : zC p s m args meth c cX5_read 2 (some (.object "AlreadyJudged$Law")) RX5 zW) (hK : va_K D classes (zT cs) s) {k : (Nat → Nat) × (Nat → Nat)} (hO : zO s) (hE : zE k A s) (hA : ∀ q : Nat, s.heap.size ≤ q → A q) (ih21 : ∀ (x1 : Int32) (lr_size : Int32) (lr_at : Int32) (lr_fault : Int32) (lr_code : Nat → Int32) (h : g21 x1 lr_size lr_at lr_fault lr_code = some R) (H : Heap) (locs : List Loc) (ls : Array Slot) (hP : va_P D classes (wl_X5_read ad cs tape_size tape_bytes lr_size lr_at lr_fault lr_code) H) (hD : va_D A (wl_X5_read ad cs tape_size tape_bytes lr_size lr_at lr_fault lr_code)) (hS : va_S A s.heap H locs) (hl : lv_has ls 2 [(0, .ref (ad 26)), (1, .int x1)]), W p l e rm_X5_read s m args below meth c H locs 0 0 (MQ below (Q_X5_read D cs ad tape_size tape_bytes A R) args s 2 122 A) (F0 m 21 ls [])) (x1 : Int32) (lr_size : Int32) (lr_at : Int32) (lr_fault : Int32) (lr_code : Nat → Int32) (h : B_X5_read_21 g21 tape_size tape_bytes x1 lr_size lr_at lr_fault lr_code = some R) (H : Heap) (locs : List Loc) (ls : Array Slot) (hP : va_P D classes (wl_X5_read ad cs tape_size tape_bytes lr_size lr_at lr_fault lr_code) H) (hD : va_D A (wl_X5_read ad cs tape_size tape_bytes lr_size lr_at lr_fault lr_code)) (hS : va_S A s.heap H locs) (hl : lv_has ls 2 [(0, .ref (ad 26)), (1, .int x1)]) : W p l e rm_X5_read s m args below meth c H locs 0 0 (MQ below (Q_X5_read D cs ad tape_size tape_bytes A R) args s 2 122 A) (F0 m 21 ls []) := by
  obtain ⟨hx, hb, hr, hml, hown, ht, hlocks⟩ := id C0
  refine lv_iload_n hx hb dX5_read_21 rfl (lv_at hl 1 rfl) ?_
  refine lv_bipush (v := (120 : Int32)) hx hb dX5_read_22 (by decide) ?_
  refine lv_icmp_ge (tgt := 46) hx hb dX5_read_24 (by decide) (fun c_6 => ?_) (fun c_6 => ?_)
  · have h := zk_t c_6 h
    exact L_X5_read_46 C0 hK hO hE hA  ih21 lr_size lr_at lr_fault lr_code h H locs ls hP hD hS (lv_sub hl [0] rfl)
  · have h := zk_f c_6 h
    refine lv_aload_n hx hb dX5_read_27 rfl (lv_at hl 0 rfl) ?_
    refine lv_bipush (v := (59 : Int32)) hx hb dX5_read_28 (by decide) ?_
    obtain ⟨r_7, u_8, hc_9, h⟩ := zk_o2 h
    refine zz_vi (post := (fun r u => (r, u) = (r_7, u_8))) (w1 := fun u => (wl_X5_accept ad cs tape_size tape_bytes lr_size u lr_fault)) (As := [.int (59 : Int32)]) (rest := []) (c_X5_accept l D cs ad  H.size (59 : Int32) tape_size tape_bytes lr_size lr_at lr_fault (r_7, u_8) hc_9) ⟨hx, hb, hml, hown, ht⟩ (cwV 1 ht g_X5_32 rfl rfl rfl ⟨rfl, hd_X5_accept⟩ ⟨Nat.le_of_ble_eq_true rfl, Nat.le_of_ble_eq_true rfl⟩) (va_recv hK hP (ci := 5) (q0 := 2) rfl rfl) hP hD hS hK hA [0, 1, 2] rfl rfl [(ad 23), (ad 24), (ad 26)] rfl (fun _ => rfl) rfl hl.1 (Nat.le_of_ble_eq_true rfl) dX5_read_30 ⟨Nat.le_of_ble_eq_true rfl, Nat.le_of_ble_eq_true rfl⟩ (fun r u H locs hq hP hS => ?_)
    cases hq
    have hP : va_P D classes (wl_X5_read ad cs tape_size tape_bytes lr_size u_8 lr_fault lr_code) H := hP
    have hD : va_D A (wl_X5_read ad cs tape_size tape_bytes lr_size u_8 lr_fault lr_code) := zDk hD [(ad 23), (ad 24), (ad 26), (ad 27)] rfl rfl
    refine lv_if_eq (tgt := 46) hx hb dX5_read_33 (by decide) (fun c_10 => ?_) (fun c_10 => ?_)
    · have h := zk_t c_10 h
      exact L_X5_read_46 C0 hK hO hE hA  ih21 lr_size u_8 lr_fault lr_code h H locs ls hP hD hS (lv_sub hl [0] rfl)
    · have h := zk_f c_10 h
      refine lv_aload_n hx hb dX5_read_36 rfl (lv_at hl 0 rfl) ?_
      obtain ⟨u_11, u_12, u_13, u_14, hc_15, h⟩ := zk_o4 h
      refine zk_vvE (post := (fun u => u = (u_11, u_12, u_13, u_14))) (w1 := fun u => (wl_X5_readLine ad cs tape_size tape_bytes u.1 u.2.1 u.2.2.1 u.2.2.2)) (As := []) (rest := []) hE hO (c_X5_readLine l D cs ad k H.size tape_size tape_bytes lr_size u_8 lr_fault lr_code (u_11, u_12, u_13, u_14) hc_15) ⟨hx, hb, hml, hown, ht⟩ (cwV 0 ht g_X5_29 rfl rfl rfl ⟨rfl, hd_X5_readLine⟩ ⟨Nat.le_of_ble_eq_true rfl, Nat.le_of_ble_eq_true rfl⟩) (va_recv hK hP (ci := 5) (q0 := 2) rfl rfl) hP hD hS hK hA [0, 1, 2, 3] [] rfl rfl rfl rfl (by decide) rfl hl.1 (Nat.le_of_ble_eq_true rfl) dX5_read_37 ⟨Nat.le_of_ble_eq_true rfl, Nat.le_of_ble_eq_true rfl⟩ (fun u H locs hq hP hD hS => ?_)
      cases hq
      have hP : va_P D classes (wl_X5_read ad cs tape_size tape_bytes u_11 u_12 u_13 u_14) H := hP.sub [0, 1, 2, 3] rfl
      have hD : va_D A (wl_X5_read ad cs tape_size tape_bytes u_11 u_12 u_13 u_14) := hD.sub [0, 1, 2, 3] rfl rfl
      obtain ⟨v_16, ev_16, h⟩ := zk_lt h
      refine lv_iinc (v := v_16) (lv' := [(1, .int v_16), (0, .ref (ad 26))]) hx hb dX5_read_40 hl (k := 1) rfl (by rw [ev_16]; rfl) (by decide) rfl (fun ls hl => ?_)
      refine lv_goto (tgt := 21) hx hb dX5_read_43 (by decide) ?_
      exact ih21 v_16 u_11 u_12 u_13 u_14 h H locs ls hP hD hS (lv_sub hl [1, 0] rfl)
set_option maxHeartbeats 4000000 in
set_option maxRecDepth 100000 in
theorem L_X5_read_0 {p : Program} {l : Launch} {e : Env} {s : State} {m : MethodId} {args : Array Value} {below : List Frame} {meth : Method} {c : Code} {A : Nat → Prop} {D : va_G} {cs : Nat → ClassId} {ad : Nat → Nat} {tape_size : Int32} {tape_bytes : Nat → Int32} {R : Bool × Int32 × Int32 × Int32 × (Nat → Int32)} {g21 : Int32 → Int32 → Int32 → Int32 → (Nat → Int32) → (Option (Bool × Int32 × Int32 × Int32 × (Nat → Int32)))} (C0 : zC p s m args meth c cX5_read 2 (some (.object "AlreadyJudged$Law")) RX5 zW) (hK : va_K D classes (zT cs) s) {k : (Nat → Nat) × (Nat → Nat)} (hO : zO s) (hE : zE k A s) (hA : ∀ q : Nat, s.heap.size ≤ q → A q) (ih21 : ∀ (x1 : Int32) (lr_size : Int32) (lr_at : Int32) (lr_fault : Int32) (lr_code : Nat → Int32) (h : g21 x1 lr_size lr_at lr_fault lr_code = some R) (H : Heap) (locs : List Loc) (ls : Array Slot) (hP : va_P D classes (wl_X5_read ad cs tape_size tape_bytes lr_size lr_at lr_fault lr_code) H) (hD : va_D A (wl_X5_read ad cs tape_size tape_bytes lr_size lr_at lr_fault lr_code)) (hS : va_S A s.heap H locs) (hl : lv_has ls 2 [(0, .ref (ad 26)), (1, .int x1)]), W p l e rm_X5_read s m args below meth c H locs 0 0 (MQ below (Q_X5_read D cs ad tape_size tape_bytes A R) args s 2 122 A) (F0 m 21 ls [])) (lr_size : Int32) (lr_at : Int32) (lr_fault : Int32) (lr_code : Nat → Int32) (h : B_X5_read_0 g21 tape_size tape_bytes lr_size lr_at lr_fault lr_code = some R) (H : Heap) (locs : List Loc) (ls : Array Slot) (hP : va_P D classes (wl_X5_read ad cs tape_size tape_bytes lr_size lr_at lr_fault lr_code) H) (hD : va_D A (wl_X5_read ad cs tape_size tape_bytes lr_size lr_at lr_fault lr_code)) (hS : va_S A s.heap H locs) (hl : lv_has ls 2 [(0, .ref (ad 26))]) : W p l e rm_X5_read s m args below meth c H locs 0 0 (MQ below (Q_X5_read D cs ad tape_size tape_bytes A R) args s 2 122 A) (F0 m 0 ls []) := by
  obtain ⟨hx, hb, hr, hml, hown, ht, hlocks⟩ := id C0
  refine lv_aload_n hx hb dX5_read_0 rfl (lv_at hl 0 rfl) ?_
  refine lv_iconst (v := (0 : Int32)) hx hb dX5_read_1 (by decide) ?_
  refine va_put (D := D) (ci := 5) (v := .int (0 : Int32)) (ty := .int) (C := RX5) (T := TX5) (N := 5) hx hb ht iX5 tyX5 tyX5_ok nmX5 hown hK hP hD hS 2 rfl rfl 3 (by decide) (ht _ kw_277) (fun _ h9 => h9) rfl (by decide +kernel) rfl rfl (Nat.le_of_ble_eq_true rfl) dX5_read_2 (fun H locs hP hD hS => ?_)
  have hP : va_P D classes (wl_X5_read ad cs tape_size tape_bytes lr_size (0 : Int32) lr_fault lr_code) H := hP
  have hD : va_D A (wl_X5_read ad cs tape_size tape_bytes lr_size (0 : Int32) lr_fault lr_code) := hD
  refine lv_aload_n hx hb dX5_read_5 rfl (lv_at hl 0 rfl) ?_
  refine lv_iconst (v := (0 : Int32)) hx hb dX5_read_6 (by decide) ?_
  refine va_put (D := D) (ci := 5) (v := .int (0 : Int32)) (ty := .int) (C := RX5) (T := TX5) (N := 5) hx hb ht iX5 tyX5 tyX5_ok nmX5 hown hK hP hD hS 2 rfl rfl 2 (by decide) (ht _ kw_276) (fun _ h9 => h9) rfl (by decide +kernel) rfl rfl (Nat.le_of_ble_eq_true rfl) dX5_read_7 (fun H locs hP hD hS => ?_)
  have hP : va_P D classes (wl_X5_read ad cs tape_size tape_bytes (0 : Int32) (0 : Int32) lr_fault lr_code) H := hP
  have hD : va_D A (wl_X5_read ad cs tape_size tape_bytes (0 : Int32) (0 : Int32) lr_fault lr_code) := hD
  refine lv_aload_n hx hb dX5_read_10 rfl (lv_at hl 0 rfl) ?_
  refine lv_iconst (v := (-1 : Int32)) hx hb dX5_read_11 (by decide) ?_
  refine va_put (D := D) (ci := 5) (v := .int (-1 : Int32)) (ty := .int) (C := RX5) (T := TX5) (N := 5) hx hb ht iX5 tyX5 tyX5_ok nmX5 hown hK hP hD hS 2 rfl rfl 4 (by decide) (ht _ kw_278) (fun _ h9 => h9) rfl (by decide +kernel) rfl rfl (Nat.le_of_ble_eq_true rfl) dX5_read_12 (fun H locs hP hD hS => ?_)
  have hP : va_P D classes (wl_X5_read ad cs tape_size tape_bytes (0 : Int32) (0 : Int32) (-1 : Int32) lr_code) H := hP
  have hD : va_D A (wl_X5_read ad cs tape_size tape_bytes (0 : Int32) (0 : Int32) (-1 : Int32) lr_code) := hD
  refine lv_aload_n hx hb dX5_read_15 rfl (lv_at hl 0 rfl) ?_
  obtain ⟨u_1, u_2, u_3, u_4, hc_5, h⟩ := zk_o4 h
  refine zk_vvE (post := (fun u => u = (u_1, u_2, u_3, u_4))) (w1 := fun u => (wl_X5_readLine ad cs tape_size tape_bytes u.1 u.2.1 u.2.2.1 u.2.2.2)) (As := []) (rest := []) hE hO (c_X5_readLine l D cs ad k H.size tape_size tape_bytes (0 : Int32) (0 : Int32) (-1 : Int32) lr_code (u_1, u_2, u_3, u_4) hc_5) ⟨hx, hb, hml, hown, ht⟩ (cwV 0 ht g_X5_29 rfl rfl rfl ⟨rfl, hd_X5_readLine⟩ ⟨Nat.le_of_ble_eq_true rfl, Nat.le_of_ble_eq_true rfl⟩) (va_recv hK hP (ci := 5) (q0 := 2) rfl rfl) hP hD hS hK hA [0, 1, 2, 3] [] rfl rfl rfl rfl (by decide) rfl hl.1 (Nat.le_of_ble_eq_true rfl) dX5_read_16 ⟨Nat.le_of_ble_eq_true rfl, Nat.le_of_ble_eq_true rfl⟩ (fun u H locs hq hP hD hS => ?_)
  cases hq
  have hP : va_P D classes (wl_X5_read ad cs tape_size tape_bytes u_1 u_2 u_3 u_4) H := hP.sub [0, 1, 2, 3] rfl
  have hD : va_D A (wl_X5_read ad cs tape_size tape_bytes u_1 u_2 u_3 u_4) := hD.sub [0, 1, 2, 3] rfl rfl
  refine lv_iconst (v := (0 : Int32)) hx hb dX5_read_19 (by decide) ?_
  refine lv_istore_n (lv' := [(1, .int (0 : Int32)), (0, .ref (ad 26))]) hx hb dX5_read_20 rfl hl (by decide) rfl (fun ls hl => ?_)
  exact ih21 (0 : Int32) u_1 u_2 u_3 u_4 h H locs ls hP hD hS (lv_sub hl [1, 0] rfl)
theorem LG_X5_read {p : Program} {l : Launch} {e : Env} {s : State} {m : MethodId} {args : Array Value} {below : List Frame} {meth : Method} {c : Code} {A : Nat → Prop} {D : va_G} {cs : Nat → ClassId} {ad : Nat → Nat} {tape_size : Int32} {tape_bytes : Nat → Int32} {R : Bool × Int32 × Int32 × Int32 × (Nat → Int32)} (C0 : zC p s m args meth c cX5_read 2 (some (.object "AlreadyJudged$Law")) RX5 zW) (hK : va_K D classes (zT cs) s) {k : (Nat → Nat) × (Nat → Nat)} (hO : zO s) (hE : zE k A s) (hA : ∀ q : Nat, s.heap.size ≤ q → A q) : ∀ n : Nat, (∀ (x1 : Int32) (lr_size : Int32) (lr_at : Int32) (lr_fault : Int32) (lr_code : Nat → Int32) (h : (G_X5_read   tape_size tape_bytes n) x1 lr_size lr_at lr_fault lr_code = some R) (H : Heap) (locs : List Loc) (ls : Array Slot) (hP : va_P D classes (wl_X5_read ad cs tape_size tape_bytes lr_size lr_at lr_fault lr_code) H) (hD : va_D A (wl_X5_read ad cs tape_size tape_bytes lr_size lr_at lr_fault lr_code)) (hS : va_S A s.heap H locs) (hl : lv_has ls 2 [(0, .ref (ad 26)), (1, .int x1)]), W p l e rm_X5_read s m args below meth c H locs 0 0 (MQ below (Q_X5_read D cs ad tape_size tape_bytes A R) args s 2 122 A) (F0 m 21 ls [])) := by
  intro n
  induction n with
  | zero =>
    refine ?_ <;> (intros; rename_i h _ _ _ _ _ _ _; cases h)
  | succ n ih =>
    exact L_X5_read_21 C0 hK hO hE hA  ih
set_option maxHeartbeats 4000000 in
set_option maxRecDepth 100000 in
theorem c_X5_read (l : Launch) (D : va_G) (cs : Nat → ClassId) (ad : Nat → Nat) (k : (Nat → Nat) × (Nat → Nat)) (sz : Nat) (n : Nat)  (tape_size : Int32) (tape_bytes : Nat → Int32) (lr_size : Int32) (lr_at : Int32) (lr_fault : Int32) (lr_code : Nat → Int32) (R : Bool × Int32 × Int32 × Int32 × (Nat → Int32)) (h : f_X5_read   n  tape_size tape_bytes lr_size lr_at lr_fault lr_code = some R) : Met l yX5_read (z_X5_read) rm_X5_read (va_Pc [.ref (ad 26)] (zPreE k D cs (wl_X5_read ad cs tape_size tape_bytes lr_size lr_at lr_fault lr_code) sz)) (Q_X5_read D cs ad tape_size tape_bytes (va_A (wl_X5_read ad cs tape_size tape_bytes lr_size lr_at lr_fault lr_code) sz) R) 2 122 (va_A (wl_X5_read ad cs tape_size tape_bytes lr_size lr_at lr_fault lr_code) sz) := by
  refine Met.ofW (cc := cX5_read) (maxL := 2) (ret := (some (.object "AlreadyJudged$Law"))) (by decide) rfl ?_
  intro p e s m args below meth c s₁ B hml hv
  obtain ⟨rfl, ⟨⟨hsz, hP, hK, hD0⟩, hO⟩, hE⟩ := hv
  subst hsz
  have hD := hD0.self (sz := s.heap.size)
  have C0 : zC p s m _ meth c cX5_read 2 (some (.object "AlreadyJudged$Law")) RX5 zW := ⟨B.exec, B.bytes, B.returns, hml, findClass_of_methodNamed B.named, fun w hw => atoms_spec (ws := z_X5_read) B.pre w (List.mem_cons_of_mem _ hw), B.notSynchronized⟩
  have hA : ∀ q : Nat, s.heap.size ≤ q → va_A (wl_X5_read ad cs tape_size tape_bytes lr_size lr_at lr_fault lr_code) s.heap.size q := fun q h => Or.inr h
  have hl := lv_entry ([.ref (ad 26)]) (n := 2) (Nat.le_of_ble_eq_true rfl)
  rw [lg_entry_eq]
  generalize (lg_sl ([.ref (ad 26)]) ++ List.replicate (2 - (lg_sl ([.ref (ad 26)])).length) Slot.unset).toArray = ls at hl ⊢
  exact L_X5_read_0 C0 hK hO hE hA  ((LG_X5_read C0 hK hO hE hA  n))  lr_size lr_at lr_fault lr_code h s.heap [] ls hP hD va_S.rf hl
